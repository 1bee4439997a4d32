-- ===== PART A: goes FIRST, ahead of the names: the tables' words, and 'selects' of the private methods out of them =====
/-- a private method of a class that the tables say can be made, by its rows of tables_1 -/
def lw_okq (q : MethodName × Nat) : Prop := (q.1.cls ≠ "java/lang/invoke/MethodHandle" ∧ q.1.cls ≠ "java/lang/invoke/VarHandle") ∧ Cond.instantiable q.1.cls q.2 ∈ tables_1 ∧ Cond.privateMethod q.1 ∈ tables_1 ∧ Cond.instanceMethod q.1 ∈ tables_1
theorem lw_p0 : lw_okq (⟨"PuppetPitches$State", "forgetLots", "()V"⟩, 13) := ⟨⟨by decide +kernel, by decide +kernel⟩, List.mem_of_getElem? (i := 20) (by decide +kernel), List.mem_of_getElem? (i := 31) (by decide +kernel), List.mem_of_getElem? (i := 32) (by decide +kernel)⟩
theorem lw_p1 : lw_okq (⟨"PuppetPitches$Pad", "stageAfter", "(IC)I"⟩, 5) := ⟨⟨by decide +kernel, by decide +kernel⟩, List.mem_of_getElem? (i := 141) (by decide +kernel), List.mem_of_getElem? (i := 384) (by decide +kernel), List.mem_of_getElem? (i := 385) (by decide +kernel)⟩
theorem lw_p2 : lw_okq (⟨"PuppetPitches$Pad", "readHeight", "(C)I"⟩, 5) := ⟨⟨by decide +kernel, by decide +kernel⟩, List.mem_of_getElem? (i := 141) (by decide +kernel), List.mem_of_getElem? (i := 388) (by decide +kernel), List.mem_of_getElem? (i := 389) (by decide +kernel)⟩
theorem lw_p3 : lw_okq (⟨"PuppetPitches$Pad", "readComma", "(C)I"⟩, 5) := ⟨⟨by decide +kernel, by decide +kernel⟩, List.mem_of_getElem? (i := 141) (by decide +kernel), List.mem_of_getElem? (i := 392) (by decide +kernel), List.mem_of_getElem? (i := 393) (by decide +kernel)⟩
theorem lw_p4 : lw_okq (⟨"PuppetPitches$Pad", "readFirstDigit", "(C)I"⟩, 5) := ⟨⟨by decide +kernel, by decide +kernel⟩, List.mem_of_getElem? (i := 141) (by decide +kernel), List.mem_of_getElem? (i := 396) (by decide +kernel), List.mem_of_getElem? (i := 397) (by decide +kernel)⟩
theorem lw_p5 : lw_okq (⟨"PuppetPitches$Pad", "readPitch", "(I)I"⟩, 5) := ⟨⟨by decide +kernel, by decide +kernel⟩, List.mem_of_getElem? (i := 141) (by decide +kernel), List.mem_of_getElem? (i := 400) (by decide +kernel), List.mem_of_getElem? (i := 401) (by decide +kernel)⟩
theorem lw_p6 : lw_okq (⟨"PuppetPitches", "stoppingFrom", "(ZI)I"⟩, 6) := ⟨⟨by decide +kernel, by decide +kernel⟩, List.mem_of_getElem? (i := 12) (by decide +kernel), List.mem_of_getElem? (i := 426) (by decide +kernel), List.mem_of_getElem? (i := 427) (by decide +kernel)⟩
theorem lw_p7 : lw_okq (⟨"PuppetPitches$State", "hides", "(IIZ)Z"⟩, 13) := ⟨⟨by decide +kernel, by decide +kernel⟩, List.mem_of_getElem? (i := 20) (by decide +kernel), List.mem_of_getElem? (i := 450) (by decide +kernel), List.mem_of_getElem? (i := 451) (by decide +kernel)⟩
theorem lw_p8 : lw_okq (⟨"PuppetPitches", "stoppingNowhere", "()I"⟩, 6) := ⟨⟨by decide +kernel, by decide +kernel⟩, List.mem_of_getElem? (i := 12) (by decide +kernel), List.mem_of_getElem? (i := 464) (by decide +kernel), List.mem_of_getElem? (i := 465) (by decide +kernel)⟩
theorem lw_p9 : lw_okq (⟨"PuppetPitchesModel", "forgets", "()V"⟩, 8) := ⟨⟨by decide +kernel, by decide +kernel⟩, List.mem_of_getElem? (i := 528) (by decide +kernel), List.mem_of_getElem? (i := 534) (by decide +kernel), List.mem_of_getElem? (i := 535) (by decide +kernel)⟩
theorem lw_p10 : lw_okq (⟨"PuppetPitchesModel", "remembers", "()V"⟩, 8) := ⟨⟨by decide +kernel, by decide +kernel⟩, List.mem_of_getElem? (i := 528) (by decide +kernel), List.mem_of_getElem? (i := 574) (by decide +kernel), List.mem_of_getElem? (i := 575) (by decide +kernel)⟩
theorem lw_p11 : lw_okq (⟨"PuppetPitchesModel", "roofs", "()I"⟩, 8) := ⟨⟨by decide +kernel, by decide +kernel⟩, List.mem_of_getElem? (i := 528) (by decide +kernel), List.mem_of_getElem? (i := 585) (by decide +kernel), List.mem_of_getElem? (i := 586) (by decide +kernel)⟩
theorem lw_p12 : lw_okq (⟨"PuppetPitchesModel", "comes", "(II)V"⟩, 8) := ⟨⟨by decide +kernel, by decide +kernel⟩, List.mem_of_getElem? (i := 528) (by decide +kernel), List.mem_of_getElem? (i := 593) (by decide +kernel), List.mem_of_getElem? (i := 594) (by decide +kernel)⟩
theorem lw_p13 : lw_okq (⟨"PuppetPitchesModel", "isBooth", "(I)Z"⟩, 8) := ⟨⟨by decide +kernel, by decide +kernel⟩, List.mem_of_getElem? (i := 528) (by decide +kernel), List.mem_of_getElem? (i := 604) (by decide +kernel), List.mem_of_getElem? (i := 605) (by decide +kernel)⟩
theorem lw_p14 : lw_okq (⟨"PuppetPitchesModel", "its", "(II)I"⟩, 8) := ⟨⟨by decide +kernel, by decide +kernel⟩, List.mem_of_getElem? (i := 528) (by decide +kernel), List.mem_of_getElem? (i := 608) (by decide +kernel), List.mem_of_getElem? (i := 609) (by decide +kernel)⟩
theorem lw_p15 : lw_okq (⟨"PuppetPitchesModel", "isOthers", "(II)Z"⟩, 8) := ⟨⟨by decide +kernel, by decide +kernel⟩, List.mem_of_getElem? (i := 528) (by decide +kernel), List.mem_of_getElem? (i := 620) (by decide +kernel), List.mem_of_getElem? (i := 621) (by decide +kernel)⟩
def lw_privs_1 : List (MethodName × Nat) := [(⟨"PuppetPitches$State", "forgetLots", "()V"⟩, 13), (⟨"PuppetPitches$Pad", "stageAfter", "(IC)I"⟩, 5), (⟨"PuppetPitches$Pad", "readHeight", "(C)I"⟩, 5), (⟨"PuppetPitches$Pad", "readComma", "(C)I"⟩, 5), (⟨"PuppetPitches$Pad", "readFirstDigit", "(C)I"⟩, 5), (⟨"PuppetPitches$Pad", "readPitch", "(I)I"⟩, 5), (⟨"PuppetPitches", "stoppingFrom", "(ZI)I"⟩, 6), (⟨"PuppetPitches$State", "hides", "(IIZ)Z"⟩, 13), (⟨"PuppetPitches", "stoppingNowhere", "()I"⟩, 6), (⟨"PuppetPitchesModel", "forgets", "()V"⟩, 8), (⟨"PuppetPitchesModel", "remembers", "()V"⟩, 8), (⟨"PuppetPitchesModel", "roofs", "()I"⟩, 8), (⟨"PuppetPitchesModel", "comes", "(II)V"⟩, 8), (⟨"PuppetPitchesModel", "isBooth", "(I)Z"⟩, 8), (⟨"PuppetPitchesModel", "its", "(II)I"⟩, 8), (⟨"PuppetPitchesModel", "isOthers", "(II)Z"⟩, 8)]
theorem lw_r1 : ∀ q ∈ lw_privs_1, lw_okq q := List.forall_mem_cons.mpr ⟨lw_p0, List.forall_mem_cons.mpr ⟨lw_p1, List.forall_mem_cons.mpr ⟨lw_p2, List.forall_mem_cons.mpr ⟨lw_p3, List.forall_mem_cons.mpr ⟨lw_p4, List.forall_mem_cons.mpr ⟨lw_p5, List.forall_mem_cons.mpr ⟨lw_p6, List.forall_mem_cons.mpr ⟨lw_p7, List.forall_mem_cons.mpr ⟨lw_p8, List.forall_mem_cons.mpr ⟨lw_p9, List.forall_mem_cons.mpr ⟨lw_p10, List.forall_mem_cons.mpr ⟨lw_p11, List.forall_mem_cons.mpr ⟨lw_p12, List.forall_mem_cons.mpr ⟨lw_p13, List.forall_mem_cons.mpr ⟨lw_p14, List.forall_mem_cons.mpr ⟨lw_p15, fun _ h => absurd h List.not_mem_nil⟩⟩⟩⟩⟩⟩⟩⟩⟩⟩⟩⟩⟩⟩⟩⟩
theorem lw_p16 : lw_okq (⟨"PuppetPitchesModel", "boothAt", "(II)I"⟩, 8) := ⟨⟨by decide +kernel, by decide +kernel⟩, List.mem_of_getElem? (i := 528) (by decide +kernel), List.mem_of_getElem? (i := 624) (by decide +kernel), List.mem_of_getElem? (i := 625) (by decide +kernel)⟩
theorem lw_p17 : lw_okq (⟨"PuppetPitchesModel", "plays", "(I)I"⟩, 8) := ⟨⟨by decide +kernel, by decide +kernel⟩, List.mem_of_getElem? (i := 528) (by decide +kernel), List.mem_of_getElem? (i := 636) (by decide +kernel), List.mem_of_getElem? (i := 637) (by decide +kernel)⟩
theorem lw_p18 : lw_okq (⟨"PuppetPitchesModel", "lots", "(I)V"⟩, 8) := ⟨⟨by decide +kernel, by decide +kernel⟩, List.mem_of_getElem? (i := 528) (by decide +kernel), List.mem_of_getElem? (i := 640) (by decide +kernel), List.mem_of_getElem? (i := 641) (by decide +kernel)⟩
theorem lw_p19 : lw_okq (⟨"PuppetPitchesModel", "draws", "(II)I"⟩, 8) := ⟨⟨by decide +kernel, by decide +kernel⟩, List.mem_of_getElem? (i := 528) (by decide +kernel), List.mem_of_getElem? (i := 644) (by decide +kernel), List.mem_of_getElem? (i := 645) (by decide +kernel)⟩
theorem lw_p20 : lw_okq (⟨"PuppetPitchesModel", "chooses", "(II)V"⟩, 8) := ⟨⟨by decide +kernel, by decide +kernel⟩, List.mem_of_getElem? (i := 528) (by decide +kernel), List.mem_of_getElem? (i := 652) (by decide +kernel), List.mem_of_getElem? (i := 653) (by decide +kernel)⟩
theorem lw_p21 : lw_okq (⟨"PuppetPitchesModel", "isFree", "(II)Z"⟩, 8) := ⟨⟨by decide +kernel, by decide +kernel⟩, List.mem_of_getElem? (i := 528) (by decide +kernel), List.mem_of_getElem? (i := 656) (by decide +kernel), List.mem_of_getElem? (i := 657) (by decide +kernel)⟩
theorem lw_p22 : lw_okq (⟨"PuppetPitchesModel", "crowdAt", "(III)I"⟩, 8) := ⟨⟨by decide +kernel, by decide +kernel⟩, List.mem_of_getElem? (i := 528) (by decide +kernel), List.mem_of_getElem? (i := 660) (by decide +kernel), List.mem_of_getElem? (i := 661) (by decide +kernel)⟩
theorem lw_p23 : lw_okq (⟨"PuppetPitchesModel", "crowds", "(I)I"⟩, 8) := ⟨⟨by decide +kernel, by decide +kernel⟩, List.mem_of_getElem? (i := 528) (by decide +kernel), List.mem_of_getElem? (i := 664) (by decide +kernel), List.mem_of_getElem? (i := 665) (by decide +kernel)⟩
theorem lw_p24 : lw_okq (⟨"PuppetPitchesModel", "goes", "(II)I"⟩, 8) := ⟨⟨by decide +kernel, by decide +kernel⟩, List.mem_of_getElem? (i := 528) (by decide +kernel), List.mem_of_getElem? (i := 668) (by decide +kernel), List.mem_of_getElem? (i := 669) (by decide +kernel)⟩
theorem lw_p25 : lw_okq (⟨"PuppetPitchesModel", "crowdOf", "(I)I"⟩, 8) := ⟨⟨by decide +kernel, by decide +kernel⟩, List.mem_of_getElem? (i := 528) (by decide +kernel), List.mem_of_getElem? (i := 672) (by decide +kernel), List.mem_of_getElem? (i := 673) (by decide +kernel)⟩
theorem lw_p26 : lw_okq (⟨"PuppetPitchesModel", "crowd", "(II)I"⟩, 8) := ⟨⟨by decide +kernel, by decide +kernel⟩, List.mem_of_getElem? (i := 528) (by decide +kernel), List.mem_of_getElem? (i := 680) (by decide +kernel), List.mem_of_getElem? (i := 681) (by decide +kernel)⟩
theorem lw_p27 : lw_okq (⟨"PuppetPitchesModel", "highest", "(II)I"⟩, 8) := ⟨⟨by decide +kernel, by decide +kernel⟩, List.mem_of_getElem? (i := 528) (by decide +kernel), List.mem_of_getElem? (i := 692) (by decide +kernel), List.mem_of_getElem? (i := 693) (by decide +kernel)⟩
theorem lw_p28 : lw_okq (⟨"PuppetPitchesModel", "isHidden", "(II)Z"⟩, 8) := ⟨⟨by decide +kernel, by decide +kernel⟩, List.mem_of_getElem? (i := 528) (by decide +kernel), List.mem_of_getElem? (i := 696) (by decide +kernel), List.mem_of_getElem? (i := 697) (by decide +kernel)⟩
theorem lw_p29 : lw_okq (⟨"PuppetPitchesModel", "hides", "(III)Z"⟩, 8) := ⟨⟨by decide +kernel, by decide +kernel⟩, List.mem_of_getElem? (i := 528) (by decide +kernel), List.mem_of_getElem? (i := 700) (by decide +kernel), List.mem_of_getElem? (i := 701) (by decide +kernel)⟩
theorem lw_p30 : lw_okq (⟨"PuppetPitchesModel", "standing", "()I"⟩, 8) := ⟨⟨by decide +kernel, by decide +kernel⟩, List.mem_of_getElem? (i := 528) (by decide +kernel), List.mem_of_getElem? (i := 708) (by decide +kernel), List.mem_of_getElem? (i := 709) (by decide +kernel)⟩
theorem lw_p31 : lw_okq (⟨"PuppetPitchesModel", "crowdsNow", "()I"⟩, 8) := ⟨⟨by decide +kernel, by decide +kernel⟩, List.mem_of_getElem? (i := 528) (by decide +kernel), List.mem_of_getElem? (i := 712) (by decide +kernel), List.mem_of_getElem? (i := 713) (by decide +kernel)⟩
def lw_privs_2 : List (MethodName × Nat) := [(⟨"PuppetPitchesModel", "boothAt", "(II)I"⟩, 8), (⟨"PuppetPitchesModel", "plays", "(I)I"⟩, 8), (⟨"PuppetPitchesModel", "lots", "(I)V"⟩, 8), (⟨"PuppetPitchesModel", "draws", "(II)I"⟩, 8), (⟨"PuppetPitchesModel", "chooses", "(II)V"⟩, 8), (⟨"PuppetPitchesModel", "isFree", "(II)Z"⟩, 8), (⟨"PuppetPitchesModel", "crowdAt", "(III)I"⟩, 8), (⟨"PuppetPitchesModel", "crowds", "(I)I"⟩, 8), (⟨"PuppetPitchesModel", "goes", "(II)I"⟩, 8), (⟨"PuppetPitchesModel", "crowdOf", "(I)I"⟩, 8), (⟨"PuppetPitchesModel", "crowd", "(II)I"⟩, 8), (⟨"PuppetPitchesModel", "highest", "(II)I"⟩, 8), (⟨"PuppetPitchesModel", "isHidden", "(II)Z"⟩, 8), (⟨"PuppetPitchesModel", "hides", "(III)Z"⟩, 8), (⟨"PuppetPitchesModel", "standing", "()I"⟩, 8), (⟨"PuppetPitchesModel", "crowdsNow", "()I"⟩, 8)]
theorem lw_r2 : ∀ q ∈ lw_privs_2, lw_okq q := List.forall_mem_cons.mpr ⟨lw_p16, List.forall_mem_cons.mpr ⟨lw_p17, List.forall_mem_cons.mpr ⟨lw_p18, List.forall_mem_cons.mpr ⟨lw_p19, List.forall_mem_cons.mpr ⟨lw_p20, List.forall_mem_cons.mpr ⟨lw_p21, List.forall_mem_cons.mpr ⟨lw_p22, List.forall_mem_cons.mpr ⟨lw_p23, List.forall_mem_cons.mpr ⟨lw_p24, List.forall_mem_cons.mpr ⟨lw_p25, List.forall_mem_cons.mpr ⟨lw_p26, List.forall_mem_cons.mpr ⟨lw_p27, List.forall_mem_cons.mpr ⟨lw_p28, List.forall_mem_cons.mpr ⟨lw_p29, List.forall_mem_cons.mpr ⟨lw_p30, List.forall_mem_cons.mpr ⟨lw_p31, fun _ h => absurd h List.not_mem_nil⟩⟩⟩⟩⟩⟩⟩⟩⟩⟩⟩⟩⟩⟩⟩⟩
theorem lw_p32 : lw_okq (⟨"PuppetPitchesModel", "copies", "()V"⟩, 8) := ⟨⟨by decide +kernel, by decide +kernel⟩, List.mem_of_getElem? (i := 528) (by decide +kernel), List.mem_of_getElem? (i := 732) (by decide +kernel), List.mem_of_getElem? (i := 733) (by decide +kernel)⟩
theorem lw_p33 : lw_okq (⟨"PuppetPitchesModel", "partEnd", "(I)I"⟩, 8) := ⟨⟨by decide +kernel, by decide +kernel⟩, List.mem_of_getElem? (i := 528) (by decide +kernel), List.mem_of_getElem? (i := 753) (by decide +kernel), List.mem_of_getElem? (i := 754) (by decide +kernel)⟩
theorem lw_p34 : lw_okq (⟨"PuppetPitchesModel", "digit", "(I)I"⟩, 8) := ⟨⟨by decide +kernel, by decide +kernel⟩, List.mem_of_getElem? (i := 528) (by decide +kernel), List.mem_of_getElem? (i := 757) (by decide +kernel), List.mem_of_getElem? (i := 758) (by decide +kernel)⟩
theorem lw_p35 : lw_okq (⟨"PuppetPitchesModel", "sign", "(I)I"⟩, 8) := ⟨⟨by decide +kernel, by decide +kernel⟩, List.mem_of_getElem? (i := 528) (by decide +kernel), List.mem_of_getElem? (i := 761) (by decide +kernel), List.mem_of_getElem? (i := 762) (by decide +kernel)⟩
theorem lw_p36 : lw_okq (⟨"PuppetPitchesModel", "isTwice", "()Z"⟩, 8) := ⟨⟨by decide +kernel, by decide +kernel⟩, List.mem_of_getElem? (i := 528) (by decide +kernel), List.mem_of_getElem? (i := 770) (by decide +kernel), List.mem_of_getElem? (i := 771) (by decide +kernel)⟩
theorem lw_p37 : lw_okq (⟨"PuppetPitchesModel", "pitchOf", "(I)I"⟩, 8) := ⟨⟨by decide +kernel, by decide +kernel⟩, List.mem_of_getElem? (i := 528) (by decide +kernel), List.mem_of_getElem? (i := 774) (by decide +kernel), List.mem_of_getElem? (i := 775) (by decide +kernel)⟩
def lw_privs_3 : List (MethodName × Nat) := [(⟨"PuppetPitchesModel", "copies", "()V"⟩, 8), (⟨"PuppetPitchesModel", "partEnd", "(I)I"⟩, 8), (⟨"PuppetPitchesModel", "digit", "(I)I"⟩, 8), (⟨"PuppetPitchesModel", "sign", "(I)I"⟩, 8), (⟨"PuppetPitchesModel", "isTwice", "()Z"⟩, 8), (⟨"PuppetPitchesModel", "pitchOf", "(I)I"⟩, 8)]
theorem lw_r3 : ∀ q ∈ lw_privs_3, lw_okq q := List.forall_mem_cons.mpr ⟨lw_p32, List.forall_mem_cons.mpr ⟨lw_p33, List.forall_mem_cons.mpr ⟨lw_p34, List.forall_mem_cons.mpr ⟨lw_p35, List.forall_mem_cons.mpr ⟨lw_p36, List.forall_mem_cons.mpr ⟨lw_p37, fun _ h => absurd h List.not_mem_nil⟩⟩⟩⟩⟩⟩
def lw_privs : List (MethodName × Nat) := lw_privs_1 ++ (lw_privs_2 ++ (lw_privs_3))
def lw_tbl : List Cond := k2_sels lw_privs ++ tables_1
theorem lw_privs_ok : ∀ q ∈ lw_privs, lw_okq q := by
  show ∀ q ∈ lw_privs_1 ++ (lw_privs_2 ++ (lw_privs_3)), lw_okq q
  exact List.forall_mem_append.mpr ⟨lw_r1, List.forall_mem_append.mpr ⟨lw_r2, lw_r3⟩⟩
-- ===== end of PART A; then your names; then what follows =====
def RX0 : String := "PuppetPitches$Day"
def TX0 : u_T := fun k => match k with
  | _ => ("", "", "", false)
def tyX0 : Nat → FieldType := fun k => match k with
  | _ => .int
abbrev wsX00 : List Cond := u_ws RX0 TX0 0
theorem nmX0 : ∀ a, a < 0 → ∀ b, b < 0 → a ≠ b → (TX0 a).2.1 ≠ (TX0 b).2.1 := by decide +kernel
theorem tyX0_ok : ∀ k, k < 0 → parseFieldDescriptor (TX0 k).2.2.1 = some (tyX0 k) := by decide +kernel
abbrev cX0_pass : ByteArray := prog_2_method_2_code
def yX0_pass : MethodName := ⟨RX0, "pass", "(LPuppetPitches$State;LPuppetPitches$View;)I"⟩
abbrev cX0_drawLots : ByteArray := prog_2_method_3_code
def yX0_drawLots : MethodName := ⟨RX0, "drawLots", "(LPuppetPitches$State;)V"⟩
abbrev cX0_choosePitches : ByteArray := prog_2_method_4_code
def yX0_choosePitches : MethodName := ⟨RX0, "choosePitches", "(LPuppetPitches$State;LPuppetPitches$View;)V"⟩
abbrev cX0_passHats : ByteArray := prog_2_method_5_code
def yX0_passHats : MethodName := ⟨RX0, "passHats", "(LPuppetPitches$State;LPuppetPitches$View;Z)I"⟩
def RX1 : String := "PuppetPitches$History"
def TX1 : u_T := fun k => match k with
  | 0 => ("PuppetPitches$History", "states", "[LPuppetPitches$State;", true)
  | 1 => ("PuppetPitches$History", "next", "I", false)
  | _ => ("PuppetPitches$History", "kept", "I", false)
def tyX1 : Nat → FieldType := fun k => match k with
  | 0 => .array (.object "PuppetPitches$State")
  | 1 => .int
  | _ => .int
abbrev wsX10 : List Cond := u_ws RX1 TX1 3
theorem nmX1 : ∀ a, a < 3 → ∀ b, b < 3 → a ≠ b → (TX1 a).2.1 ≠ (TX1 b).2.1 := by decide +kernel
theorem tyX1_ok : ∀ k, k < 3 → parseFieldDescriptor (TX1 k).2.2.1 = some (tyX1 k) := by decide +kernel
abbrev cX1_init : ByteArray := prog_3_method_1_code
def yX1_init : MethodName := ⟨RX1, "<init>", "()V"⟩
abbrev cX1_record : ByteArray := prog_3_method_2_code
def yX1_record : MethodName := ⟨RX1, "record", "(LPuppetPitches$State;)V"⟩
abbrev cX1_takeBack : ByteArray := prog_3_method_3_code
def yX1_takeBack : MethodName := ⟨RX1, "takeBack", "(LPuppetPitches$State;)V"⟩
def RX2 : String := "PuppetPitches$Pad"
def TX2 : u_T := fun k => match k with
  | 0 => ("PuppetPitches$Pad", "text", "[C", true)
  | 1 => ("PuppetPitches$Pad", "length", "I", false)
  | 2 => ("PuppetPitches$Pad", "parts", "I", false)
  | 3 => ("PuppetPitches$Pad", "heights", "[I", true)
  | _ => ("PuppetPitches$Pad", "places", "[I", true)
def tyX2 : Nat → FieldType := fun k => match k with
  | 0 => .array .char
  | 1 => .int
  | 2 => .int
  | 3 => .array .int
  | _ => .array .int
abbrev wsX20 : List Cond := u_ws RX2 TX2 5
theorem nmX2 : ∀ a, a < 5 → ∀ b, b < 5 → a ≠ b → (TX2 a).2.1 ≠ (TX2 b).2.1 := by decide +kernel
theorem tyX2_ok : ∀ k, k < 5 → parseFieldDescriptor (TX2 k).2.2.1 = some (tyX2 k) := by decide +kernel
abbrev cX2_init : ByteArray := prog_4_method_1_code
def yX2_init : MethodName := ⟨RX2, "<init>", "()V"⟩
abbrev cX2_countLetters : ByteArray := prog_4_method_2_code
def yX2_countLetters : MethodName := ⟨RX2, "countLetters", "(J)I"⟩
abbrev cX2_append : ByteArray := prog_4_method_3_code
def yX2_append : MethodName := ⟨RX2, "append", "(JI)V"⟩
abbrev cX2_findFault : ByteArray := prog_4_method_4_code
def yX2_findFault : MethodName := ⟨RX2, "findFault", "()I"⟩
abbrev cX2_stageAfter : ByteArray := prog_4_method_5_code
def yX2_stageAfter : MethodName := ⟨RX2, "stageAfter", "(IC)I"⟩
abbrev cX2_readHeight : ByteArray := prog_4_method_6_code
def yX2_readHeight : MethodName := ⟨RX2, "readHeight", "(C)I"⟩
abbrev cX2_readFirstDigit : ByteArray := prog_4_method_7_code
def yX2_readFirstDigit : MethodName := ⟨RX2, "readFirstDigit", "(C)I"⟩
abbrev cX2_readPitch : ByteArray := prog_4_method_8_code
def yX2_readPitch : MethodName := ⟨RX2, "readPitch", "(I)I"⟩
abbrev cX2_readComma : ByteArray := prog_4_method_9_code
def yX2_readComma : MethodName := ⟨RX2, "readComma", "(C)I"⟩
abbrev cX2_hasSharedPitch : ByteArray := prog_4_method_10_code
def yX2_hasSharedPitch : MethodName := ⟨RX2, "hasSharedPitch", "()Z"⟩
def RX3 : String := "PuppetPitches$State"
def TX3 : u_T := fun k => match k with
  | 0 => ("PuppetPitches$State", "settings", "[I", true)
  | 1 => ("PuppetPitches$State", "x", "J", false)
  | 2 => ("PuppetPitches$State", "roofs", "I", false)
  | 3 => ("PuppetPitches$State", "days", "I", false)
  | 4 => ("PuppetPitches$State", "rainyDays", "I", false)
  | 5 => ("PuppetPitches$State", "takings", "I", false)
  | 6 => ("PuppetPitches$State", "booths", "I", false)
  | 7 => ("PuppetPitches$State", "heights", "[I", true)
  | 8 => ("PuppetPitches$State", "places", "[I", true)
  | 9 => ("PuppetPitches$State", "hats", "[I", true)
  | 10 => ("PuppetPitches$State", "firsts", "[I", true)
  | 11 => ("PuppetPitches$State", "idleDays", "[I", true)
  | _ => ("PuppetPitches$State", "lots", "[I", true)
def tyX3 : Nat → FieldType := fun k => match k with
  | 0 => .array .int
  | 1 => .long
  | 2 => .int
  | 3 => .int
  | 4 => .int
  | 5 => .int
  | 6 => .int
  | 7 => .array .int
  | 8 => .array .int
  | 9 => .array .int
  | 10 => .array .int
  | 11 => .array .int
  | _ => .array .int
abbrev wsX30 : List Cond := u_ws RX3 TX3 13
theorem nmX3 : ∀ a, a < 13 → ∀ b, b < 13 → a ≠ b → (TX3 a).2.1 ≠ (TX3 b).2.1 := by decide +kernel
theorem tyX3_ok : ∀ k, k < 13 → parseFieldDescriptor (TX3 k).2.2.1 = some (tyX3 k) := by decide +kernel
abbrev cX3_init : ByteArray := prog_5_method_1_code
def yX3_init : MethodName := ⟨RX3, "<init>", "()V"⟩
abbrev cX3_copyFrom : ByteArray := prog_5_method_2_code
def yX3_copyFrom : MethodName := ⟨RX3, "copyFrom", "(LPuppetPitches$State;)V"⟩
abbrev cX3_setting : ByteArray := prog_5_method_3_code
def yX3_setting : MethodName := ⟨RX3, "setting", "(I)I"⟩
abbrev cX3_changeSetting : ByteArray := prog_5_method_4_code
def yX3_changeSetting : MethodName := ⟨RX3, "changeSetting", "(II)V"⟩
abbrev cX3_isRoofed : ByteArray := prog_5_method_5_code
def yX3_isRoofed : MethodName := ⟨RX3, "isRoofed", "(I)Z"⟩
abbrev cX3_isBooth : ByteArray := prog_5_method_6_code
def yX3_isBooth : MethodName := ⟨RX3, "isBooth", "(I)Z"⟩
abbrev cX3_isStanding : ByteArray := prog_5_method_7_code
def yX3_isStanding : MethodName := ⟨RX3, "isStanding", "(I)Z"⟩
abbrev cX3_countStanding : ByteArray := prog_5_method_8_code
def yX3_countStanding : MethodName := ⟨RX3, "countStanding", "()I"⟩
abbrev cX3_boothAt : ByteArray := prog_5_method_9_code
def yX3_boothAt : MethodName := ⟨RX3, "boothAt", "(I)I"⟩
abbrev cX3_isTakenByOther : ByteArray := prog_5_method_10_code
def yX3_isTakenByOther : MethodName := ⟨RX3, "isTakenByOther", "(II)Z"⟩
abbrev cX3_isHidden : ByteArray := prog_5_method_11_code
def yX3_isHidden : MethodName := ⟨RX3, "isHidden", "(IZ)Z"⟩
abbrev cX3_hides : ByteArray := prog_5_method_12_code
def yX3_hides : MethodName := ⟨RX3, "hides", "(IIZ)Z"⟩
abbrev cX3_addBooth : ByteArray := prog_5_method_13_code
def yX3_addBooth : MethodName := ⟨RX3, "addBooth", "(II)V"⟩
abbrev cX3_removeBooth : ByteArray := prog_5_method_14_code
def yX3_removeBooth : MethodName := ⟨RX3, "removeBooth", "(I)V"⟩
abbrev cX3_closeUp : ByteArray := prog_5_method_15_code
def yX3_closeUp : MethodName := ⟨RX3, "closeUp", "([II)V"⟩
abbrev cX3_forgetBooths : ByteArray := prog_5_method_16_code
def yX3_forgetBooths : MethodName := ⟨RX3, "forgetBooths", "()V"⟩
abbrev cX3_forgetLots : ByteArray := prog_5_method_17_code
def yX3_forgetLots : MethodName := ⟨RX3, "forgetLots", "()V"⟩
abbrev cX3_draw : ByteArray := prog_5_method_18_code
def yX3_draw : MethodName := ⟨RX3, "draw", "(I)I"⟩
def RX4 : String := "PuppetPitches$Stream"
def TX4 : u_T := fun k => match k with
  | 0 => ("PuppetPitches$Stream", "isFromLeft", "Z", true)
  | 1 => ("PuppetPitches$Stream", "arriving", "[I", true)
  | 2 => ("PuppetPitches$Stream", "tallest", "[I", true)
  | 3 => ("PuppetPitches$Stream", "stopShare", "I", false)
  | _ => ("PuppetPitches$Stream", "passing", "I", false)
def tyX4 : Nat → FieldType := fun k => match k with
  | 0 => .boolean
  | 1 => .array .int
  | 2 => .array .int
  | 3 => .int
  | _ => .int
abbrev wsX40 : List Cond := u_ws RX4 TX4 5
theorem nmX4 : ∀ a, a < 5 → ∀ b, b < 5 → a ≠ b → (TX4 a).2.1 ≠ (TX4 b).2.1 := by decide +kernel
theorem tyX4_ok : ∀ k, k < 5 → parseFieldDescriptor (TX4 k).2.2.1 = some (tyX4 k) := by decide +kernel
abbrev cX4_init : ByteArray := prog_6_method_1_code
def yX4_init : MethodName := ⟨RX4, "<init>", "(Z)V"⟩
abbrev cX4_walk : ByteArray := prog_6_method_2_code
def yX4_walk : MethodName := ⟨RX4, "walk", "([III)V"⟩
abbrev cX4_isSeen : ByteArray := prog_6_method_3_code
def yX4_isSeen : MethodName := ⟨RX4, "isSeen", "(II)Z"⟩
abbrev cX4_stopping : ByteArray := prog_6_method_4_code
def yX4_stopping : MethodName := ⟨RX4, "stopping", "(II)I"⟩
def RX5 : String := "PuppetPitches$View"
def TX5 : u_T := fun k => match k with
  | 0 => ("PuppetPitches$View", "tops", "[I", true)
  | 1 => ("PuppetPitches$View", "fromLeft", "LPuppetPitches$Stream;", true)
  | _ => ("PuppetPitches$View", "fromRight", "LPuppetPitches$Stream;", true)
def tyX5 : Nat → FieldType := fun k => match k with
  | 0 => .array .int
  | 1 => .object "PuppetPitches$Stream"
  | _ => .object "PuppetPitches$Stream"
abbrev wsX50 : List Cond := u_ws RX5 TX5 3
theorem nmX5 : ∀ a, a < 3 → ∀ b, b < 3 → a ≠ b → (TX5 a).2.1 ≠ (TX5 b).2.1 := by decide +kernel
theorem tyX5_ok : ∀ k, k < 3 → parseFieldDescriptor (TX5 k).2.2.1 = some (tyX5 k) := by decide +kernel
abbrev cX5_init : ByteArray := prog_7_method_1_code
def yX5_init : MethodName := ⟨RX5, "<init>", "()V"⟩
abbrev cX5_look : ByteArray := prog_7_method_2_code
def yX5_look : MethodName := ⟨RX5, "look", "(LPuppetPitches$State;I)V"⟩
abbrev cX5_clear : ByteArray := prog_7_method_3_code
def yX5_clear : MethodName := ⟨RX5, "clear", "()V"⟩
abbrev cX5_raise : ByteArray := prog_7_method_4_code
def yX5_raise : MethodName := ⟨RX5, "raise", "(II)V"⟩
abbrev cX5_letPeoplePass : ByteArray := prog_7_method_5_code
def yX5_letPeoplePass : MethodName := ⟨RX5, "letPeoplePass", "(LPuppetPitches$State;)V"⟩
abbrev cX5_streamFrom : ByteArray := prog_7_method_6_code
def yX5_streamFrom : MethodName := ⟨RX5, "streamFrom", "(Z)LPuppetPitches$Stream;"⟩
abbrev cX5_crowdAt : ByteArray := prog_7_method_7_code
def yX5_crowdAt : MethodName := ⟨RX5, "crowdAt", "(II)I"⟩
abbrev cX5_isOpen : ByteArray := prog_7_method_8_code
def yX5_isOpen : MethodName := ⟨RX5, "isOpen", "(II)Z"⟩
abbrev cX5_bestOpenPitch : ByteArray := prog_7_method_9_code
def yX5_bestOpenPitch : MethodName := ⟨RX5, "bestOpenPitch", "(II)I"⟩
def RX6 : String := "PuppetPitches"
def TX6 : u_T := fun k => match k with
  | 0 => ("PuppetPitches", "now", "LPuppetPitches$State;", true)
  | 1 => ("PuppetPitches", "foretold", "LPuppetPitches$State;", true)
  | 2 => ("PuppetPitches", "view", "LPuppetPitches$View;", true)
  | 3 => ("PuppetPitches", "pad", "LPuppetPitches$Pad;", true)
  | 4 => ("PuppetPitches", "history", "LPuppetPitches$History;", true)
  | _ => ("PuppetPitches", "slots", "[LPuppetPitches$State;", true)
def tyX6 : Nat → FieldType := fun k => match k with
  | 0 => .object "PuppetPitches$State"
  | 1 => .object "PuppetPitches$State"
  | 2 => .object "PuppetPitches$View"
  | 3 => .object "PuppetPitches$Pad"
  | 4 => .object "PuppetPitches$History"
  | _ => .array (.object "PuppetPitches$State")
abbrev wsX60 : List Cond := u_ws RX6 TX6 6
theorem nmX6 : ∀ a, a < 6 → ∀ b, b < 6 → a ≠ b → (TX6 a).2.1 ≠ (TX6 b).2.1 := by decide +kernel
theorem tyX6_ok : ∀ k, k < 6 → parseFieldDescriptor (TX6 k).2.2.1 = some (tyX6 k) := by decide +kernel
abbrev cX6_init : ByteArray := prog_1_method_1_code
def yX6_init : MethodName := ⟨RX6, "<init>", "()V"⟩
abbrev cX6_set : ByteArray := prog_1_method_2_code
def yX6_set : MethodName := ⟨RX6, "set", "(II)I"⟩
abbrev cX6_roof : ByteArray := prog_1_method_3_code
def yX6_roof : MethodName := ⟨RX6, "roof", "(IZ)I"⟩
abbrev cX6_come : ByteArray := prog_1_method_4_code
def yX6_come : MethodName := ⟨RX6, "come", "(I)I"⟩
abbrev cX6_go : ByteArray := prog_1_method_5_code
def yX6_go : MethodName := ⟨RX6, "go", "(I)I"⟩
abbrev cX6_height : ByteArray := prog_1_method_6_code
def yX6_height : MethodName := ⟨RX6, "height", "(II)I"⟩
abbrev cX6_stand : ByteArray := prog_1_method_7_code
def yX6_stand : MethodName := ⟨RX6, "stand", "(II)I"⟩
abbrev cX6_shuffle : ByteArray := prog_1_method_8_code
def yX6_shuffle : MethodName := ⟨RX6, "shuffle", "(I)I"⟩
abbrev cX6_play : ByteArray := prog_1_method_9_code
def yX6_play : MethodName := ⟨RX6, "play", "()I"⟩
abbrev cX6_read : ByteArray := prog_1_method_10_code
def yX6_read : MethodName := ⟨RX6, "read", "()I"⟩
abbrev cX6_booth : ByteArray := prog_1_method_11_code
def yX6_booth : MethodName := ⟨RX6, "booth", "(II)I"⟩
abbrev cX6_pitch : ByteArray := prog_1_method_12_code
def yX6_pitch : MethodName := ⟨RX6, "pitch", "(II)I"⟩
abbrev cX6_seen : ByteArray := prog_1_method_13_code
def yX6_seen : MethodName := ⟨RX6, "seen", "(III)I"⟩
abbrev cX6_count : ByteArray := prog_1_method_14_code
def yX6_count : MethodName := ⟨RX6, "count", "(I)I"⟩
abbrev cX6_lot : ByteArray := prog_1_method_15_code
def yX6_lot : MethodName := ⟨RX6, "lot", "(I)I"⟩
abbrev cX6_ifStood : ByteArray := prog_1_method_16_code
def yX6_ifStood : MethodName := ⟨RX6, "ifStood", "(II)I"⟩
abbrev cX6_bestPitch : ByteArray := prog_1_method_17_code
def yX6_bestPitch : MethodName := ⟨RX6, "bestPitch", "(I)I"⟩
abbrev cX6_ifPlayed : ByteArray := prog_1_method_18_code
def yX6_ifPlayed : MethodName := ⟨RX6, "ifPlayed", "(II)I"⟩
abbrev cX6_bestHeight : ByteArray := prog_1_method_19_code
def yX6_bestHeight : MethodName := ⟨RX6, "bestHeight", "(I)I"⟩
abbrev cX6_put : ByteArray := prog_1_method_20_code
def yX6_put : MethodName := ⟨RX6, "put", "(J)I"⟩
abbrev cX6_wipe : ByteArray := prog_1_method_21_code
def yX6_wipe : MethodName := ⟨RX6, "wipe", "()I"⟩
abbrev cX6_fault : ByteArray := prog_1_method_22_code
def yX6_fault : MethodName := ⟨RX6, "fault", "()I"⟩
abbrev cX6_undo : ByteArray := prog_1_method_23_code
def yX6_undo : MethodName := ⟨RX6, "undo", "()I"⟩
abbrev cX6_save : ByteArray := prog_1_method_24_code
def yX6_save : MethodName := ⟨RX6, "save", "(I)I"⟩
abbrev cX6_restore : ByteArray := prog_1_method_25_code
def yX6_restore : MethodName := ⟨RX6, "restore", "(I)I"⟩
abbrev cX6_stoppingFrom : ByteArray := prog_1_method_26_code
def yX6_stoppingFrom : MethodName := ⟨RX6, "stoppingFrom", "(ZI)I"⟩
abbrev cX6_stoppingNowhere : ByteArray := prog_1_method_27_code
def yX6_stoppingNowhere : MethodName := ⟨RX6, "stoppingNowhere", "()I"⟩
abbrev cX6_isPitch : ByteArray := prog_1_method_28_code
def yX6_isPitch : MethodName := ⟨RX6, "isPitch", "(I)Z"⟩
abbrev cX6_isHeight : ByteArray := prog_1_method_29_code
def yX6_isHeight : MethodName := ⟨RX6, "isHeight", "(I)Z"⟩
abbrev cX6_copyRow : ByteArray := prog_1_method_30_code
def yX6_copyRow : MethodName := ⟨RX6, "copyRow", "([I[I)V"⟩
def RX7 : String := "PuppetPitchesModel"
def TX7 : u_T := fun k => match k with
  | 0 => ("PuppetPitchesModel", "s", "[I", true)
  | 1 => ("PuppetPitchesModel", "past", "[I", true)
  | 2 => ("PuppetPitchesModel", "known", "I", false)
  | 3 => ("PuppetPitchesModel", "slots", "[I", true)
  | 4 => ("PuppetPitchesModel", "isSaved", "[Z", true)
  | 5 => ("PuppetPitchesModel", "pad", "[I", true)
  | 6 => ("PuppetPitchesModel", "length", "I", false)
  | _ => ("PuppetPitchesModel", "stops", "[I", true)
def tyX7 : Nat → FieldType := fun k => match k with
  | 0 => .array .int
  | 1 => .array .int
  | 2 => .int
  | 3 => .array .int
  | 4 => .array .boolean
  | 5 => .array .int
  | 6 => .int
  | _ => .array .int
abbrev wsX70 : List Cond := u_ws RX7 TX7 8
theorem nmX7 : ∀ a, a < 8 → ∀ b, b < 8 → a ≠ b → (TX7 a).2.1 ≠ (TX7 b).2.1 := by decide +kernel
theorem tyX7_ok : ∀ k, k < 8 → parseFieldDescriptor (TX7 k).2.2.1 = some (tyX7 k) := by decide +kernel
abbrev cX7_init : ByteArray := prog_9_method_1_code
def yX7_init : MethodName := ⟨RX7, "<init>", "()V"⟩
abbrev cX7_in : ByteArray := prog_9_method_3_code
def yX7_in : MethodName := ⟨RX7, "in", "(III)Z"⟩
abbrev cX7_isBooth : ByteArray := prog_9_method_4_code
def yX7_isBooth : MethodName := ⟨RX7, "isBooth", "(I)Z"⟩
abbrev cX7_isPitch : ByteArray := prog_9_method_5_code
def yX7_isPitch : MethodName := ⟨RX7, "isPitch", "(I)Z"⟩
abbrev cX7_at : ByteArray := prog_9_method_6_code
def yX7_at : MethodName := ⟨RX7, "at", "(II)I"⟩
abbrev cX7_its : ByteArray := prog_9_method_7_code
def yX7_its : MethodName := ⟨RX7, "its", "(II)I"⟩
abbrev cX7_remembers : ByteArray := prog_9_method_8_code
def yX7_remembers : MethodName := ⟨RX7, "remembers", "()V"⟩
abbrev cX7_copies : ByteArray := prog_9_method_9_code
def yX7_copies : MethodName := ⟨RX7, "copies", "()V"⟩
abbrev cX7_forgets : ByteArray := prog_9_method_10_code
def yX7_forgets : MethodName := ⟨RX7, "forgets", "()V"⟩
abbrev cX7_boothAt : ByteArray := prog_9_method_11_code
def yX7_boothAt : MethodName := ⟨RX7, "boothAt", "(II)I"⟩
abbrev cX7_goes : ByteArray := prog_9_method_12_code
def yX7_goes : MethodName := ⟨RX7, "goes", "(II)I"⟩
abbrev cX7_crowds : ByteArray := prog_9_method_13_code
def yX7_crowds : MethodName := ⟨RX7, "crowds", "(I)I"⟩
abbrev cX7_crowdOf : ByteArray := prog_9_method_14_code
def yX7_crowdOf : MethodName := ⟨RX7, "crowdOf", "(I)I"⟩
abbrev cX7_crowdAt : ByteArray := prog_9_method_15_code
def yX7_crowdAt : MethodName := ⟨RX7, "crowdAt", "(III)I"⟩
abbrev cX7_isFree : ByteArray := prog_9_method_16_code
def yX7_isFree : MethodName := ⟨RX7, "isFree", "(II)Z"⟩
abbrev cX7_draws : ByteArray := prog_9_method_17_code
def yX7_draws : MethodName := ⟨RX7, "draws", "(II)I"⟩
abbrev cX7_lots : ByteArray := prog_9_method_18_code
def yX7_lots : MethodName := ⟨RX7, "lots", "(I)V"⟩
abbrev cX7_chooses : ByteArray := prog_9_method_19_code
def yX7_chooses : MethodName := ⟨RX7, "chooses", "(II)V"⟩
abbrev cX7_plays : ByteArray := prog_9_method_20_code
def yX7_plays : MethodName := ⟨RX7, "plays", "(I)I"⟩
abbrev cX7_mostOf : ByteArray := prog_9_method_21_code
def yX7_mostOf : MethodName := ⟨RX7, "mostOf", "(I)I"⟩
abbrev cX7_set : ByteArray := prog_9_method_22_code
def yX7_set : MethodName := ⟨RX7, "set", "(II)I"⟩
abbrev cX7_roofs : ByteArray := prog_9_method_23_code
def yX7_roofs : MethodName := ⟨RX7, "roofs", "()I"⟩
abbrev cX7_roof : ByteArray := prog_9_method_24_code
def yX7_roof : MethodName := ⟨RX7, "roof", "(IZ)I"⟩
abbrev cX7_comes : ByteArray := prog_9_method_25_code
def yX7_comes : MethodName := ⟨RX7, "comes", "(II)V"⟩
abbrev cX7_come : ByteArray := prog_9_method_26_code
def yX7_come : MethodName := ⟨RX7, "come", "(I)I"⟩
abbrev cX7_go : ByteArray := prog_9_method_27_code
def yX7_go : MethodName := ⟨RX7, "go", "(I)I"⟩
abbrev cX7_height : ByteArray := prog_9_method_28_code
def yX7_height : MethodName := ⟨RX7, "height", "(II)I"⟩
abbrev cX7_isOthers : ByteArray := prog_9_method_29_code
def yX7_isOthers : MethodName := ⟨RX7, "isOthers", "(II)Z"⟩
abbrev cX7_stand : ByteArray := prog_9_method_30_code
def yX7_stand : MethodName := ⟨RX7, "stand", "(II)I"⟩
abbrev cX7_shuffle : ByteArray := prog_9_method_31_code
def yX7_shuffle : MethodName := ⟨RX7, "shuffle", "(I)I"⟩
abbrev cX7_play : ByteArray := prog_9_method_32_code
def yX7_play : MethodName := ⟨RX7, "play", "()I"⟩
abbrev cX7_crowd : ByteArray := prog_9_method_33_code
def yX7_crowd : MethodName := ⟨RX7, "crowd", "(II)I"⟩
abbrev cX7_booth : ByteArray := prog_9_method_34_code
def yX7_booth : MethodName := ⟨RX7, "booth", "(II)I"⟩
abbrev cX7_pitch : ByteArray := prog_9_method_35_code
def yX7_pitch : MethodName := ⟨RX7, "pitch", "(II)I"⟩
abbrev cX7_hides : ByteArray := prog_9_method_36_code
def yX7_hides : MethodName := ⟨RX7, "hides", "(III)Z"⟩
abbrev cX7_isHidden : ByteArray := prog_9_method_37_code
def yX7_isHidden : MethodName := ⟨RX7, "isHidden", "(II)Z"⟩
abbrev cX7_highest : ByteArray := prog_9_method_38_code
def yX7_highest : MethodName := ⟨RX7, "highest", "(II)I"⟩
abbrev cX7_seen : ByteArray := prog_9_method_39_code
def yX7_seen : MethodName := ⟨RX7, "seen", "(III)I"⟩
abbrev cX7_standing : ByteArray := prog_9_method_40_code
def yX7_standing : MethodName := ⟨RX7, "standing", "()I"⟩
abbrev cX7_crowdsNow : ByteArray := prog_9_method_41_code
def yX7_crowdsNow : MethodName := ⟨RX7, "crowdsNow", "()I"⟩
abbrev cX7_count : ByteArray := prog_9_method_42_code
def yX7_count : MethodName := ⟨RX7, "count", "(I)I"⟩
abbrev cX7_lot : ByteArray := prog_9_method_43_code
def yX7_lot : MethodName := ⟨RX7, "lot", "(I)I"⟩
abbrev cX7_ifStood : ByteArray := prog_9_method_44_code
def yX7_ifStood : MethodName := ⟨RX7, "ifStood", "(II)I"⟩
abbrev cX7_bestPitch : ByteArray := prog_9_method_45_code
def yX7_bestPitch : MethodName := ⟨RX7, "bestPitch", "(I)I"⟩
abbrev cX7_ifPlayed : ByteArray := prog_9_method_46_code
def yX7_ifPlayed : MethodName := ⟨RX7, "ifPlayed", "(II)I"⟩
abbrev cX7_bestHeight : ByteArray := prog_9_method_47_code
def yX7_bestHeight : MethodName := ⟨RX7, "bestHeight", "(I)I"⟩
abbrev cX7_put : ByteArray := prog_9_method_48_code
def yX7_put : MethodName := ⟨RX7, "put", "(J)I"⟩
abbrev cX7_wipe : ByteArray := prog_9_method_49_code
def yX7_wipe : MethodName := ⟨RX7, "wipe", "()I"⟩
abbrev cX7_sign : ByteArray := prog_9_method_50_code
def yX7_sign : MethodName := ⟨RX7, "sign", "(I)I"⟩
abbrev cX7_digit : ByteArray := prog_9_method_51_code
def yX7_digit : MethodName := ⟨RX7, "digit", "(I)I"⟩
abbrev cX7_partEnd : ByteArray := prog_9_method_52_code
def yX7_partEnd : MethodName := ⟨RX7, "partEnd", "(I)I"⟩
abbrev cX7_pitchOf : ByteArray := prog_9_method_53_code
def yX7_pitchOf : MethodName := ⟨RX7, "pitchOf", "(I)I"⟩
abbrev cX7_fault : ByteArray := prog_9_method_54_code
def yX7_fault : MethodName := ⟨RX7, "fault", "()I"⟩
abbrev cX7_isTwice : ByteArray := prog_9_method_55_code
def yX7_isTwice : MethodName := ⟨RX7, "isTwice", "()Z"⟩
abbrev cX7_read : ByteArray := prog_9_method_56_code
def yX7_read : MethodName := ⟨RX7, "read", "()I"⟩
abbrev cX7_undo : ByteArray := prog_9_method_57_code
def yX7_undo : MethodName := ⟨RX7, "undo", "()I"⟩
abbrev cX7_save : ByteArray := prog_9_method_58_code
def yX7_save : MethodName := ⟨RX7, "save", "(I)I"⟩
abbrev cX7_restore : ByteArray := prog_9_method_59_code
def yX7_restore : MethodName := ⟨RX7, "restore", "(I)I"⟩
def RJ6 : String := "java/lang/Integer"
def TJ6 : u_T := fun k => match k with
  | _ => ("", "", "", false)
def tyJ6 : Nat → FieldType := fun k => match k with
  | _ => .int
abbrev wsJ60 : List Cond := u_ws RJ6 TJ6 0
theorem nmJ6 : ∀ a, a < 0 → ∀ b, b < 0 → a ≠ b → (TJ6 a).2.1 ≠ (TJ6 b).2.1 := by decide +kernel
theorem tyJ6_ok : ∀ k, k < 0 → parseFieldDescriptor (TJ6 k).2.2.1 = some (tyJ6 k) := by decide +kernel
abbrev cJ6_bitCount_0f7a4 : ByteArray := prog_10_method_49_code
def yJ6_bitCount_0f7a4 : MethodName := ⟨RJ6, "bitCount", "(I)I"⟩
def RJ9 : String := "java/lang/Math"
def TJ9 : u_T := fun k => match k with
  | _ => ("", "", "", false)
def tyJ9 : Nat → FieldType := fun k => match k with
  | _ => .int
abbrev wsJ90 : List Cond := u_ws RJ9 TJ9 0
theorem nmJ9 : ∀ a, a < 0 → ∀ b, b < 0 → a ≠ b → (TJ9 a).2.1 ≠ (TJ9 b).2.1 := by decide +kernel
theorem tyJ9_ok : ∀ k, k < 0 → parseFieldDescriptor (TJ9 k).2.2.1 = some (tyJ9 k) := by decide +kernel
abbrev cJ9_abs_0f7a4 : ByteArray := prog_11_method_59_code
def yJ9_abs_0f7a4 : MethodName := ⟨RJ9, "abs", "(I)I"⟩
abbrev cJ9_max_7cf53 : ByteArray := prog_11_method_65_code
def yJ9_max_7cf53 : MethodName := ⟨RJ9, "max", "(II)I"⟩
abbrev cJ9_min_7cf53 : ByteArray := prog_11_method_69_code
def yJ9_min_7cf53 : MethodName := ⟨RJ9, "min", "(II)I"⟩
def RL : String := "PuppetPitchesLaw"
abbrev cL_law : ByteArray := code
def yL_law : MethodName := ⟨RL, "law", "([I)Z"⟩
def am_ws : List Cond := lw_tbl.filter goodWord
def am_nest : Cond → Bool
  | .methodLinkNest _ _ _ _ => true
  | .fieldLinkNest _ _ _ _ _ _ => true
  | .arrayOver (.object _) => true
  | _ => false
def am_nw : List Cond := lw_tbl.filter am_nest
theorem am_wsin {w : Cond} (h : w ∈ lw_tbl) (g : goodWord w = true) : w ∈ am_ws := List.mem_filter.mpr ⟨h, g⟩
theorem am_wsg {w : Cond} (h : w ∈ am_ws) : goodWord w = true := (List.mem_filter.mp h).2
abbrev am_cl : List vw_C := [(RX1, TX1, 3), (RX2, TX2, 5), (RX3, TX3, 13), (RX4, TX4, 5), (RX5, TX5, 3), (RX6, TX6, 6), (RX7, TX7, 8)]
theorem am_in1 : ∀ w ∈ u_ws RX1 TX1 3, w ∈ am_ws := by decide +kernel
theorem am_in2 : ∀ w ∈ u_ws RX2 TX2 5, w ∈ am_ws := by decide +kernel
theorem am_in3 : ∀ w ∈ u_ws RX3 TX3 13, w ∈ am_ws := by decide +kernel
theorem am_in4 : ∀ w ∈ u_ws RX4 TX4 5, w ∈ am_ws := by decide +kernel
theorem am_in5 : ∀ w ∈ u_ws RX5 TX5 3, w ∈ am_ws := by decide +kernel
theorem am_in6 : ∀ w ∈ u_ws RX6 TX6 6, w ∈ am_ws := by decide +kernel
theorem am_in7 : ∀ w ∈ u_ws RX7 TX7 8, w ∈ am_ws := by decide +kernel
