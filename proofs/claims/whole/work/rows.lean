section
-- ===== PART A: goes FIRST, ahead of the names: the tables' words, and 'selects' of the private methods out of them =====
/-- a private method of a class that the tables say can be made, by its rows of tables_1 -/
def lw_okq (q : MethodName × Nat) : Prop := (q.1.cls ≠ "java/lang/invoke/MethodHandle" ∧ q.1.cls ≠ "java/lang/invoke/VarHandle") ∧ Cond.instantiable q.1.cls q.2 ∈ tables_1 ∧ Cond.privateMethod q.1 ∈ tables_1 ∧ Cond.instanceMethod q.1 ∈ tables_1
theorem lw_p0 : lw_okq (⟨"PuppetPitches$State", "forgetLots", "()V"⟩, 13) := ⟨⟨by decide +kernel, by decide +kernel⟩, List.mem_of_getElem? (i := 20) (by decide +kernel), List.mem_of_getElem? (i := 31) (by decide +kernel), List.mem_of_getElem? (i := 32) (by decide +kernel)⟩
theorem lw_p1 : lw_okq (⟨"PuppetPitches$Pad", "stageAfter", "(IC)I"⟩, 5) := ⟨⟨by decide +kernel, by decide +kernel⟩, List.mem_of_getElem? (i := 141) (by decide +kernel), List.mem_of_getElem? (i := 384) (by decide +kernel), List.mem_of_getElem? (i := 385) (by decide +kernel)⟩
theorem lw_p2 : lw_okq (⟨"PuppetPitches$Pad", "readHeight", "(C)I"⟩, 5) := ⟨⟨by decide +kernel, by decide +kernel⟩, List.mem_of_getElem? (i := 141) (by decide +kernel), List.mem_of_getElem? (i := 388) (by decide +kernel), List.mem_of_getElem? (i := 389) (by decide +kernel)⟩
theorem lw_p3 : lw_okq (⟨"PuppetPitches$Pad", "readComma", "(C)I"⟩, 5) := ⟨⟨by decide +kernel, by decide +kernel⟩, List.mem_of_getElem? (i := 141) (by decide +kernel), List.mem_of_getElem? (i := 392) (by decide +kernel), List.mem_of_getElem? (i := 393) (by decide +kernel)⟩
theorem lw_p4 : lw_okq (⟨"PuppetPitches$Pad", "readFirstDigit", "(C)I"⟩, 5) := ⟨⟨by decide +kernel, by decide +kernel⟩, List.mem_of_getElem? (i := 141) (by decide +kernel), List.mem_of_getElem? (i := 396) (by decide +kernel), List.mem_of_getElem? (i := 397) (by decide +kernel)⟩
theorem lw_p5 : lw_okq (⟨"PuppetPitches$Pad", "readPitch", "(I)I"⟩, 5) := ⟨⟨by decide +kernel, by decide +kernel⟩, List.mem_of_getElem? (i := 141) (by decide +kernel), List.mem_of_getElem? (i := 400) (by decide +kernel), List.mem_of_getElem? (i := 401) (by decide +kernel)⟩
theorem lw_p6 : lw_okq (⟨"PuppetPitches", "stoppingFrom", "(ZI)I"⟩, 6) := ⟨⟨by decide +kernel, by decide +kernel⟩, List.mem_of_getElem? (i := 12) (by decide +kernel), List.mem_of_getElem? (i := 426) (by decide +kernel), List.mem_of_getElem? (i := 427) (by decide +kernel)⟩
theorem lw_p7 : lw_okq (⟨"PuppetPitches$State", "hides", "(IIZ)Z"⟩, 13) := ⟨⟨by decide +kernel, by decide +kernel⟩, List.mem_of_getElem? (i := 20) (by decide +kernel), List.mem_of_getElem? (i := 450) (by decide +kernel), List.mem_of_getElem? (i := 451) (by decide +kernel)⟩
theorem lw_p8 : lw_okq (⟨"PuppetPitches", "stoppingNowhere", "()I"⟩, 6) := ⟨⟨by decide +kernel, by decide +kernel⟩, List.mem_of_getElem? (i := 12) (by decide +kernel), List.mem_of_getElem? (i := 464) (by decide +kernel), List.mem_of_getElem? (i := 465) (by decide +kernel)⟩
theorem lw_p9 : lw_okq (⟨"PuppetPitchesModel", "forgets", "()V"⟩, 8) := ⟨⟨by decide +kernel, by decide +kernel⟩, List.mem_of_getElem? (i := 528) (by decide +kernel), List.mem_of_getElem? (i := 534) (by decide +kernel), List.mem_of_getElem? (i := 535) (by decide +kernel)⟩
theorem lw_p10 : lw_okq (⟨"PuppetPitchesModel", "remembers", "()V"⟩, 8) := ⟨⟨by decide +kernel, by decide +kernel⟩, List.mem_of_getElem? (i := 528) (by decide +kernel), List.mem_of_getElem? (i := 574) (by decide +kernel), List.mem_of_getElem? (i := 575) (by decide +kernel)⟩
theorem lw_p11 : lw_okq (⟨"PuppetPitchesModel", "roofs", "()I"⟩, 8) := ⟨⟨by decide +kernel, by decide +kernel⟩, List.mem_of_getElem? (i := 528) (by decide +kernel), List.mem_of_getElem? (i := 585) (by decide +kernel), List.mem_of_getElem? (i := 586) (by decide +kernel)⟩
theorem lw_p12 : lw_okq (⟨"PuppetPitchesModel", "comes", "(II)V"⟩, 8) := ⟨⟨by decide +kernel, by decide +kernel⟩, List.mem_of_getElem? (i := 528) (by decide +kernel), List.mem_of_getElem? (i := 593) (by decide +kernel), List.mem_of_getElem? (i := 594) (by decide +kernel)⟩
theorem lw_p13 : lw_okq (⟨"PuppetPitchesModel", "isBooth", "(I)Z"⟩, 8) := ⟨⟨by decide +kernel, by decide +kernel⟩, List.mem_of_getElem? (i := 528) (by decide +kernel), List.mem_of_getElem? (i := 604) (by decide +kernel), List.mem_of_getElem? (i := 605) (by decide +kernel)⟩
theorem lw_p14 : lw_okq (⟨"PuppetPitchesModel", "its", "(II)I"⟩, 8) := ⟨⟨by decide +kernel, by decide +kernel⟩, List.mem_of_getElem? (i := 528) (by decide +kernel), List.mem_of_getElem? (i := 608) (by decide +kernel), List.mem_of_getElem? (i := 609) (by decide +kernel)⟩
theorem lw_p15 : lw_okq (⟨"PuppetPitchesModel", "isOthers", "(II)Z"⟩, 8) := ⟨⟨by decide +kernel, by decide +kernel⟩, List.mem_of_getElem? (i := 528) (by decide +kernel), List.mem_of_getElem? (i := 620) (by decide +kernel), List.mem_of_getElem? (i := 621) (by decide +kernel)⟩
def lw_privs_1 : List (MethodName × Nat) := [(⟨"PuppetPitches$State", "forgetLots", "()V"⟩, 13), (⟨"PuppetPitches$Pad", "stageAfter", "(IC)I"⟩, 5), (⟨"PuppetPitches$Pad", "readHeight", "(C)I"⟩, 5), (⟨"PuppetPitches$Pad", "readComma", "(C)I"⟩, 5), (⟨"PuppetPitches$Pad", "readFirstDigit", "(C)I"⟩, 5), (⟨"PuppetPitches$Pad", "readPitch", "(I)I"⟩, 5), (⟨"PuppetPitches", "stoppingFrom", "(ZI)I"⟩, 6), (⟨"PuppetPitches$State", "hides", "(IIZ)Z"⟩, 13), (⟨"PuppetPitches", "stoppingNowhere", "()I"⟩, 6), (⟨"PuppetPitchesModel", "forgets", "()V"⟩, 8), (⟨"PuppetPitchesModel", "remembers", "()V"⟩, 8), (⟨"PuppetPitchesModel", "roofs", "()I"⟩, 8), (⟨"PuppetPitchesModel", "comes", "(II)V"⟩, 8), (⟨"PuppetPitchesModel", "isBooth", "(I)Z"⟩, 8), (⟨"PuppetPitchesModel", "its", "(II)I"⟩, 8), (⟨"PuppetPitchesModel", "isOthers", "(II)Z"⟩, 8)]
theorem lw_r1 : ∀ q ∈ lw_privs_1, lw_okq q := List.forall_mem_cons.mpr ⟨lw_p0, List.forall_mem_cons.mpr ⟨lw_p1, List.forall_mem_cons.mpr ⟨lw_p2, List.forall_mem_cons.mpr ⟨lw_p3, List.forall_mem_cons.mpr ⟨lw_p4, List.forall_mem_cons.mpr ⟨lw_p5, List.forall_mem_cons.mpr ⟨lw_p6, List.forall_mem_cons.mpr ⟨lw_p7, List.forall_mem_cons.mpr ⟨lw_p8, List.forall_mem_cons.mpr ⟨lw_p9, List.forall_mem_cons.mpr ⟨lw_p10, List.forall_mem_cons.mpr ⟨lw_p11, List.forall_mem_cons.mpr ⟨lw_p12, List.forall_mem_cons.mpr ⟨lw_p13, List.forall_mem_cons.mpr ⟨lw_p14, List.forall_mem_cons.mpr ⟨lw_p15, fun _ h => absurd h List.not_mem_nil⟩⟩⟩⟩⟩⟩⟩⟩⟩⟩⟩⟩⟩⟩⟩⟩
theorem lw_p16 : lw_okq (⟨"PuppetPitchesModel", "boothAt", "(II)I"⟩, 8) := ⟨⟨by decide +kernel, by decide +kernel⟩, List.mem_of_getElem? (i := 528) (by decide +kernel), List.mem_of_getElem? (i := 624) (by decide +kernel), List.mem_of_getElem? (i := 625) (by decide +kernel)⟩
theorem lw_p17 : lw_okq (⟨"PuppetPitchesModel", "plays", "(I)I"⟩, 8) := ⟨⟨by decide +kernel, by decide +kernel⟩, List.mem_of_getElem? (i := 528) (by decide +kernel), List.mem_of_getElem? (i := 636) (by decide +kernel), List.mem_of_getElem? (i := 637) (by decide +kernel)⟩
theorem lw_p18 : lw_okq (⟨"PuppetPitchesModel", "lots", "(I)V"⟩, 8) := ⟨⟨by decide +kernel, by decide +kernel⟩, List.mem_of_getElem? (i := 528) (by decide +kernel), List.mem_of_getElem? (i := 640) (by decide +kernel), List.mem_of_getElem? (i := 641) (by decide +kernel)⟩
theorem lw_p19 : lw_okq (⟨"PuppetPitchesModel", "draws", "(II)I"⟩, 8) := ⟨⟨by decide +kernel, by decide +kernel⟩, List.mem_of_getElem? (i := 528) (by decide +kernel), List.mem_of_getElem? (i := 644) (by decide +kernel), List.mem_of_getElem? (i := 645) (by decide +kernel)⟩
theorem lw_p20 : lw_okq (⟨"PuppetPitchesModel", "chooses", "(II)V"⟩, 8) := ⟨⟨by decide +kernel, by decide +kernel⟩, List.mem_of_getElem? (i := 528) (by decide +kernel), List.mem_of_getElem? (i := 652) (by decide +kernel), List.mem_of_getElem? (i := 653) (by decide +kernel)⟩
theorem lw_p21 : lw_okq (⟨"PuppetPitchesModel", "isFree", "(II)Z"⟩, 8) := ⟨⟨by decide +kernel, by decide +kernel⟩, List.mem_of_getElem? (i := 528) (by decide +kernel), List.mem_of_getElem? (i := 656) (by decide +kernel), List.mem_of_getElem? (i := 657) (by decide +kernel)⟩
theorem lw_p22 : lw_okq (⟨"PuppetPitchesModel", "crowdAt", "(III)I"⟩, 8) := ⟨⟨by decide +kernel, by decide +kernel⟩, List.mem_of_getElem? (i := 528) (by decide +kernel), List.mem_of_getElem? (i := 660) (by decide +kernel), List.mem_of_getElem? (i := 661) (by decide +kernel)⟩
theorem lw_p23 : lw_okq (⟨"PuppetPitchesModel", "crowds", "(I)I"⟩, 8) := ⟨⟨by decide +kernel, by decide +kernel⟩, List.mem_of_getElem? (i := 528) (by decide +kernel), List.mem_of_getElem? (i := 664) (by decide +kernel), List.mem_of_getElem? (i := 665) (by decide +kernel)⟩
theorem lw_p24 : lw_okq (⟨"PuppetPitchesModel", "goes", "(II)I"⟩, 8) := ⟨⟨by decide +kernel, by decide +kernel⟩, List.mem_of_getElem? (i := 528) (by decide +kernel), List.mem_of_getElem? (i := 668) (by decide +kernel), List.mem_of_getElem? (i := 669) (by decide +kernel)⟩
theorem lw_p25 : lw_okq (⟨"PuppetPitchesModel", "crowdOf", "(I)I"⟩, 8) := ⟨⟨by decide +kernel, by decide +kernel⟩, List.mem_of_getElem? (i := 528) (by decide +kernel), List.mem_of_getElem? (i := 672) (by decide +kernel), List.mem_of_getElem? (i := 673) (by decide +kernel)⟩
theorem lw_p26 : lw_okq (⟨"PuppetPitchesModel", "crowd", "(II)I"⟩, 8) := ⟨⟨by decide +kernel, by decide +kernel⟩, List.mem_of_getElem? (i := 528) (by decide +kernel), List.mem_of_getElem? (i := 680) (by decide +kernel), List.mem_of_getElem? (i := 681) (by decide +kernel)⟩
theorem lw_p27 : lw_okq (⟨"PuppetPitchesModel", "highest", "(II)I"⟩, 8) := ⟨⟨by decide +kernel, by decide +kernel⟩, List.mem_of_getElem? (i := 528) (by decide +kernel), List.mem_of_getElem? (i := 692) (by decide +kernel), List.mem_of_getElem? (i := 693) (by decide +kernel)⟩
theorem lw_p28 : lw_okq (⟨"PuppetPitchesModel", "isHidden", "(II)Z"⟩, 8) := ⟨⟨by decide +kernel, by decide +kernel⟩, List.mem_of_getElem? (i := 528) (by decide +kernel), List.mem_of_getElem? (i := 696) (by decide +kernel), List.mem_of_getElem? (i := 697) (by decide +kernel)⟩
theorem lw_p29 : lw_okq (⟨"PuppetPitchesModel", "hides", "(III)Z"⟩, 8) := ⟨⟨by decide +kernel, by decide +kernel⟩, List.mem_of_getElem? (i := 528) (by decide +kernel), List.mem_of_getElem? (i := 700) (by decide +kernel), List.mem_of_getElem? (i := 701) (by decide +kernel)⟩
theorem lw_p30 : lw_okq (⟨"PuppetPitchesModel", "standing", "()I"⟩, 8) := ⟨⟨by decide +kernel, by decide +kernel⟩, List.mem_of_getElem? (i := 528) (by decide +kernel), List.mem_of_getElem? (i := 708) (by decide +kernel), List.mem_of_getElem? (i := 709) (by decide +kernel)⟩
theorem lw_p31 : lw_okq (⟨"PuppetPitchesModel", "crowdsNow", "()I"⟩, 8) := ⟨⟨by decide +kernel, by decide +kernel⟩, List.mem_of_getElem? (i := 528) (by decide +kernel), List.mem_of_getElem? (i := 712) (by decide +kernel), List.mem_of_getElem? (i := 713) (by decide +kernel)⟩
def lw_privs_2 : List (MethodName × Nat) := [(⟨"PuppetPitchesModel", "boothAt", "(II)I"⟩, 8), (⟨"PuppetPitchesModel", "plays", "(I)I"⟩, 8), (⟨"PuppetPitchesModel", "lots", "(I)V"⟩, 8), (⟨"PuppetPitchesModel", "draws", "(II)I"⟩, 8), (⟨"PuppetPitchesModel", "chooses", "(II)V"⟩, 8), (⟨"PuppetPitchesModel", "isFree", "(II)Z"⟩, 8), (⟨"PuppetPitchesModel", "crowdAt", "(III)I"⟩, 8), (⟨"PuppetPitchesModel", "crowds", "(I)I"⟩, 8), (⟨"PuppetPitchesModel", "goes", "(II)I"⟩, 8), (⟨"PuppetPitchesModel", "crowdOf", "(I)I"⟩, 8), (⟨"PuppetPitchesModel", "crowd", "(II)I"⟩, 8), (⟨"PuppetPitchesModel", "highest", "(II)I"⟩, 8), (⟨"PuppetPitchesModel", "isHidden", "(II)Z"⟩, 8), (⟨"PuppetPitchesModel", "hides", "(III)Z"⟩, 8), (⟨"PuppetPitchesModel", "standing", "()I"⟩, 8), (⟨"PuppetPitchesModel", "crowdsNow", "()I"⟩, 8)]
theorem lw_r2 : ∀ q ∈ lw_privs_2, lw_okq q := List.forall_mem_cons.mpr ⟨lw_p16, List.forall_mem_cons.mpr ⟨lw_p17, List.forall_mem_cons.mpr ⟨lw_p18, List.forall_mem_cons.mpr ⟨lw_p19, List.forall_mem_cons.mpr ⟨lw_p20, List.forall_mem_cons.mpr ⟨lw_p21, List.forall_mem_cons.mpr ⟨lw_p22, List.forall_mem_cons.mpr ⟨lw_p23, List.forall_mem_cons.mpr ⟨lw_p24, List.forall_mem_cons.mpr ⟨lw_p25, List.forall_mem_cons.mpr ⟨lw_p26, List.forall_mem_cons.mpr ⟨lw_p27, List.forall_mem_cons.mpr ⟨lw_p28, List.forall_mem_cons.mpr ⟨lw_p29, List.forall_mem_cons.mpr ⟨lw_p30, List.forall_mem_cons.mpr ⟨lw_p31, fun _ h => absurd h List.not_mem_nil⟩⟩⟩⟩⟩⟩⟩⟩⟩⟩⟩⟩⟩⟩⟩⟩
theorem lw_p32 : lw_okq (⟨"PuppetPitchesModel", "copies", "()V"⟩, 8) := ⟨⟨by decide +kernel, by decide +kernel⟩, List.mem_of_getElem? (i := 528) (by decide +kernel), List.mem_of_getElem? (i := 732) (by decide +kernel), List.mem_of_getElem? (i := 733) (by decide +kernel)⟩
theorem lw_p33 : lw_okq (⟨"PuppetPitchesModel", "partEnd", "(I)I"⟩, 8) := ⟨⟨by decide +kernel, by decide +kernel⟩, List.mem_of_getElem? (i := 528) (by decide +kernel), List.mem_of_getElem? (i := 753) (by decide +kernel), List.mem_of_getElem? (i := 754) (by decide +kernel)⟩
theorem lw_p34 : lw_okq (⟨"PuppetPitchesModel", "digit", "(I)I"⟩, 8) := ⟨⟨by decide +kernel, by decide +kernel⟩, List.mem_of_getElem? (i := 528) (by decide +kernel), List.mem_of_getElem? (i := 757) (by decide +kernel), List.mem_of_getElem? (i := 758) (by decide +kernel)⟩
theorem lw_p35 : lw_okq (⟨"PuppetPitchesModel", "sign", "(I)I"⟩, 8) := ⟨⟨by decide +kernel, by decide +kernel⟩, List.mem_of_getElem? (i := 528) (by decide +kernel), List.mem_of_getElem? (i := 761) (by decide +kernel), List.mem_of_getElem? (i := 762) (by decide +kernel)⟩
theorem lw_p36 : lw_okq (⟨"PuppetPitchesModel", "isTwice", "()Z"⟩, 8) := ⟨⟨by decide +kernel, by decide +kernel⟩, List.mem_of_getElem? (i := 528) (by decide +kernel), List.mem_of_getElem? (i := 770) (by decide +kernel), List.mem_of_getElem? (i := 771) (by decide +kernel)⟩
theorem lw_p37 : lw_okq (⟨"PuppetPitchesModel", "pitchOf", "(I)I"⟩, 8) := ⟨⟨by decide +kernel, by decide +kernel⟩, List.mem_of_getElem? (i := 528) (by decide +kernel), List.mem_of_getElem? (i := 774) (by decide +kernel), List.mem_of_getElem? (i := 775) (by decide +kernel)⟩
def lw_privs_3 : List (MethodName × Nat) := [(⟨"PuppetPitchesModel", "copies", "()V"⟩, 8), (⟨"PuppetPitchesModel", "partEnd", "(I)I"⟩, 8), (⟨"PuppetPitchesModel", "digit", "(I)I"⟩, 8), (⟨"PuppetPitchesModel", "sign", "(I)I"⟩, 8), (⟨"PuppetPitchesModel", "isTwice", "()Z"⟩, 8), (⟨"PuppetPitchesModel", "pitchOf", "(I)I"⟩, 8)]
theorem lw_r3 : ∀ q ∈ lw_privs_3, lw_okq q := List.forall_mem_cons.mpr ⟨lw_p32, List.forall_mem_cons.mpr ⟨lw_p33, List.forall_mem_cons.mpr ⟨lw_p34, List.forall_mem_cons.mpr ⟨lw_p35, List.forall_mem_cons.mpr ⟨lw_p36, List.forall_mem_cons.mpr ⟨lw_p37, fun _ h => absurd h List.not_mem_nil⟩⟩⟩⟩⟩⟩
def lw_privs : List (MethodName × Nat) := lw_privs_1 ++ (lw_privs_2 ++ (lw_privs_3))
def lw_tbl : List Cond := k2_sels lw_privs ++ tables_1
theorem lw_privs_ok : ∀ q ∈ lw_privs, lw_okq q := by
  show ∀ q ∈ lw_privs_1 ++ (lw_privs_2 ++ (lw_privs_3)), lw_okq q
  exact List.forall_mem_append.mpr ⟨lw_r1, List.forall_mem_append.mpr ⟨lw_r2, lw_r3⟩⟩
-- ===== end of PART A; then your names; then what follows =====
def RX0 : String := "PuppetPitches$Day"
def TX0 : u_T := fun k => match k with
  | _ => ("", "", "", false)
def tyX0 : Nat → FieldType := fun k => match k with
  | _ => .int
abbrev wsX00 : List Cond := u_ws RX0 TX0 0
theorem nmX0 : ∀ a, a < 0 → ∀ b, b < 0 → a ≠ b → (TX0 a).2.1 ≠ (TX0 b).2.1 := by decide +kernel
theorem tyX0_ok : ∀ k, k < 0 → parseFieldDescriptor (TX0 k).2.2.1 = some (tyX0 k) := by decide +kernel
abbrev cX0_pass : ByteArray := prog_2_method_2_code
def yX0_pass : MethodName := ⟨RX0, "pass", "(LPuppetPitches$State;LPuppetPitches$View;)I"⟩
abbrev cX0_drawLots : ByteArray := prog_2_method_3_code
def yX0_drawLots : MethodName := ⟨RX0, "drawLots", "(LPuppetPitches$State;)V"⟩
abbrev cX0_choosePitches : ByteArray := prog_2_method_4_code
def yX0_choosePitches : MethodName := ⟨RX0, "choosePitches", "(LPuppetPitches$State;LPuppetPitches$View;)V"⟩
abbrev cX0_passHats : ByteArray := prog_2_method_5_code
def yX0_passHats : MethodName := ⟨RX0, "passHats", "(LPuppetPitches$State;LPuppetPitches$View;Z)I"⟩
def RX1 : String := "PuppetPitches$History"
def TX1 : u_T := fun k => match k with
  | 0 => ("PuppetPitches$History", "states", "[LPuppetPitches$State;", true)
  | 1 => ("PuppetPitches$History", "next", "I", false)
  | _ => ("PuppetPitches$History", "kept", "I", false)
def tyX1 : Nat → FieldType := fun k => match k with
  | 0 => .array (.object "PuppetPitches$State")
  | 1 => .int
  | _ => .int
abbrev wsX10 : List Cond := u_ws RX1 TX1 3
theorem nmX1 : ∀ a, a < 3 → ∀ b, b < 3 → a ≠ b → (TX1 a).2.1 ≠ (TX1 b).2.1 := by decide +kernel
theorem tyX1_ok : ∀ k, k < 3 → parseFieldDescriptor (TX1 k).2.2.1 = some (tyX1 k) := by decide +kernel
abbrev cX1_init : ByteArray := prog_3_method_1_code
def yX1_init : MethodName := ⟨RX1, "<init>", "()V"⟩
abbrev cX1_record : ByteArray := prog_3_method_2_code
def yX1_record : MethodName := ⟨RX1, "record", "(LPuppetPitches$State;)V"⟩
abbrev cX1_takeBack : ByteArray := prog_3_method_3_code
def yX1_takeBack : MethodName := ⟨RX1, "takeBack", "(LPuppetPitches$State;)V"⟩
def RX2 : String := "PuppetPitches$Pad"
def TX2 : u_T := fun k => match k with
  | 0 => ("PuppetPitches$Pad", "text", "[C", true)
  | 1 => ("PuppetPitches$Pad", "length", "I", false)
  | 2 => ("PuppetPitches$Pad", "parts", "I", false)
  | 3 => ("PuppetPitches$Pad", "heights", "[I", true)
  | _ => ("PuppetPitches$Pad", "places", "[I", true)
def tyX2 : Nat → FieldType := fun k => match k with
  | 0 => .array .char
  | 1 => .int
  | 2 => .int
  | 3 => .array .int
  | _ => .array .int
abbrev wsX20 : List Cond := u_ws RX2 TX2 5
theorem nmX2 : ∀ a, a < 5 → ∀ b, b < 5 → a ≠ b → (TX2 a).2.1 ≠ (TX2 b).2.1 := by decide +kernel
theorem tyX2_ok : ∀ k, k < 5 → parseFieldDescriptor (TX2 k).2.2.1 = some (tyX2 k) := by decide +kernel
abbrev cX2_init : ByteArray := prog_4_method_1_code
def yX2_init : MethodName := ⟨RX2, "<init>", "()V"⟩
abbrev cX2_countLetters : ByteArray := prog_4_method_2_code
def yX2_countLetters : MethodName := ⟨RX2, "countLetters", "(J)I"⟩
abbrev cX2_append : ByteArray := prog_4_method_3_code
def yX2_append : MethodName := ⟨RX2, "append", "(JI)V"⟩
abbrev cX2_findFault : ByteArray := prog_4_method_4_code
def yX2_findFault : MethodName := ⟨RX2, "findFault", "()I"⟩
abbrev cX2_stageAfter : ByteArray := prog_4_method_5_code
def yX2_stageAfter : MethodName := ⟨RX2, "stageAfter", "(IC)I"⟩
abbrev cX2_readHeight : ByteArray := prog_4_method_6_code
def yX2_readHeight : MethodName := ⟨RX2, "readHeight", "(C)I"⟩
abbrev cX2_readFirstDigit : ByteArray := prog_4_method_7_code
def yX2_readFirstDigit : MethodName := ⟨RX2, "readFirstDigit", "(C)I"⟩
abbrev cX2_readPitch : ByteArray := prog_4_method_8_code
def yX2_readPitch : MethodName := ⟨RX2, "readPitch", "(I)I"⟩
abbrev cX2_readComma : ByteArray := prog_4_method_9_code
def yX2_readComma : MethodName := ⟨RX2, "readComma", "(C)I"⟩
abbrev cX2_hasSharedPitch : ByteArray := prog_4_method_10_code
def yX2_hasSharedPitch : MethodName := ⟨RX2, "hasSharedPitch", "()Z"⟩
def RX3 : String := "PuppetPitches$State"
def TX3 : u_T := fun k => match k with
  | 0 => ("PuppetPitches$State", "settings", "[I", true)
  | 1 => ("PuppetPitches$State", "x", "J", false)
  | 2 => ("PuppetPitches$State", "roofs", "I", false)
  | 3 => ("PuppetPitches$State", "days", "I", false)
  | 4 => ("PuppetPitches$State", "rainyDays", "I", false)
  | 5 => ("PuppetPitches$State", "takings", "I", false)
  | 6 => ("PuppetPitches$State", "booths", "I", false)
  | 7 => ("PuppetPitches$State", "heights", "[I", true)
  | 8 => ("PuppetPitches$State", "places", "[I", true)
  | 9 => ("PuppetPitches$State", "hats", "[I", true)
  | 10 => ("PuppetPitches$State", "firsts", "[I", true)
  | 11 => ("PuppetPitches$State", "idleDays", "[I", true)
  | _ => ("PuppetPitches$State", "lots", "[I", true)
def tyX3 : Nat → FieldType := fun k => match k with
  | 0 => .array .int
  | 1 => .long
  | 2 => .int
  | 3 => .int
  | 4 => .int
  | 5 => .int
  | 6 => .int
  | 7 => .array .int
  | 8 => .array .int
  | 9 => .array .int
  | 10 => .array .int
  | 11 => .array .int
  | _ => .array .int
abbrev wsX30 : List Cond := u_ws RX3 TX3 13
theorem nmX3 : ∀ a, a < 13 → ∀ b, b < 13 → a ≠ b → (TX3 a).2.1 ≠ (TX3 b).2.1 := by decide +kernel
theorem tyX3_ok : ∀ k, k < 13 → parseFieldDescriptor (TX3 k).2.2.1 = some (tyX3 k) := by decide +kernel
abbrev cX3_init : ByteArray := prog_5_method_1_code
def yX3_init : MethodName := ⟨RX3, "<init>", "()V"⟩
abbrev cX3_copyFrom : ByteArray := prog_5_method_2_code
def yX3_copyFrom : MethodName := ⟨RX3, "copyFrom", "(LPuppetPitches$State;)V"⟩
abbrev cX3_setting : ByteArray := prog_5_method_3_code
def yX3_setting : MethodName := ⟨RX3, "setting", "(I)I"⟩
abbrev cX3_changeSetting : ByteArray := prog_5_method_4_code
def yX3_changeSetting : MethodName := ⟨RX3, "changeSetting", "(II)V"⟩
abbrev cX3_isRoofed : ByteArray := prog_5_method_5_code
def yX3_isRoofed : MethodName := ⟨RX3, "isRoofed", "(I)Z"⟩
abbrev cX3_isBooth : ByteArray := prog_5_method_6_code
def yX3_isBooth : MethodName := ⟨RX3, "isBooth", "(I)Z"⟩
abbrev cX3_isStanding : ByteArray := prog_5_method_7_code
def yX3_isStanding : MethodName := ⟨RX3, "isStanding", "(I)Z"⟩
abbrev cX3_countStanding : ByteArray := prog_5_method_8_code
def yX3_countStanding : MethodName := ⟨RX3, "countStanding", "()I"⟩
abbrev cX3_boothAt : ByteArray := prog_5_method_9_code
def yX3_boothAt : MethodName := ⟨RX3, "boothAt", "(I)I"⟩
abbrev cX3_isTakenByOther : ByteArray := prog_5_method_10_code
def yX3_isTakenByOther : MethodName := ⟨RX3, "isTakenByOther", "(II)Z"⟩
abbrev cX3_isHidden : ByteArray := prog_5_method_11_code
def yX3_isHidden : MethodName := ⟨RX3, "isHidden", "(IZ)Z"⟩
abbrev cX3_hides : ByteArray := prog_5_method_12_code
def yX3_hides : MethodName := ⟨RX3, "hides", "(IIZ)Z"⟩
abbrev cX3_addBooth : ByteArray := prog_5_method_13_code
def yX3_addBooth : MethodName := ⟨RX3, "addBooth", "(II)V"⟩
abbrev cX3_removeBooth : ByteArray := prog_5_method_14_code
def yX3_removeBooth : MethodName := ⟨RX3, "removeBooth", "(I)V"⟩
abbrev cX3_closeUp : ByteArray := prog_5_method_15_code
def yX3_closeUp : MethodName := ⟨RX3, "closeUp", "([II)V"⟩
abbrev cX3_forgetBooths : ByteArray := prog_5_method_16_code
def yX3_forgetBooths : MethodName := ⟨RX3, "forgetBooths", "()V"⟩
abbrev cX3_forgetLots : ByteArray := prog_5_method_17_code
def yX3_forgetLots : MethodName := ⟨RX3, "forgetLots", "()V"⟩
abbrev cX3_draw : ByteArray := prog_5_method_18_code
def yX3_draw : MethodName := ⟨RX3, "draw", "(I)I"⟩
def RX4 : String := "PuppetPitches$Stream"
def TX4 : u_T := fun k => match k with
  | 0 => ("PuppetPitches$Stream", "isFromLeft", "Z", true)
  | 1 => ("PuppetPitches$Stream", "arriving", "[I", true)
  | 2 => ("PuppetPitches$Stream", "tallest", "[I", true)
  | 3 => ("PuppetPitches$Stream", "stopShare", "I", false)
  | _ => ("PuppetPitches$Stream", "passing", "I", false)
def tyX4 : Nat → FieldType := fun k => match k with
  | 0 => .boolean
  | 1 => .array .int
  | 2 => .array .int
  | 3 => .int
  | _ => .int
abbrev wsX40 : List Cond := u_ws RX4 TX4 5
theorem nmX4 : ∀ a, a < 5 → ∀ b, b < 5 → a ≠ b → (TX4 a).2.1 ≠ (TX4 b).2.1 := by decide +kernel
theorem tyX4_ok : ∀ k, k < 5 → parseFieldDescriptor (TX4 k).2.2.1 = some (tyX4 k) := by decide +kernel
abbrev cX4_init : ByteArray := prog_6_method_1_code
def yX4_init : MethodName := ⟨RX4, "<init>", "(Z)V"⟩
abbrev cX4_walk : ByteArray := prog_6_method_2_code
def yX4_walk : MethodName := ⟨RX4, "walk", "([III)V"⟩
abbrev cX4_isSeen : ByteArray := prog_6_method_3_code
def yX4_isSeen : MethodName := ⟨RX4, "isSeen", "(II)Z"⟩
abbrev cX4_stopping : ByteArray := prog_6_method_4_code
def yX4_stopping : MethodName := ⟨RX4, "stopping", "(II)I"⟩
def RX5 : String := "PuppetPitches$View"
def TX5 : u_T := fun k => match k with
  | 0 => ("PuppetPitches$View", "tops", "[I", true)
  | 1 => ("PuppetPitches$View", "fromLeft", "LPuppetPitches$Stream;", true)
  | _ => ("PuppetPitches$View", "fromRight", "LPuppetPitches$Stream;", true)
def tyX5 : Nat → FieldType := fun k => match k with
  | 0 => .array .int
  | 1 => .object "PuppetPitches$Stream"
  | _ => .object "PuppetPitches$Stream"
abbrev wsX50 : List Cond := u_ws RX5 TX5 3
theorem nmX5 : ∀ a, a < 3 → ∀ b, b < 3 → a ≠ b → (TX5 a).2.1 ≠ (TX5 b).2.1 := by decide +kernel
theorem tyX5_ok : ∀ k, k < 3 → parseFieldDescriptor (TX5 k).2.2.1 = some (tyX5 k) := by decide +kernel
abbrev cX5_init : ByteArray := prog_7_method_1_code
def yX5_init : MethodName := ⟨RX5, "<init>", "()V"⟩
abbrev cX5_look : ByteArray := prog_7_method_2_code
def yX5_look : MethodName := ⟨RX5, "look", "(LPuppetPitches$State;I)V"⟩
abbrev cX5_clear : ByteArray := prog_7_method_3_code
def yX5_clear : MethodName := ⟨RX5, "clear", "()V"⟩
abbrev cX5_raise : ByteArray := prog_7_method_4_code
def yX5_raise : MethodName := ⟨RX5, "raise", "(II)V"⟩
abbrev cX5_letPeoplePass : ByteArray := prog_7_method_5_code
def yX5_letPeoplePass : MethodName := ⟨RX5, "letPeoplePass", "(LPuppetPitches$State;)V"⟩
abbrev cX5_streamFrom : ByteArray := prog_7_method_6_code
def yX5_streamFrom : MethodName := ⟨RX5, "streamFrom", "(Z)LPuppetPitches$Stream;"⟩
abbrev cX5_crowdAt : ByteArray := prog_7_method_7_code
def yX5_crowdAt : MethodName := ⟨RX5, "crowdAt", "(II)I"⟩
abbrev cX5_isOpen : ByteArray := prog_7_method_8_code
def yX5_isOpen : MethodName := ⟨RX5, "isOpen", "(II)Z"⟩
abbrev cX5_bestOpenPitch : ByteArray := prog_7_method_9_code
def yX5_bestOpenPitch : MethodName := ⟨RX5, "bestOpenPitch", "(II)I"⟩
def RX6 : String := "PuppetPitches"
def TX6 : u_T := fun k => match k with
  | 0 => ("PuppetPitches", "now", "LPuppetPitches$State;", true)
  | 1 => ("PuppetPitches", "foretold", "LPuppetPitches$State;", true)
  | 2 => ("PuppetPitches", "view", "LPuppetPitches$View;", true)
  | 3 => ("PuppetPitches", "pad", "LPuppetPitches$Pad;", true)
  | 4 => ("PuppetPitches", "history", "LPuppetPitches$History;", true)
  | _ => ("PuppetPitches", "slots", "[LPuppetPitches$State;", true)
def tyX6 : Nat → FieldType := fun k => match k with
  | 0 => .object "PuppetPitches$State"
  | 1 => .object "PuppetPitches$State"
  | 2 => .object "PuppetPitches$View"
  | 3 => .object "PuppetPitches$Pad"
  | 4 => .object "PuppetPitches$History"
  | _ => .array (.object "PuppetPitches$State")
abbrev wsX60 : List Cond := u_ws RX6 TX6 6
theorem nmX6 : ∀ a, a < 6 → ∀ b, b < 6 → a ≠ b → (TX6 a).2.1 ≠ (TX6 b).2.1 := by decide +kernel
theorem tyX6_ok : ∀ k, k < 6 → parseFieldDescriptor (TX6 k).2.2.1 = some (tyX6 k) := by decide +kernel
abbrev cX6_init : ByteArray := prog_1_method_1_code
def yX6_init : MethodName := ⟨RX6, "<init>", "()V"⟩
abbrev cX6_set : ByteArray := prog_1_method_2_code
def yX6_set : MethodName := ⟨RX6, "set", "(II)I"⟩
abbrev cX6_roof : ByteArray := prog_1_method_3_code
def yX6_roof : MethodName := ⟨RX6, "roof", "(IZ)I"⟩
abbrev cX6_come : ByteArray := prog_1_method_4_code
def yX6_come : MethodName := ⟨RX6, "come", "(I)I"⟩
abbrev cX6_go : ByteArray := prog_1_method_5_code
def yX6_go : MethodName := ⟨RX6, "go", "(I)I"⟩
abbrev cX6_height : ByteArray := prog_1_method_6_code
def yX6_height : MethodName := ⟨RX6, "height", "(II)I"⟩
abbrev cX6_stand : ByteArray := prog_1_method_7_code
def yX6_stand : MethodName := ⟨RX6, "stand", "(II)I"⟩
abbrev cX6_shuffle : ByteArray := prog_1_method_8_code
def yX6_shuffle : MethodName := ⟨RX6, "shuffle", "(I)I"⟩
abbrev cX6_play : ByteArray := prog_1_method_9_code
def yX6_play : MethodName := ⟨RX6, "play", "()I"⟩
abbrev cX6_read : ByteArray := prog_1_method_10_code
def yX6_read : MethodName := ⟨RX6, "read", "()I"⟩
abbrev cX6_booth : ByteArray := prog_1_method_11_code
def yX6_booth : MethodName := ⟨RX6, "booth", "(II)I"⟩
abbrev cX6_pitch : ByteArray := prog_1_method_12_code
def yX6_pitch : MethodName := ⟨RX6, "pitch", "(II)I"⟩
abbrev cX6_seen : ByteArray := prog_1_method_13_code
def yX6_seen : MethodName := ⟨RX6, "seen", "(III)I"⟩
abbrev cX6_count : ByteArray := prog_1_method_14_code
def yX6_count : MethodName := ⟨RX6, "count", "(I)I"⟩
abbrev cX6_lot : ByteArray := prog_1_method_15_code
def yX6_lot : MethodName := ⟨RX6, "lot", "(I)I"⟩
abbrev cX6_ifStood : ByteArray := prog_1_method_16_code
def yX6_ifStood : MethodName := ⟨RX6, "ifStood", "(II)I"⟩
abbrev cX6_bestPitch : ByteArray := prog_1_method_17_code
def yX6_bestPitch : MethodName := ⟨RX6, "bestPitch", "(I)I"⟩
abbrev cX6_ifPlayed : ByteArray := prog_1_method_18_code
def yX6_ifPlayed : MethodName := ⟨RX6, "ifPlayed", "(II)I"⟩
abbrev cX6_bestHeight : ByteArray := prog_1_method_19_code
def yX6_bestHeight : MethodName := ⟨RX6, "bestHeight", "(I)I"⟩
abbrev cX6_put : ByteArray := prog_1_method_20_code
def yX6_put : MethodName := ⟨RX6, "put", "(J)I"⟩
abbrev cX6_wipe : ByteArray := prog_1_method_21_code
def yX6_wipe : MethodName := ⟨RX6, "wipe", "()I"⟩
abbrev cX6_fault : ByteArray := prog_1_method_22_code
def yX6_fault : MethodName := ⟨RX6, "fault", "()I"⟩
abbrev cX6_undo : ByteArray := prog_1_method_23_code
def yX6_undo : MethodName := ⟨RX6, "undo", "()I"⟩
abbrev cX6_save : ByteArray := prog_1_method_24_code
def yX6_save : MethodName := ⟨RX6, "save", "(I)I"⟩
abbrev cX6_restore : ByteArray := prog_1_method_25_code
def yX6_restore : MethodName := ⟨RX6, "restore", "(I)I"⟩
abbrev cX6_stoppingFrom : ByteArray := prog_1_method_26_code
def yX6_stoppingFrom : MethodName := ⟨RX6, "stoppingFrom", "(ZI)I"⟩
abbrev cX6_stoppingNowhere : ByteArray := prog_1_method_27_code
def yX6_stoppingNowhere : MethodName := ⟨RX6, "stoppingNowhere", "()I"⟩
abbrev cX6_isPitch : ByteArray := prog_1_method_28_code
def yX6_isPitch : MethodName := ⟨RX6, "isPitch", "(I)Z"⟩
abbrev cX6_isHeight : ByteArray := prog_1_method_29_code
def yX6_isHeight : MethodName := ⟨RX6, "isHeight", "(I)Z"⟩
abbrev cX6_copyRow : ByteArray := prog_1_method_30_code
def yX6_copyRow : MethodName := ⟨RX6, "copyRow", "([I[I)V"⟩
def RX7 : String := "PuppetPitchesModel"
def TX7 : u_T := fun k => match k with
  | 0 => ("PuppetPitchesModel", "s", "[I", true)
  | 1 => ("PuppetPitchesModel", "past", "[I", true)
  | 2 => ("PuppetPitchesModel", "known", "I", false)
  | 3 => ("PuppetPitchesModel", "slots", "[I", true)
  | 4 => ("PuppetPitchesModel", "isSaved", "[Z", true)
  | 5 => ("PuppetPitchesModel", "pad", "[I", true)
  | 6 => ("PuppetPitchesModel", "length", "I", false)
  | _ => ("PuppetPitchesModel", "stops", "[I", true)
def tyX7 : Nat → FieldType := fun k => match k with
  | 0 => .array .int
  | 1 => .array .int
  | 2 => .int
  | 3 => .array .int
  | 4 => .array .boolean
  | 5 => .array .int
  | 6 => .int
  | _ => .array .int
abbrev wsX70 : List Cond := u_ws RX7 TX7 8
theorem nmX7 : ∀ a, a < 8 → ∀ b, b < 8 → a ≠ b → (TX7 a).2.1 ≠ (TX7 b).2.1 := by decide +kernel
theorem tyX7_ok : ∀ k, k < 8 → parseFieldDescriptor (TX7 k).2.2.1 = some (tyX7 k) := by decide +kernel
abbrev cX7_init : ByteArray := prog_9_method_1_code
def yX7_init : MethodName := ⟨RX7, "<init>", "()V"⟩
abbrev cX7_in : ByteArray := prog_9_method_3_code
def yX7_in : MethodName := ⟨RX7, "in", "(III)Z"⟩
abbrev cX7_isBooth : ByteArray := prog_9_method_4_code
def yX7_isBooth : MethodName := ⟨RX7, "isBooth", "(I)Z"⟩
abbrev cX7_isPitch : ByteArray := prog_9_method_5_code
def yX7_isPitch : MethodName := ⟨RX7, "isPitch", "(I)Z"⟩
abbrev cX7_at : ByteArray := prog_9_method_6_code
def yX7_at : MethodName := ⟨RX7, "at", "(II)I"⟩
abbrev cX7_its : ByteArray := prog_9_method_7_code
def yX7_its : MethodName := ⟨RX7, "its", "(II)I"⟩
abbrev cX7_remembers : ByteArray := prog_9_method_8_code
def yX7_remembers : MethodName := ⟨RX7, "remembers", "()V"⟩
abbrev cX7_copies : ByteArray := prog_9_method_9_code
def yX7_copies : MethodName := ⟨RX7, "copies", "()V"⟩
abbrev cX7_forgets : ByteArray := prog_9_method_10_code
def yX7_forgets : MethodName := ⟨RX7, "forgets", "()V"⟩
abbrev cX7_boothAt : ByteArray := prog_9_method_11_code
def yX7_boothAt : MethodName := ⟨RX7, "boothAt", "(II)I"⟩
abbrev cX7_goes : ByteArray := prog_9_method_12_code
def yX7_goes : MethodName := ⟨RX7, "goes", "(II)I"⟩
abbrev cX7_crowds : ByteArray := prog_9_method_13_code
def yX7_crowds : MethodName := ⟨RX7, "crowds", "(I)I"⟩
abbrev cX7_crowdOf : ByteArray := prog_9_method_14_code
def yX7_crowdOf : MethodName := ⟨RX7, "crowdOf", "(I)I"⟩
abbrev cX7_crowdAt : ByteArray := prog_9_method_15_code
def yX7_crowdAt : MethodName := ⟨RX7, "crowdAt", "(III)I"⟩
abbrev cX7_isFree : ByteArray := prog_9_method_16_code
def yX7_isFree : MethodName := ⟨RX7, "isFree", "(II)Z"⟩
abbrev cX7_draws : ByteArray := prog_9_method_17_code
def yX7_draws : MethodName := ⟨RX7, "draws", "(II)I"⟩
abbrev cX7_lots : ByteArray := prog_9_method_18_code
def yX7_lots : MethodName := ⟨RX7, "lots", "(I)V"⟩
abbrev cX7_chooses : ByteArray := prog_9_method_19_code
def yX7_chooses : MethodName := ⟨RX7, "chooses", "(II)V"⟩
abbrev cX7_plays : ByteArray := prog_9_method_20_code
def yX7_plays : MethodName := ⟨RX7, "plays", "(I)I"⟩
abbrev cX7_mostOf : ByteArray := prog_9_method_21_code
def yX7_mostOf : MethodName := ⟨RX7, "mostOf", "(I)I"⟩
abbrev cX7_set : ByteArray := prog_9_method_22_code
def yX7_set : MethodName := ⟨RX7, "set", "(II)I"⟩
abbrev cX7_roofs : ByteArray := prog_9_method_23_code
def yX7_roofs : MethodName := ⟨RX7, "roofs", "()I"⟩
abbrev cX7_roof : ByteArray := prog_9_method_24_code
def yX7_roof : MethodName := ⟨RX7, "roof", "(IZ)I"⟩
abbrev cX7_comes : ByteArray := prog_9_method_25_code
def yX7_comes : MethodName := ⟨RX7, "comes", "(II)V"⟩
abbrev cX7_come : ByteArray := prog_9_method_26_code
def yX7_come : MethodName := ⟨RX7, "come", "(I)I"⟩
abbrev cX7_go : ByteArray := prog_9_method_27_code
def yX7_go : MethodName := ⟨RX7, "go", "(I)I"⟩
abbrev cX7_height : ByteArray := prog_9_method_28_code
def yX7_height : MethodName := ⟨RX7, "height", "(II)I"⟩
abbrev cX7_isOthers : ByteArray := prog_9_method_29_code
def yX7_isOthers : MethodName := ⟨RX7, "isOthers", "(II)Z"⟩
abbrev cX7_stand : ByteArray := prog_9_method_30_code
def yX7_stand : MethodName := ⟨RX7, "stand", "(II)I"⟩
abbrev cX7_shuffle : ByteArray := prog_9_method_31_code
def yX7_shuffle : MethodName := ⟨RX7, "shuffle", "(I)I"⟩
abbrev cX7_play : ByteArray := prog_9_method_32_code
def yX7_play : MethodName := ⟨RX7, "play", "()I"⟩
abbrev cX7_crowd : ByteArray := prog_9_method_33_code
def yX7_crowd : MethodName := ⟨RX7, "crowd", "(II)I"⟩
abbrev cX7_booth : ByteArray := prog_9_method_34_code
def yX7_booth : MethodName := ⟨RX7, "booth", "(II)I"⟩
abbrev cX7_pitch : ByteArray := prog_9_method_35_code
def yX7_pitch : MethodName := ⟨RX7, "pitch", "(II)I"⟩
abbrev cX7_hides : ByteArray := prog_9_method_36_code
def yX7_hides : MethodName := ⟨RX7, "hides", "(III)Z"⟩
abbrev cX7_isHidden : ByteArray := prog_9_method_37_code
def yX7_isHidden : MethodName := ⟨RX7, "isHidden", "(II)Z"⟩
abbrev cX7_highest : ByteArray := prog_9_method_38_code
def yX7_highest : MethodName := ⟨RX7, "highest", "(II)I"⟩
abbrev cX7_seen : ByteArray := prog_9_method_39_code
def yX7_seen : MethodName := ⟨RX7, "seen", "(III)I"⟩
abbrev cX7_standing : ByteArray := prog_9_method_40_code
def yX7_standing : MethodName := ⟨RX7, "standing", "()I"⟩
abbrev cX7_crowdsNow : ByteArray := prog_9_method_41_code
def yX7_crowdsNow : MethodName := ⟨RX7, "crowdsNow", "()I"⟩
abbrev cX7_count : ByteArray := prog_9_method_42_code
def yX7_count : MethodName := ⟨RX7, "count", "(I)I"⟩
abbrev cX7_lot : ByteArray := prog_9_method_43_code
def yX7_lot : MethodName := ⟨RX7, "lot", "(I)I"⟩
abbrev cX7_ifStood : ByteArray := prog_9_method_44_code
def yX7_ifStood : MethodName := ⟨RX7, "ifStood", "(II)I"⟩
abbrev cX7_bestPitch : ByteArray := prog_9_method_45_code
def yX7_bestPitch : MethodName := ⟨RX7, "bestPitch", "(I)I"⟩
abbrev cX7_ifPlayed : ByteArray := prog_9_method_46_code
def yX7_ifPlayed : MethodName := ⟨RX7, "ifPlayed", "(II)I"⟩
abbrev cX7_bestHeight : ByteArray := prog_9_method_47_code
def yX7_bestHeight : MethodName := ⟨RX7, "bestHeight", "(I)I"⟩
abbrev cX7_put : ByteArray := prog_9_method_48_code
def yX7_put : MethodName := ⟨RX7, "put", "(J)I"⟩
abbrev cX7_wipe : ByteArray := prog_9_method_49_code
def yX7_wipe : MethodName := ⟨RX7, "wipe", "()I"⟩
abbrev cX7_sign : ByteArray := prog_9_method_50_code
def yX7_sign : MethodName := ⟨RX7, "sign", "(I)I"⟩
abbrev cX7_digit : ByteArray := prog_9_method_51_code
def yX7_digit : MethodName := ⟨RX7, "digit", "(I)I"⟩
abbrev cX7_partEnd : ByteArray := prog_9_method_52_code
def yX7_partEnd : MethodName := ⟨RX7, "partEnd", "(I)I"⟩
abbrev cX7_pitchOf : ByteArray := prog_9_method_53_code
def yX7_pitchOf : MethodName := ⟨RX7, "pitchOf", "(I)I"⟩
abbrev cX7_fault : ByteArray := prog_9_method_54_code
def yX7_fault : MethodName := ⟨RX7, "fault", "()I"⟩
abbrev cX7_isTwice : ByteArray := prog_9_method_55_code
def yX7_isTwice : MethodName := ⟨RX7, "isTwice", "()Z"⟩
abbrev cX7_read : ByteArray := prog_9_method_56_code
def yX7_read : MethodName := ⟨RX7, "read", "()I"⟩
abbrev cX7_undo : ByteArray := prog_9_method_57_code
def yX7_undo : MethodName := ⟨RX7, "undo", "()I"⟩
abbrev cX7_save : ByteArray := prog_9_method_58_code
def yX7_save : MethodName := ⟨RX7, "save", "(I)I"⟩
abbrev cX7_restore : ByteArray := prog_9_method_59_code
def yX7_restore : MethodName := ⟨RX7, "restore", "(I)I"⟩
def RJ6 : String := "java/lang/Integer"
def TJ6 : u_T := fun k => match k with
  | _ => ("", "", "", false)
def tyJ6 : Nat → FieldType := fun k => match k with
  | _ => .int
abbrev wsJ60 : List Cond := u_ws RJ6 TJ6 0
theorem nmJ6 : ∀ a, a < 0 → ∀ b, b < 0 → a ≠ b → (TJ6 a).2.1 ≠ (TJ6 b).2.1 := by decide +kernel
theorem tyJ6_ok : ∀ k, k < 0 → parseFieldDescriptor (TJ6 k).2.2.1 = some (tyJ6 k) := by decide +kernel
abbrev cJ6_bitCount_0f7a4 : ByteArray := prog_10_method_49_code
def yJ6_bitCount_0f7a4 : MethodName := ⟨RJ6, "bitCount", "(I)I"⟩
def RJ9 : String := "java/lang/Math"
def TJ9 : u_T := fun k => match k with
  | _ => ("", "", "", false)
def tyJ9 : Nat → FieldType := fun k => match k with
  | _ => .int
abbrev wsJ90 : List Cond := u_ws RJ9 TJ9 0
theorem nmJ9 : ∀ a, a < 0 → ∀ b, b < 0 → a ≠ b → (TJ9 a).2.1 ≠ (TJ9 b).2.1 := by decide +kernel
theorem tyJ9_ok : ∀ k, k < 0 → parseFieldDescriptor (TJ9 k).2.2.1 = some (tyJ9 k) := by decide +kernel
abbrev cJ9_abs_0f7a4 : ByteArray := prog_11_method_59_code
def yJ9_abs_0f7a4 : MethodName := ⟨RJ9, "abs", "(I)I"⟩
abbrev cJ9_max_7cf53 : ByteArray := prog_11_method_65_code
def yJ9_max_7cf53 : MethodName := ⟨RJ9, "max", "(II)I"⟩
abbrev cJ9_min_7cf53 : ByteArray := prog_11_method_69_code
def yJ9_min_7cf53 : MethodName := ⟨RJ9, "min", "(II)I"⟩
def RL : String := "PuppetPitchesLaw"
abbrev cL_law : ByteArray := code
def yL_law : MethodName := ⟨RL, "law", "([I)Z"⟩
def am_ws : List Cond := lw_tbl.filter goodWord
def am_nest : Cond → Bool
  | .methodLinkNest _ _ _ _ => true
  | .fieldLinkNest _ _ _ _ _ _ => true
  | .arrayOver (.object _) => true
  | _ => false
def am_nw : List Cond := lw_tbl.filter am_nest
theorem am_wsin {w : Cond} (h : w ∈ lw_tbl) (g : goodWord w = true) : w ∈ am_ws := List.mem_filter.mpr ⟨h, g⟩
theorem am_wsg {w : Cond} (h : w ∈ am_ws) : goodWord w = true := (List.mem_filter.mp h).2
abbrev am_cl : List vw_C := [(RX1, TX1, 3), (RX2, TX2, 5), (RX3, TX3, 13), (RX4, TX4, 5), (RX5, TX5, 3), (RX6, TX6, 6), (RX7, TX7, 8)]
theorem am_in1 : ∀ w ∈ u_ws RX1 TX1 3, w ∈ am_ws := by decide +kernel
theorem am_in2 : ∀ w ∈ u_ws RX2 TX2 5, w ∈ am_ws := by decide +kernel
theorem am_in3 : ∀ w ∈ u_ws RX3 TX3 13, w ∈ am_ws := by decide +kernel
theorem am_in4 : ∀ w ∈ u_ws RX4 TX4 5, w ∈ am_ws := by decide +kernel
theorem am_in5 : ∀ w ∈ u_ws RX5 TX5 3, w ∈ am_ws := by decide +kernel
theorem am_in6 : ∀ w ∈ u_ws RX6 TX6 6, w ∈ am_ws := by decide +kernel
theorem am_in7 : ∀ w ∈ u_ws RX7 TX7 8, w ∈ am_ws := by decide +kernel
end
section
/-! AN ABSTRACT MACHINE over the kit's rows: references are places in a list of cells, its heaps are lists; a method's contract speaks of its own list -/
abbrev am_C : Type := (Nat × List Value) ⊕ ((FieldType × Bool × Nat × (Nat → Int32)) ⊕ (Nat × List (Option Nat)))
abbrev am_H : Type := List (Option am_C)
abbrev am_M : Type := MethodName × ByteArray × Nat × Option FieldType × Nat × Nat × Nat
abbrev am_y (M : am_M) : MethodName := M.1
abbrev am_b (M : am_M) : ByteArray := M.2.1
abbrev am_n (M : am_M) : Nat := M.2.2.1
abbrev am_r (M : am_M) : Option FieldType := M.2.2.2.1
abbrev am_lv (M : am_M) : Nat := M.2.2.2.2.1
abbrev am_nc (M : am_M) : Nat := M.2.2.2.2.2.1
abbrev am_ns (M : am_M) : Nat := M.2.2.2.2.2.2
abbrev am_W (M : am_M) : List Cond := Cond.code (am_y M) (am_b M) (am_n M) (am_r M) :: am_ws
abbrev am_R (M : am_M) : Room := { frames := am_lv M, cells := am_nc M, slots := am_ns M, locals := 40 * am_lv M }
abbrev am_oj (ci : Nat) (fs : List Value) : am_C := .inl (ci, fs)
abbrev am_ia (N : Nat) (f : Nat → Int32) : am_C := .inr (.inl (.int, true, N, f))
abbrev am_ra (ci : Nat) (gs : List (Option Nat)) : am_C := .inr (.inr (ci, gs))
def am_v (ad : Nat → Nat) : Value → Value
  | .ref k => .ref (ad k)
  | v => v
theorem am_vc (ad : Nat → Nat) (v : Value) : (am_v ad v).category = v.category := by cases v <;> rfl
theorem am_vv (f g : Nat → Nat) (v : Value) : am_v f (am_v g v) = am_v (fun k => f (g k)) v := by cases v <;> rfl
theorem am_vid (v : Value) : am_v (fun k => k) v = v := by cases v <;> rfl
/-- a cell, its references as 'ad' has them, lies at the address a -/
def am_cell (D : va_G) (U : State) (ad : Nat → Nat) (a : Nat) (H : Heap) (c : am_C) : Prop := match c with
  | .inl o => va_at D am_cl (a, .inr (o.1, o.2.map (am_v ad))) H
  | .inr (.inl x) => ∃ cell : Cell, H[a]? = some cell ∧ U.isArrayOf cell x.1 ∧ cell.vm ≠ .unknown ∧ cell.slots.size = x.2.2.1 ∧ x.2.2.1 < 2147483648 ∧ ∀ j : Nat, j < x.2.2.1 → cell.slots[j]? = some (.int (x.2.2.2 j))
  | .inr (.inr x) => ∃ (cA : ClassId) (q : vw_C), am_cl[x.1]? = some q ∧ x.2.length < 2147483648 ∧ H[a]? = some (arrV cA x.2.length (fun j => va_rf ((x.2.getD j none).map ad))) ∧ ArrOfT U cA (.object q.1) ∧ va_RA U cA (.object q.1)
theorem am_cell.kept {D : va_G} {U : State} {ad : Nat → Nat} {a : Nat} {H H1 : Heap} {c : am_C} (h : am_cell D U ad a H c) (hq : H1[a]? = H[a]?) : am_cell D U ad a H1 c := by
  match c, h with
  | .inl o, h => exact va_at.kept (q := (a, .inr (o.1, o.2.map (am_v ad)))) h hq
  | .inr (.inl x), h =>
    obtain ⟨cell, h1, h2⟩ := h
    exact ⟨cell, by rw [hq]; exact h1, h2⟩
  | .inr (.inr x), h =>
    obtain ⟨cA, q, h0, hl, h1, h2⟩ := h
    exact ⟨cA, q, h0, hl, by rw [hq]; exact h1, h2⟩
theorem am_cell.moved {D : va_G} {u U : State} {ad : Nat → Nat} {a : Nat} {H : Heap} {c : am_C} (hvm : u.vm.Alike U.vm) (h : am_cell D u ad a H c) : am_cell D U ad a H c := by
  match c, h with
  | .inl o, h => exact h
  | .inr (.inl x), h =>
    obtain ⟨cell, h1, h2, h3⟩ := h
    exact ⟨cell, h1, State.isArrayOf_alike hvm h2, h3⟩
  | .inr (.inr x), h =>
    obtain ⟨cA, q, h0, hl, h1, h2, h3⟩ := h
    exact ⟨cA, q, h0, hl, h1, arrOfT_moved hvm h2, h3.moved hvm⟩
theorem am_cell.lt {D : va_G} {U : State} {ad : Nat → Nat} {a : Nat} {H : Heap} {c : am_C} (h : am_cell D U ad a H c) : a < H.size := by
  match c, h with
  | .inl o, h => exact va_at.lt (q := (a, .inr (o.1, o.2.map (am_v ad)))) h
  | .inr (.inl x), h =>
    obtain ⟨cell, h1, h2⟩ := h
    exact (Array.getElem?_eq_some_iff.mp h1).1
  | .inr (.inr x), h =>
    obtain ⟨cA, q, h0, hl, h1, h2⟩ := h
    exact (Array.getElem?_eq_some_iff.mp h1).1
/-- which places a cell's contents name -/
def am_refs (c : am_C) : List Nat := match c with
  | .inl o => o.2.filterMap (fun v => match v with | .ref k => some k | _ => none)
  | .inr (.inl _) => []
  | .inr (.inr x) => x.2.filterMap (fun o => o)
theorem am_cell.ad {D : va_G} {U : State} {ad ad1 : Nat → Nat} {a : Nat} {H : Heap} {c : am_C} (h : am_cell D U ad a H c) (hr : ∀ k ∈ am_refs c, ad1 k = ad k) : am_cell D U ad1 a H c := by
  match c, h, hr with
  | .inl o, h, hr =>
    have e : o.2.map (am_v ad1) = o.2.map (am_v ad) := by
      refine List.map_congr_left fun v hv => ?_
      cases v with
      | ref k =>
        show Value.ref (ad1 k) = Value.ref (ad k)
        rw [hr k (List.mem_filterMap.mpr ⟨.ref k, hv, rfl⟩)]
      | _ => rfl
    show va_at D am_cl (a, .inr (o.1, o.2.map (am_v ad1))) H
    rw [e]
    exact h
  | .inr (.inl x), h, hr => exact h
  | .inr (.inr x), h, hr =>
    obtain ⟨cA, q, h0, hl, h1, h2⟩ := h
    refine ⟨cA, q, h0, hl, ?_, h2⟩
    rw [h1]
    congr 2
    funext j
    cases hj : x.2.getD j none with
    | none => rfl
    | some k =>
      have hm : some k ∈ x.2 := by
        rw [List.getD_eq_getElem?_getD] at hj
        cases hx : x.2[j]? with
        | none => rw [hx] at hj; cases hj
        | some z => rw [hx] at hj; cases hj; exact List.mem_of_getElem? hx
      show va_rf (some (ad k)) = va_rf (some (ad1 k))
      rw [hr k (List.mem_filterMap.mpr ⟨some k, hm, rfl⟩)]
/-- a renaming of the places, in a cell -/
def am_rc (μ : Nat → Nat) (c : am_C) : am_C := match c with
  | .inl o => .inl (o.1, o.2.map (am_v μ))
  | .inr (.inl x) => .inr (.inl x)
  | .inr (.inr x) => .inr (.inr (x.1, x.2.map (fun o => o.map μ)))
theorem am_cell.ren {D : va_G} {U : State} {ad μ : Nat → Nat} {a : Nat} {H : Heap} {c : am_C} : am_cell D U ad a H (am_rc μ c) ↔ am_cell D U (fun k => ad (μ k)) a H c := by
  match c with
  | .inl o =>
    show va_at D am_cl (a, .inr (o.1, (o.2.map (am_v μ)).map (am_v ad))) H ↔ va_at D am_cl (a, .inr (o.1, o.2.map (am_v (fun k => ad (μ k))))) H
    rw [List.map_map, show (am_v ad ∘ am_v μ) = am_v (fun k => ad (μ k)) from funext fun v => am_vv ad μ v]
  | .inr (.inl x) => exact Iff.rfl
  | .inr (.inr x) =>
    have e : (fun j => va_rf (((x.2.map (fun o => o.map μ)).getD j none).map ad)) = (fun j => va_rf ((x.2.getD j none).map (fun k => ad (μ k)))) := by
      funext j
      rw [List.getD_eq_getElem?_getD, List.getD_eq_getElem?_getD, List.getElem?_map]
      cases x.2[j]? with
      | none => rfl
      | some o => cases o <;> rfl
    show (∃ (cA : ClassId) (q : vw_C), am_cl[x.1]? = some q ∧ (x.2.map (fun o => o.map μ)).length < 2147483648 ∧ H[a]? = some (arrV cA (x.2.map (fun o => o.map μ)).length (fun j => va_rf (((x.2.map (fun o => o.map μ)).getD j none).map ad))) ∧ ArrOfT U cA (.object q.1) ∧ va_RA U cA (.object q.1)) ↔ _
    rw [e, List.length_map]
    exact Iff.rfl
theorem am_refs_rc (μ : Nat → Nat) (c : am_C) : am_refs (am_rc μ c) = (am_refs c).map μ := by
  match c with
  | .inl o =>
    show List.filterMap _ (o.2.map (am_v μ)) = List.map μ (List.filterMap _ o.2)
    rw [List.filterMap_map, List.map_filterMap]
    exact congrArg (fun f => List.filterMap f o.2) (funext fun v => by cases v <;> rfl)
  | .inr (.inl x) => rfl
  | .inr (.inr x) =>
    show List.filterMap _ (x.2.map (fun o => o.map μ)) = List.map μ (List.filterMap _ x.2)
    rw [List.filterMap_map, List.map_filterMap]
    exact congrArg (fun f => List.filterMap f x.2) (funext fun v => by cases v <;> rfl)
def am_wr (c : am_C) : Bool := match c with
  | .inr (.inl x) => x.2.1
  | _ => true
theorem am_wr_rc (μ : Nat → Nat) (c : am_C) : am_wr (am_rc μ c) = am_wr c := by
  match c with
  | .inl o => rfl
  | .inr (.inl x) => rfl
  | .inr (.inr x) => rfl
def am_HR (D : va_G) (U : State) (ad : Nat → Nat) (h : am_H) (H : Heap) : Prop :=
  (∀ (k : Nat) (c : am_C), h[k]? = some (some c) → am_cell D U ad (ad k) H c) ∧ ∀ (j k : Nat) (c d : am_C), h[j]? = some (some c) → h[k]? = some (some d) → ad j = ad k → j = k
def am_FP (ad : Nat → Nat) (h : am_H) (sz : Nat) : Addr → Prop := fun q => (∃ (k : Nat) (c : am_C), h[k]? = some (some c) ∧ am_wr c = true ∧ q = ad k) ∨ sz ≤ q
def am_E (D : va_G) (A : Nat → Prop) (ad : Nat → Nat) (U : State) (H : Heap) : Prop :=
  va_K D am_cl [] U ∧ (∀ w ∈ am_nw, va_Nw w U) ∧ va_Z "PuppetPitches" "FIRST_SETTINGS" "[I" (.ref (ad 0)) A U H ∧ va_Z "PuppetPitches" "GREATEST_SETTINGS" "[I" (.ref (ad 1)) A U H
def am_new (h h1 : am_H) (k : Nat) : Prop := (∃ c, h1[k]? = some (some c)) ∧ ¬ ∃ c, h[k]? = some (some c)
def am_Pc (D : va_G) (ad : Nat → Nat) (sz : Nat) (h : am_H) (as : List Value) : Array Value → State → Prop := fun v U =>
  v = (as.map (am_v ad)).toArray ∧ U.heap.size = sz ∧ am_HR D U ad h U.heap ∧ am_E D (am_FP ad h sz) ad U U.heap
def am_Qc (D : va_G) (ad : Nat → Nat) (h : am_H) (P : Option Value → am_H → Prop) : Array Value → State → Outcome → State → Prop := fun _ st o t =>
  (∃ (r : Option Value) (h1 : am_H) (ad1 : Nat → Nat), P r h1 ∧ o = .returned (r.map (am_v ad1)) ∧ am_HR D t ad1 h1 t.heap ∧ (∀ k, ¬ am_new h h1 k → ad1 k = ad k) ∧ (∀ k, am_new h h1 k → st.heap.size ≤ ad1 k)) ∧ va_F (am_FP ad h st.heap.size) st t
/-- a method's contract: from the cells h and the arguments as, it returns r and leaves the cells h1, with P r h1 -/
def am_Sp (M : am_M) (as : List Value) (h : am_H) (P : Option Value → am_H → Prop) : Prop :=
  ∀ (l : Launch) (D : va_G) (ad : Nat → Nat) (sz : Nat), Met l (am_y M) (am_W M) (am_R M) (am_Pc D ad sz h as) (am_Qc D ad h P) (am_nc M) (am_ns M) (am_FP ad h sz)
/-! what stands in a frame -/
def am_lst (ad : Nat → Nat) (L : List (Option Value)) : List (Nat × Value) := (List.range L.length).filterMap (fun i => ((L[i]?).join).map (fun v => (i, am_v ad v)))
theorem am_mem {ad : Nat → Nat} {L : List (Option Value)} {q : Nat × Value} : q ∈ am_lst ad L ↔ ∃ v, L[q.1]? = some (some v) ∧ q.2 = am_v ad v := by
  constructor
  · intro h
    obtain ⟨i, -, hi⟩ := List.mem_filterMap.mp h
    cases hl : L[i]? with
    | none => rw [hl] at hi; cases hi
    | some o =>
      rw [hl] at hi
      cases o with
      | none => cases hi
      | some v => cases hi; exact ⟨v, hl, rfl⟩
  · rintro ⟨v, h1, h2⟩
    refine List.mem_filterMap.mpr ⟨q.1, List.mem_range.mpr (List.getElem?_eq_some_iff.mp h1).1, ?_⟩
    rw [h1]
    show some (q.1, am_v ad v) = some q
    rw [← h2]
def am_L (nL : Nat) (ad : Nat → Nat) (ls : Array Slot) (L : List (Option Value)) : Prop := lv_has ls nL (am_lst ad L)
theorem am_L.at {nL : Nat} {ad : Nat → Nat} {ls : Array Slot} {L : List (Option Value)} (h : am_L nL ad ls L) {i : Nat} {v : Value} (hv : L[i]? = some (some v)) : ls[i]? = some (.val (am_v ad v)) := h.2.2 (i, am_v ad v) (am_mem.mpr ⟨v, hv, rfl⟩)
theorem am_L.of {nL : Nat} {ad : Nat → Nat} {ls : Array Slot} {L : List (Option Value)} {l : List (Nat × Value)} (h : lv_has ls nL l) (hs : ∀ (i : Nat) (v : Value), L[i]? = some (some v) → (i, am_v ad v) ∈ l) : am_L nL ad ls L :=
  ⟨h.1, h.2.1, fun q hq => by
    obtain ⟨v, h1, h2⟩ := am_mem.mp hq
    have := h.2.2 _ (hs q.1 v h1)
    rw [h2]
    exact this⟩
theorem am_L.ad {nL : Nat} {ad ad1 : Nat → Nat} {ls : Array Slot} {L : List (Option Value)} (h : am_L nL ad ls L) (hv : ∀ (i : Nat) (v : Value), L[i]? = some (some v) → am_v ad1 v = am_v ad v) : am_L nL ad1 ls L :=
  am_L.of h fun i v hi => by rw [hv i v hi]; exact am_mem.mpr ⟨v, hi, rfl⟩
/-- no long stands before the place i -/
def am_ok1 (L : List (Option Value)) : Nat → Bool
  | 0 => true
  | j + 1 => match L[j]? with
    | some (some (.long _)) => false
    | some (some (.double _)) => false
    | _ => true
theorem am_ok1_spec {L : List (Option Value)} {i j : Nat} {v : Value} (h : am_ok1 L i = true) (hj : j + 1 = i) (hv : L[j]? = some (some v)) : v.category ≠ 2 := by
  subst hj
  simp only [am_ok1, hv] at h
  cases v <;> first | (intro q; cases q; done) | cases h
theorem am_L.set {nL : Nat} {ad : Nat → Nat} {ls' : Array Slot} {L : List (Option Value)} {i : Nat} {v : Value} (hok : am_ok1 L i = true) (h : lv_has ls' nL ((i, am_v ad v) :: (am_lst ad L).filter (fun q => !(q.1 == i) && !(q.1 + 1 == i && q.2.category == 2)))) : am_L nL ad ls' (L.set i (some v)) := by
  refine am_L.of h fun j w hj => ?_
  by_cases e : j = i
  · subst e
    rw [List.getElem?_set_self'] at hj
    cases hx : L[j]? with
    | none => rw [hx] at hj; cases hj
    | some o => rw [hx] at hj; cases hj; exact List.mem_cons_self
  · rw [List.getElem?_set_ne (Ne.symm e)] at hj
    refine List.mem_cons_of_mem _ (List.mem_filter.mpr ⟨am_mem.mpr ⟨w, hj, rfl⟩, ?_⟩)
    have e1 : (j == i) = false := by simpa using e
    simp only [e1, Bool.not_false, Bool.true_and, Bool.not_eq_true', Bool.and_eq_false_iff, beq_eq_false_iff_ne, ne_eq]
    by_cases e2 : j + 1 = i
    · exact Or.inr (by rw [am_vc]; exact am_ok1_spec hok e2 hj)
    · exact Or.inl e2
theorem am_L.set2 {nL : Nat} {ad : Nat → Nat} {ls' : Array Slot} {L : List (Option Value)} {i : Nat} {v : Value} (hok : am_ok1 L i = true) (h : lv_has ls' nL ((i, am_v ad v) :: (am_lst ad L).filter (fun q => !(q.1 == i) && (!(q.1 == i + 1) && !(q.1 + 1 == i && q.2.category == 2))))) : am_L nL ad ls' ((L.set i (some v)).set (i + 1) none) := by
  refine am_L.of h fun j w hj => ?_
  by_cases e0 : j = i + 1
  · subst e0
    rw [List.getElem?_set_self'] at hj
    cases hx : (L.set i (some v))[i + 1]? with
    | none => rw [hx] at hj; cases hj
    | some o => rw [hx] at hj; cases hj
  rw [List.getElem?_set_ne (Ne.symm e0)] at hj
  by_cases e : j = i
  · subst e
    rw [List.getElem?_set_self'] at hj
    cases hx : L[j]? with
    | none => rw [hx] at hj; cases hj
    | some o => rw [hx] at hj; cases hj; exact List.mem_cons_self
  · rw [List.getElem?_set_ne (Ne.symm e)] at hj
    refine List.mem_cons_of_mem _ (List.mem_filter.mpr ⟨am_mem.mpr ⟨w, hj, rfl⟩, ?_⟩)
    have e1 : (j == i) = false := by simpa using e
    have e3 : (j == i + 1) = false := by simpa using e0
    simp only [e1, e3, Bool.not_false, Bool.true_and, Bool.not_eq_true', Bool.and_eq_false_iff, beq_eq_false_iff_ne, ne_eq]
    by_cases e2 : j + 1 = i
    · exact Or.inr (by rw [am_vc]; exact am_ok1_spec hok e2 hj)
    · exact Or.inl e2
def am_ent0 : List Value → List (Option Value)
  | [] => []
  | v :: t => if v.category = 2 then some v :: none :: am_ent0 t else some v :: am_ent0 t
abbrev am_ent (as : List Value) (n : Nat) : List (Option Value) := am_ent0 as ++ List.replicate (n - (am_ent0 as).length) none
theorem am_ent0_in (ad : Nat → Nat) : ∀ (as : List Value) (k i : Nat) (v : Value), (am_ent0 as)[i]? = some (some v) → (k + i, am_v ad v) ∈ lv_args k (as.map (am_v ad))
  | [], k, i, v, h => by simp [am_ent0] at h
  | w :: t, k, i, v, h => by
    simp only [am_ent0] at h
    simp only [List.map_cons, lv_args, am_vc]
    by_cases hc : w.category = 2
    · rw [if_pos hc] at h
      rw [if_pos hc]
      match i, h with
      | 0, h => cases h; exact List.mem_cons_self
      | 1, h => cases h
      | i + 2, h =>
        have := am_ent0_in ad t (k + 2) i v h
        rw [show k + (i + 2) = k + 2 + i by omega]
        exact List.mem_cons_of_mem _ this
    · rw [if_neg hc] at h
      rw [if_neg hc]
      match i, h with
      | 0, h => cases h; exact List.mem_cons_self
      | i + 1, h =>
        have := am_ent0_in ad t (k + 1) i v h
        rw [show k + (i + 1) = k + 1 + i by omega]
        exact List.mem_cons_of_mem _ this
theorem am_ent_in {ad : Nat → Nat} {as : List Value} {n i : Nat} {v : Value} (h : (am_ent as n)[i]? = some (some v)) : (i, am_v ad v) ∈ lv_args 0 (as.map (am_v ad)) := by
  have h2 : (am_ent0 as)[i]? = some (some v) := by
    by_cases hi : i < (am_ent0 as).length
    · rw [List.getElem?_append_left hi] at h; exact h
    · rw [List.getElem?_append_right (by omega), List.getElem?_replicate] at h
      split at h <;> cases h
  have := am_ent0_in ad as 0 i v h2
  rw [Nat.zero_add] at this
  exact this
theorem am_nwarm {w : Cond} (hn : am_nest w = true) {s U : State} (hW : s.WarmedH U.vm) (h : va_Nw w s) : va_Nw w U := by
  cases w <;> first | (cases hn; done) | exact va_Nw.warmF hW h | exact va_Nw.warmM hW h | skip
  case arrayOver t =>
    cases t <;> first | (cases hn; done) | exact va_AO.moved hW.alike h
theorem am_uws {ci : Nat} {C : String} {T : u_T} {N : Nat} (h : am_cl[ci]? = some (C, T, N)) : ∀ w ∈ u_ws C T N, w ∈ am_ws := by
  match ci, h with
  | 0, h => cases h; exact am_in1
  | 1, h => cases h; exact am_in2
  | 2, h => cases h; exact am_in3
  | 3, h => cases h; exact am_in4
  | 4, h => cases h; exact am_in5
  | 5, h => cases h; exact am_in6
  | 6, h => cases h; exact am_in7
  | k + 7, h => simp [am_cl] at h
end
section
/-! THE JUDGEMENT of a method's body: from pc, locals L, stack S, cells h it comes to a return that satisfies P; kc, ks: cells and slots made so far -/
def am_St (h0 : am_H) (D : va_G) (s : State) (ad0 ad : Nat → Nat) (h : am_H) (H : Heap) (locs : List Loc) : Prop :=
  am_HR D s ad h H ∧ (∀ (k : Nat) (c : am_C), h0[k]? = some (some c) → ∃ c' : am_C, h[k]? = some (some c')) ∧ (∀ k : Nat, ¬ am_new h0 h k → ad k = ad0 k) ∧ (∀ k : Nat, am_new h0 h k → s.heap.size ≤ ad k) ∧
  (∀ (k : Nat) (c : am_C), h[k]? = some (some c) → am_wr c = true → am_FP ad0 h0 s.heap.size (ad k)) ∧ va_S (am_FP ad0 h0 s.heap.size) s.heap H locs ∧ am_E D (am_FP ad0 h0 s.heap.size) ad0 s s.heap ∧ ad 0 = ad0 0 ∧ ad 1 = ad0 1
def am_Cx (M : am_M) (p : Program) (R : Room) (s : State) (m : MethodId) (args : Array Value) (meth : Method) (c : Code) : Prop :=
  p.tables.exec = Jvm.exec ∧ c.code = am_b M ∧ c.maxLocals = am_n M ∧ s.vm.findClass (am_y M).cls = some m.cls ∧ (∀ w ∈ am_W M, w.before args s = true) ∧ meth.name = (am_y M).name ∧ (am_lv M ≤ R.frames ∧ 40 * am_lv M ≤ R.locals ∧ am_nc M ≤ R.cells ∧ am_ns M ≤ R.slots)
def am_ri (M : am_M) (pc : Nat) (r : Option Value) : Prop := match r with
  | none => am_r M = none ∧ decode (am_b M) pc = .ok (.return_, 1)
  | some (.int v) => (∃ ty : FieldType, am_r M = some ty ∧ narrow ty (.int v) = .int v) ∧ decode (am_b M) pc = .ok (.ireturn, 1)
  | some (.ref _) => (∃ n : String, am_r M = some (.object n)) ∧ decode (am_b M) pc = .ok (.areturn, 1)
  | _ => False
def am_Fin (M : am_M) (h0 : am_H) (P : Option Value → am_H → Prop) (p : Program) (l : Launch) (e : Env) (R : Room) (s : State) (m : MethodId) (args : Array Value) (below : List Frame) (meth : Method) (c : Code) (D : va_G) (ad0 : Nat → Nat) (Q : State → Prop) : Prop :=
  ∀ (r : Option Value) (h1 : am_H) (ad : Nat → Nat) (H : Heap) (locs : List Loc) (kc ks : Nat) (ls : Array Slot) (pc : Nat), kc ≤ am_nc M → ks ≤ am_ns M → P r h1 → am_St h0 D s ad0 ad h1 H locs → am_ri M pc r → W p l e R s m args below meth c H locs kc ks Q (F0 m pc ls (r.toList.map (am_v ad)))
def am_RW (M : am_M) (h0 : am_H) (P : Option Value → am_H → Prop) (kc ks pc : Nat) (L : List (Option Value)) (S : List Value) (h : am_H) : Prop :=
  ∀ (p : Program) (l : Launch) (e : Env) (R : Room) (s : State) (m : MethodId) (args : Array Value) (below : List Frame) (meth : Method) (c : Code) (D : va_G) (ad0 : Nat → Nat) (Q : State → Prop), am_Cx M p R s m args meth c → am_Fin M h0 P p l e R s m args below meth c D ad0 Q →
  ∀ (ad : Nat → Nat) (H : Heap) (locs : List Loc) (ls : Array Slot), am_St h0 D s ad0 ad h H locs → am_L (am_n M) ad ls L → W p l e R s m args below meth c H locs kc ks Q (F0 m pc ls (S.map (am_v ad)))
section
variable {M : am_M} {h0 : am_H} {P : Option Value → am_H → Prop} {kc ks pc : Nat} {L : List (Option Value)} {S : List Value} {h : am_H}
theorem ar_iconst {n : Int} {v : Int32} (d : decode (am_b M) pc = .ok (.iconst n, 1)) (hv : Int32.ofInt n = v) (k : am_RW M h0 P kc ks (pc + 1) L (.int v :: S) h) : am_RW M h0 P kc ks pc L S h := by
  intro p l e R s m args below meth c D ad0 Q C F ad H locs ls T Ll
  exact lv_iconst C.1 C.2.1 d hv (k p l e R s m args below meth c D ad0 Q C F ad H locs ls T Ll)
theorem ar_bipush {n : Int} {v : Int32} (d : decode (am_b M) pc = .ok (.bipush n, 2)) (hv : (Int8.ofInt n).toInt32 = v) (k : am_RW M h0 P kc ks (pc + 2) L (.int v :: S) h) : am_RW M h0 P kc ks pc L S h := by
  intro p l e R s m args below meth c D ad0 Q C F ad H locs ls T Ll
  exact lv_bipush C.1 C.2.1 d hv (k p l e R s m args below meth c D ad0 Q C F ad H locs ls T Ll)
theorem ar_sipush {n : Int} {v : Int32} (d : decode (am_b M) pc = .ok (.sipush n, 3)) (hv : (Int16.ofInt n).toInt32 = v) (k : am_RW M h0 P kc ks (pc + 3) L (.int v :: S) h) : am_RW M h0 P kc ks pc L S h := by
  intro p l e R s m args below meth c D ad0 Q C F ad H locs ls T Ll
  exact lv_sipush C.1 C.2.1 d hv (k p l e R s m args below meth c D ad0 Q C F ad H locs ls T Ll)
theorem ar_lconst {n : Fin 2} {v : Int64} (d : decode (am_b M) pc = .ok (.lconst n, 1)) (hv : Int64.ofNat (n : Nat) = v) (k : am_RW M h0 P kc ks (pc + 1) L (.long v :: S) h) : am_RW M h0 P kc ks pc L S h := by
  intro p l e R s m args below meth c D ad0 Q C F ad H locs ls T Ll
  exact lv_lconst C.1 C.2.1 d hv (k p l e R s m args below meth c D ad0 Q C F ad H locs ls T Ll)
theorem ar_iload_n {k0 : Fin 4} {i : Nat} {x : Int32} (d : decode (am_b M) pc = .ok (.iload_n k0, 1)) (hi : (k0 : Nat) = i) (hl : L[i]? = some (some (.int x))) (k : am_RW M h0 P kc ks (pc + 1) L (.int x :: S) h) : am_RW M h0 P kc ks pc L S h := by
  intro p l e R s m args below meth c D ad0 Q C F ad H locs ls T Ll
  exact lv_iload_n C.1 C.2.1 d hi (Ll.at hl) (k p l e R s m args below meth c D ad0 Q C F ad H locs ls T Ll)
theorem ar_iload {i : Nat} {x : Int32} (d : decode (am_b M) pc = .ok (.iload i, 2)) (hl : L[i]? = some (some (.int x))) (k : am_RW M h0 P kc ks (pc + 2) L (.int x :: S) h) : am_RW M h0 P kc ks pc L S h := by
  intro p l e R s m args below meth c D ad0 Q C F ad H locs ls T Ll
  exact lv_iload C.1 C.2.1 d (Ll.at hl) (k p l e R s m args below meth c D ad0 Q C F ad H locs ls T Ll)
theorem ar_lload_n {k0 : Fin 4} {i : Nat} {x : Int64} (d : decode (am_b M) pc = .ok (.lload_n k0, 1)) (hi : (k0 : Nat) = i) (hl : L[i]? = some (some (.long x))) (k : am_RW M h0 P kc ks (pc + 1) L (.long x :: S) h) : am_RW M h0 P kc ks pc L S h := by
  intro p l e R s m args below meth c D ad0 Q C F ad H locs ls T Ll
  exact lv_lload_n C.1 C.2.1 d hi (Ll.at hl) (k p l e R s m args below meth c D ad0 Q C F ad H locs ls T Ll)
theorem ar_lload {i : Nat} {x : Int64} (d : decode (am_b M) pc = .ok (.lload i, 2)) (hl : L[i]? = some (some (.long x))) (k : am_RW M h0 P kc ks (pc + 2) L (.long x :: S) h) : am_RW M h0 P kc ks pc L S h := by
  intro p l e R s m args below meth c D ad0 Q C F ad H locs ls T Ll
  exact lv_lload C.1 C.2.1 d (Ll.at hl) (k p l e R s m args below meth c D ad0 Q C F ad H locs ls T Ll)
theorem ar_aload_n {k0 : Fin 4} {i : Nat} {x : Nat} (d : decode (am_b M) pc = .ok (.aload_n k0, 1)) (hi : (k0 : Nat) = i) (hl : L[i]? = some (some (.ref x))) (k : am_RW M h0 P kc ks (pc + 1) L (.ref x :: S) h) : am_RW M h0 P kc ks pc L S h := by
  intro p l e R s m args below meth c D ad0 Q C F ad H locs ls T Ll
  exact lv_aload_n C.1 C.2.1 d hi (Ll.at hl) (k p l e R s m args below meth c D ad0 Q C F ad H locs ls T Ll)
theorem ar_aload {i : Nat} {x : Nat} (d : decode (am_b M) pc = .ok (.aload i, 2)) (hl : L[i]? = some (some (.ref x))) (k : am_RW M h0 P kc ks (pc + 2) L (.ref x :: S) h) : am_RW M h0 P kc ks pc L S h := by
  intro p l e R s m args below meth c D ad0 Q C F ad H locs ls T Ll
  exact lv_aload C.1 C.2.1 d (Ll.at hl) (k p l e R s m args below meth c D ad0 Q C F ad H locs ls T Ll)
theorem ar_aload_nN {k0 : Fin 4} {i : Nat} (d : decode (am_b M) pc = .ok (.aload_n k0, 1)) (hi : (k0 : Nat) = i) (hl : L[i]? = some (some .null)) (k : am_RW M h0 P kc ks (pc + 1) L (.null :: S) h) : am_RW M h0 P kc ks pc L S h := by
  intro p l e R s m args below meth c D ad0 Q C F ad H locs ls T Ll
  exact lv_aload_nN C.1 C.2.1 d hi (Ll.at hl) (k p l e R s m args below meth c D ad0 Q C F ad H locs ls T Ll)
theorem ar_iadd {x y : Int32} (d : decode (am_b M) pc = .ok (.iadd, 1)) (k : am_RW M h0 P kc ks (pc + 1) L (.int (x + y) :: S) h) : am_RW M h0 P kc ks pc L (.int y :: .int x :: S) h := by
  intro p l e R s m args below meth c D ad0 Q C F ad H locs ls T Ll
  exact lv_iadd C.1 C.2.1 d (k p l e R s m args below meth c D ad0 Q C F ad H locs ls T Ll)
theorem ar_isub {x y : Int32} (d : decode (am_b M) pc = .ok (.isub, 1)) (k : am_RW M h0 P kc ks (pc + 1) L (.int (x - y) :: S) h) : am_RW M h0 P kc ks pc L (.int y :: .int x :: S) h := by
  intro p l e R s m args below meth c D ad0 Q C F ad H locs ls T Ll
  exact lv_isub C.1 C.2.1 d (k p l e R s m args below meth c D ad0 Q C F ad H locs ls T Ll)
theorem ar_imul {x y : Int32} (d : decode (am_b M) pc = .ok (.imul, 1)) (k : am_RW M h0 P kc ks (pc + 1) L (.int (x * y) :: S) h) : am_RW M h0 P kc ks pc L (.int y :: .int x :: S) h := by
  intro p l e R s m args below meth c D ad0 Q C F ad H locs ls T Ll
  exact lv_imul C.1 C.2.1 d (k p l e R s m args below meth c D ad0 Q C F ad H locs ls T Ll)
theorem ar_iand {x y : Int32} (d : decode (am_b M) pc = .ok (.iand, 1)) (k : am_RW M h0 P kc ks (pc + 1) L (.int (x &&& y) :: S) h) : am_RW M h0 P kc ks pc L (.int y :: .int x :: S) h := by
  intro p l e R s m args below meth c D ad0 Q C F ad H locs ls T Ll
  exact lv_iand C.1 C.2.1 d (k p l e R s m args below meth c D ad0 Q C F ad H locs ls T Ll)
theorem ar_ior {x y : Int32} (d : decode (am_b M) pc = .ok (.ior, 1)) (k : am_RW M h0 P kc ks (pc + 1) L (.int (x ||| y) :: S) h) : am_RW M h0 P kc ks pc L (.int y :: .int x :: S) h := by
  intro p l e R s m args below meth c D ad0 Q C F ad H locs ls T Ll
  exact lv_ior C.1 C.2.1 d (k p l e R s m args below meth c D ad0 Q C F ad H locs ls T Ll)
theorem ar_ixor {x y : Int32} (d : decode (am_b M) pc = .ok (.ixor, 1)) (k : am_RW M h0 P kc ks (pc + 1) L (.int (x ^^^ y) :: S) h) : am_RW M h0 P kc ks pc L (.int y :: .int x :: S) h := by
  intro p l e R s m args below meth c D ad0 Q C F ad H locs ls T Ll
  exact lv_ixor C.1 C.2.1 d (k p l e R s m args below meth c D ad0 Q C F ad H locs ls T Ll)
theorem ar_ishl {x y : Int32} (d : decode (am_b M) pc = .ok (.ishl, 1)) (k : am_RW M h0 P kc ks (pc + 1) L (.int (x <<< (y &&& 31)) :: S) h) : am_RW M h0 P kc ks pc L (.int y :: .int x :: S) h := by
  intro p l e R s m args below meth c D ad0 Q C F ad H locs ls T Ll
  exact lv_ishl C.1 C.2.1 d (k p l e R s m args below meth c D ad0 Q C F ad H locs ls T Ll)
theorem ar_ishr {x y : Int32} (d : decode (am_b M) pc = .ok (.ishr, 1)) (k : am_RW M h0 P kc ks (pc + 1) L (.int (x >>> (y &&& 31)) :: S) h) : am_RW M h0 P kc ks pc L (.int y :: .int x :: S) h := by
  intro p l e R s m args below meth c D ad0 Q C F ad H locs ls T Ll
  exact lv_ishr C.1 C.2.1 d (k p l e R s m args below meth c D ad0 Q C F ad H locs ls T Ll)
theorem ar_idiv {x y : Int32} (d : decode (am_b M) pc = .ok (.idiv, 1)) (hne : ¬ y = 0) (k : am_RW M h0 P kc ks (pc + 1) L (.int (x / y) :: S) h) : am_RW M h0 P kc ks pc L (.int y :: .int x :: S) h := by
  intro p l e R s m args below meth c D ad0 Q C F ad H locs ls T Ll
  exact lv_idiv C.1 C.2.1 d hne (k p l e R s m args below meth c D ad0 Q C F ad H locs ls T Ll)
theorem ar_irem {x y : Int32} (d : decode (am_b M) pc = .ok (.irem, 1)) (hne : ¬ y = 0) (k : am_RW M h0 P kc ks (pc + 1) L (.int (x - x / y * y) :: S) h) : am_RW M h0 P kc ks pc L (.int y :: .int x :: S) h := by
  intro p l e R s m args below meth c D ad0 Q C F ad H locs ls T Ll
  exact lv_irem C.1 C.2.1 d hne (k p l e R s m args below meth c D ad0 Q C F ad H locs ls T Ll)
theorem ar_ineg {x : Int32} (d : decode (am_b M) pc = .ok (.ineg, 1)) (k : am_RW M h0 P kc ks (pc + 1) L (.int (-x) :: S) h) : am_RW M h0 P kc ks pc L (.int x :: S) h := by
  intro p l e R s m args below meth c D ad0 Q C F ad H locs ls T Ll
  exact lv_ineg C.1 C.2.1 d (k p l e R s m args below meth c D ad0 Q C F ad H locs ls T Ll)
theorem ar_ladd {x y : Int64} (d : decode (am_b M) pc = .ok (.ladd, 1)) (k : am_RW M h0 P kc ks (pc + 1) L (.long (x + y) :: S) h) : am_RW M h0 P kc ks pc L (.long y :: .long x :: S) h := by
  intro p l e R s m args below meth c D ad0 Q C F ad H locs ls T Ll
  exact lv_ladd C.1 C.2.1 d (k p l e R s m args below meth c D ad0 Q C F ad H locs ls T Ll)
theorem ar_lsub {x y : Int64} (d : decode (am_b M) pc = .ok (.lsub, 1)) (k : am_RW M h0 P kc ks (pc + 1) L (.long (x - y) :: S) h) : am_RW M h0 P kc ks pc L (.long y :: .long x :: S) h := by
  intro p l e R s m args below meth c D ad0 Q C F ad H locs ls T Ll
  exact lv_lsub C.1 C.2.1 d (k p l e R s m args below meth c D ad0 Q C F ad H locs ls T Ll)
theorem ar_lmul {x y : Int64} (d : decode (am_b M) pc = .ok (.lmul, 1)) (k : am_RW M h0 P kc ks (pc + 1) L (.long (x * y) :: S) h) : am_RW M h0 P kc ks pc L (.long y :: .long x :: S) h := by
  intro p l e R s m args below meth c D ad0 Q C F ad H locs ls T Ll
  exact lv_lmul C.1 C.2.1 d (k p l e R s m args below meth c D ad0 Q C F ad H locs ls T Ll)
theorem ar_land {x y : Int64} (d : decode (am_b M) pc = .ok (.land, 1)) (k : am_RW M h0 P kc ks (pc + 1) L (.long (x &&& y) :: S) h) : am_RW M h0 P kc ks pc L (.long y :: .long x :: S) h := by
  intro p l e R s m args below meth c D ad0 Q C F ad H locs ls T Ll
  exact lv_land C.1 C.2.1 d (k p l e R s m args below meth c D ad0 Q C F ad H locs ls T Ll)
theorem ar_lor {x y : Int64} (d : decode (am_b M) pc = .ok (.lor, 1)) (k : am_RW M h0 P kc ks (pc + 1) L (.long (x ||| y) :: S) h) : am_RW M h0 P kc ks pc L (.long y :: .long x :: S) h := by
  intro p l e R s m args below meth c D ad0 Q C F ad H locs ls T Ll
  exact lv_lor C.1 C.2.1 d (k p l e R s m args below meth c D ad0 Q C F ad H locs ls T Ll)
theorem ar_lxor {x y : Int64} (d : decode (am_b M) pc = .ok (.lxor, 1)) (k : am_RW M h0 P kc ks (pc + 1) L (.long (x ^^^ y) :: S) h) : am_RW M h0 P kc ks pc L (.long y :: .long x :: S) h := by
  intro p l e R s m args below meth c D ad0 Q C F ad H locs ls T Ll
  exact lv_lxor C.1 C.2.1 d (k p l e R s m args below meth c D ad0 Q C F ad H locs ls T Ll)
theorem ar_ldiv {x y : Int64} (d : decode (am_b M) pc = .ok (.ldiv, 1)) (hne : ¬ y = 0) (k : am_RW M h0 P kc ks (pc + 1) L (.long (x / y) :: S) h) : am_RW M h0 P kc ks pc L (.long y :: .long x :: S) h := by
  intro p l e R s m args below meth c D ad0 Q C F ad H locs ls T Ll
  exact lv_ldiv C.1 C.2.1 d hne (k p l e R s m args below meth c D ad0 Q C F ad H locs ls T Ll)
theorem ar_lrem {x y : Int64} (d : decode (am_b M) pc = .ok (.lrem, 1)) (hne : ¬ y = 0) (k : am_RW M h0 P kc ks (pc + 1) L (.long (x - x / y * y) :: S) h) : am_RW M h0 P kc ks pc L (.long y :: .long x :: S) h := by
  intro p l e R s m args below meth c D ad0 Q C F ad H locs ls T Ll
  exact lv_lrem C.1 C.2.1 d hne (k p l e R s m args below meth c D ad0 Q C F ad H locs ls T Ll)
theorem ar_iushr {x y : Int32} (d : decode (am_b M) pc = .ok (.iushr, 1)) (k : am_RW M h0 P kc ks (pc + 1) L (.int (x.toUInt32 >>> (y.toUInt32 &&& Int32.toUInt32 31)).toInt32 :: S) h) : am_RW M h0 P kc ks pc L (.int y :: .int x :: S) h := by
  intro p l e R s m args below meth c D ad0 Q C F ad H locs ls T Ll
  exact lv_iushr C.1 C.2.1 d rfl (k p l e R s m args below meth c D ad0 Q C F ad H locs ls T Ll)
theorem ar_lushr {x : Int64} {y : Int32} (d : decode (am_b M) pc = .ok (.lushr, 1)) (k : am_RW M h0 P kc ks (pc + 1) L (.long (x.toUInt64 >>> (y.toInt64.toUInt64 &&& Int64.toUInt64 63)).toInt64 :: S) h) : am_RW M h0 P kc ks pc L (.int y :: .long x :: S) h := by
  intro p l e R s m args below meth c D ad0 Q C F ad H locs ls T Ll
  exact lv_lushr C.1 C.2.1 d rfl (k p l e R s m args below meth c D ad0 Q C F ad H locs ls T Ll)
theorem ar_lshl {x : Int64} {y : Int32} (d : decode (am_b M) pc = .ok (.lshl, 1)) (k : am_RW M h0 P kc ks (pc + 1) L (.long (x <<< (y.toInt64 &&& 63)) :: S) h) : am_RW M h0 P kc ks pc L (.int y :: .long x :: S) h := by
  intro p l e R s m args below meth c D ad0 Q C F ad H locs ls T Ll
  exact lv_lshl C.1 C.2.1 d rfl (k p l e R s m args below meth c D ad0 Q C F ad H locs ls T Ll)
theorem ar_lshr {x : Int64} {y : Int32} (d : decode (am_b M) pc = .ok (.lshr, 1)) (k : am_RW M h0 P kc ks (pc + 1) L (.long (x >>> (y.toInt64 &&& 63)) :: S) h) : am_RW M h0 P kc ks pc L (.int y :: .long x :: S) h := by
  intro p l e R s m args below meth c D ad0 Q C F ad H locs ls T Ll
  exact lv_lshr C.1 C.2.1 d rfl (k p l e R s m args below meth c D ad0 Q C F ad H locs ls T Ll)
theorem ar_i2l {x : Int32} (d : decode (am_b M) pc = .ok (.i2l, 1)) (k : am_RW M h0 P kc ks (pc + 1) L (.long x.toInt64 :: S) h) : am_RW M h0 P kc ks pc L (.int x :: S) h := by
  intro p l e R s m args below meth c D ad0 Q C F ad H locs ls T Ll
  exact lv_i2l C.1 C.2.1 d rfl (k p l e R s m args below meth c D ad0 Q C F ad H locs ls T Ll)
theorem ar_l2i {x : Int64} (d : decode (am_b M) pc = .ok (.l2i, 1)) (k : am_RW M h0 P kc ks (pc + 1) L (.int x.toInt32 :: S) h) : am_RW M h0 P kc ks pc L (.long x :: S) h := by
  intro p l e R s m args below meth c D ad0 Q C F ad H locs ls T Ll
  exact lv_l2i C.1 C.2.1 d rfl (k p l e R s m args below meth c D ad0 Q C F ad H locs ls T Ll)
theorem ar_i2c {x : Int32} (d : decode (am_b M) pc = .ok (.i2c, 1)) (k : am_RW M h0 P kc ks (pc + 1) L (.int (x.toUInt32 % 65536).toInt32 :: S) h) : am_RW M h0 P kc ks pc L (.int x :: S) h := by
  intro p l e R s m args below meth c D ad0 Q C F ad H locs ls T Ll
  exact lv_i2c C.1 C.2.1 d rfl (k p l e R s m args below meth c D ad0 Q C F ad H locs ls T Ll)
theorem ar_dup {v : Value} (d : decode (am_b M) pc = .ok (.dup, 1)) (hc : v.category = 1) (k : am_RW M h0 P kc ks (pc + 1) L (v :: v :: S) h) : am_RW M h0 P kc ks pc L (v :: S) h := by
  intro p l e R s m args below meth c D ad0 Q C F ad H locs ls T Ll
  exact lv_dup C.1 C.2.1 d ((am_vc ad v).trans hc) (k p l e R s m args below meth c D ad0 Q C F ad H locs ls T Ll)
theorem ar_pop {v : Value} (d : decode (am_b M) pc = .ok (.pop, 1)) (hc : v.category = 1) (k : am_RW M h0 P kc ks (pc + 1) L S h) : am_RW M h0 P kc ks pc L (v :: S) h := by
  intro p l e R s m args below meth c D ad0 Q C F ad H locs ls T Ll
  exact lv_pop C.1 C.2.1 d ((am_vc ad v).trans hc) (k p l e R s m args below meth c D ad0 Q C F ad H locs ls T Ll)
theorem ar_dup2 {v w : Value} (d : decode (am_b M) pc = .ok (.dup2, 1)) (hc : v.category = 1) (hd : w.category = 1) (k : am_RW M h0 P kc ks (pc + 1) L (v :: w :: v :: w :: S) h) : am_RW M h0 P kc ks pc L (v :: w :: S) h := by
  intro p l e R s m args below meth c D ad0 Q C F ad H locs ls T Ll
  exact lv_dup2_11 C.1 C.2.1 d ((am_vc ad v).trans hc) ((am_vc ad w).trans hd) (k p l e R s m args below meth c D ad0 Q C F ad H locs ls T Ll)
theorem ar_lcmp {x y : Int64} (d : decode (am_b M) pc = .ok (.lcmp, 1)) (k : am_RW M h0 P kc ks (pc + 1) L (.int (lg_cmp x y) :: S) h) : am_RW M h0 P kc ks pc L (.long y :: .long x :: S) h := by
  intro p l e R s m args below meth c D ad0 Q C F ad H locs ls T Ll
  exact W.lcmp C.1 C.2.1 d (k p l e R s m args below meth c D ad0 Q C F ad H locs ls T Ll)
theorem ar_istore_n {k0 : Fin 4} {i : Nat} {x : Int32} (d : decode (am_b M) pc = .ok (.istore_n k0, 1)) (hi : (k0 : Nat) = i) (hn : i < am_n M) (ho : am_ok1 L i = true) (k : am_RW M h0 P kc ks (pc + 1) (L.set i (some (.int x))) S h) : am_RW M h0 P kc ks pc L (.int x :: S) h := by
  intro p l e R s m args below meth c D ad0 Q C F ad H locs ls T Ll
  exact lv_istore_n C.1 C.2.1 d hi Ll hn rfl (fun ls hl => k p l e R s m args below meth c D ad0 Q C F ad H locs ls T (am_L.set (v := .int x) ho hl))
theorem ar_istore {i : Nat} {x : Int32} (d : decode (am_b M) pc = .ok (.istore i, 2)) (hn : i < am_n M) (ho : am_ok1 L i = true) (k : am_RW M h0 P kc ks (pc + 2) (L.set i (some (.int x))) S h) : am_RW M h0 P kc ks pc L (.int x :: S) h := by
  intro p l e R s m args below meth c D ad0 Q C F ad H locs ls T Ll
  exact lv_istore C.1 C.2.1 d Ll hn rfl (fun ls hl => k p l e R s m args below meth c D ad0 Q C F ad H locs ls T (am_L.set (v := .int x) ho hl))
theorem ar_astore_n {k0 : Fin 4} {i : Nat} {x : Nat} (d : decode (am_b M) pc = .ok (.astore_n k0, 1)) (hi : (k0 : Nat) = i) (hn : i < am_n M) (ho : am_ok1 L i = true) (k : am_RW M h0 P kc ks (pc + 1) (L.set i (some (.ref x))) S h) : am_RW M h0 P kc ks pc L (.ref x :: S) h := by
  intro p l e R s m args below meth c D ad0 Q C F ad H locs ls T Ll
  exact lv_astore_n C.1 C.2.1 d hi Ll hn rfl (fun ls hl => k p l e R s m args below meth c D ad0 Q C F ad H locs ls T (am_L.set (v := .ref x) ho hl))
theorem ar_astore {i : Nat} {x : Nat} (d : decode (am_b M) pc = .ok (.astore i, 2)) (hn : i < am_n M) (ho : am_ok1 L i = true) (k : am_RW M h0 P kc ks (pc + 2) (L.set i (some (.ref x))) S h) : am_RW M h0 P kc ks pc L (.ref x :: S) h := by
  intro p l e R s m args below meth c D ad0 Q C F ad H locs ls T Ll
  exact lv_astore C.1 C.2.1 d Ll hn rfl (fun ls hl => k p l e R s m args below meth c D ad0 Q C F ad H locs ls T (am_L.set (v := .ref x) ho hl))
theorem ar_astore_nN {k0 : Fin 4} {i : Nat} (d : decode (am_b M) pc = .ok (.astore_n k0, 1)) (hi : (k0 : Nat) = i) (hn : i < am_n M) (ho : am_ok1 L i = true) (k : am_RW M h0 P kc ks (pc + 1) (L.set i (some .null)) S h) : am_RW M h0 P kc ks pc L (.null :: S) h := by
  intro p l e R s m args below meth c D ad0 Q C F ad H locs ls T Ll
  exact lv_astore_nN C.1 C.2.1 d hi Ll hn rfl (fun ls hl => k p l e R s m args below meth c D ad0 Q C F ad H locs ls T (am_L.set (v := .null) ho hl))
theorem ar_lstore_n {k0 : Fin 4} {i : Nat} {x : Int64} (d : decode (am_b M) pc = .ok (.lstore_n k0, 1)) (hi : (k0 : Nat) = i) (hn : i + 1 < am_n M) (ho : am_ok1 L i = true) (k : am_RW M h0 P kc ks (pc + 1) ((L.set i (some (.long x))).set (i + 1) none) S h) : am_RW M h0 P kc ks pc L (.long x :: S) h := by
  intro p l e R s m args below meth c D ad0 Q C F ad H locs ls T Ll
  exact lv_lstore_n C.1 C.2.1 d hi Ll hn rfl (fun ls hl => k p l e R s m args below meth c D ad0 Q C F ad H locs ls T (am_L.set2 (v := .long x) ho hl))
theorem ar_lstore {i : Nat} {x : Int64} (d : decode (am_b M) pc = .ok (.lstore i, 2)) (hn : i + 1 < am_n M) (ho : am_ok1 L i = true) (k : am_RW M h0 P kc ks (pc + 2) ((L.set i (some (.long x))).set (i + 1) none) S h) : am_RW M h0 P kc ks pc L (.long x :: S) h := by
  intro p l e R s m args below meth c D ad0 Q C F ad H locs ls T Ll
  exact lv_lstore C.1 C.2.1 d Ll hn rfl (fun ls hl => k p l e R s m args below meth c D ad0 Q C F ad H locs ls T (am_L.set2 (v := .long x) ho hl))
theorem ar_iinc {i : Nat} {n : Int} {x v : Int32} (d : decode (am_b M) pc = .ok (.iinc i n, 3)) (hl : L[i]? = some (some (.int x))) (hv : x + Int32.ofInt n = v) (hn : i < am_n M) (ho : am_ok1 L i = true) (k : am_RW M h0 P kc ks (pc + 3) (L.set i (some (.int v))) S h) : am_RW M h0 P kc ks pc L S h := by
  intro p l e R s m args below meth c D ad0 Q C F ad H locs ls T Ll
  obtain ⟨j, hj⟩ := List.getElem?_of_mem (am_mem (ad := ad) (q := (i, .int x)).mpr ⟨.int x, hl, rfl⟩)
  exact lv_iinc C.1 C.2.1 d Ll hj hv hn rfl (fun ls hl => k p l e R s m args below meth c D ad0 Q C F ad H locs ls T (am_L.set (v := .int v) ho hl))
theorem ar_if_eq {x : Int32} {off : Int} {tgt : Nat} (d : decode (am_b M) pc = .ok (.ifCond .eq off, 3)) (ht : (pc : Int) + off = (tgt : Int)) (kt : x = 0 → am_RW M h0 P kc ks tgt L S h) (kf : ¬ x = 0 → am_RW M h0 P kc ks (pc + 3) L S h) : am_RW M h0 P kc ks pc L (.int x :: S) h := by
  intro p l e R s m args below meth c D ad0 Q C F ad H locs ls T Ll
  exact lv_if_eq C.1 C.2.1 d ht (fun hc => kt hc p l e R s m args below meth c D ad0 Q C F ad H locs ls T Ll) (fun hc => kf hc p l e R s m args below meth c D ad0 Q C F ad H locs ls T Ll)
theorem ar_if_ne {x : Int32} {off : Int} {tgt : Nat} (d : decode (am_b M) pc = .ok (.ifCond .ne off, 3)) (ht : (pc : Int) + off = (tgt : Int)) (kt : ¬ x = 0 → am_RW M h0 P kc ks tgt L S h) (kf : x = 0 → am_RW M h0 P kc ks (pc + 3) L S h) : am_RW M h0 P kc ks pc L (.int x :: S) h := by
  intro p l e R s m args below meth c D ad0 Q C F ad H locs ls T Ll
  exact lv_if_ne C.1 C.2.1 d ht (fun hc => kt hc p l e R s m args below meth c D ad0 Q C F ad H locs ls T Ll) (fun hc => kf hc p l e R s m args below meth c D ad0 Q C F ad H locs ls T Ll)
theorem ar_if_lt {x : Int32} {off : Int} {tgt : Nat} (d : decode (am_b M) pc = .ok (.ifCond .lt off, 3)) (ht : (pc : Int) + off = (tgt : Int)) (kt : x < 0 → am_RW M h0 P kc ks tgt L S h) (kf : ¬ x < 0 → am_RW M h0 P kc ks (pc + 3) L S h) : am_RW M h0 P kc ks pc L (.int x :: S) h := by
  intro p l e R s m args below meth c D ad0 Q C F ad H locs ls T Ll
  exact lv_if_lt C.1 C.2.1 d ht (fun hc => kt hc p l e R s m args below meth c D ad0 Q C F ad H locs ls T Ll) (fun hc => kf hc p l e R s m args below meth c D ad0 Q C F ad H locs ls T Ll)
theorem ar_if_ge {x : Int32} {off : Int} {tgt : Nat} (d : decode (am_b M) pc = .ok (.ifCond .ge off, 3)) (ht : (pc : Int) + off = (tgt : Int)) (kt : 0 ≤ x → am_RW M h0 P kc ks tgt L S h) (kf : ¬ 0 ≤ x → am_RW M h0 P kc ks (pc + 3) L S h) : am_RW M h0 P kc ks pc L (.int x :: S) h := by
  intro p l e R s m args below meth c D ad0 Q C F ad H locs ls T Ll
  exact lv_if_ge C.1 C.2.1 d ht (fun hc => kt hc p l e R s m args below meth c D ad0 Q C F ad H locs ls T Ll) (fun hc => kf hc p l e R s m args below meth c D ad0 Q C F ad H locs ls T Ll)
theorem ar_if_gt {x : Int32} {off : Int} {tgt : Nat} (d : decode (am_b M) pc = .ok (.ifCond .gt off, 3)) (ht : (pc : Int) + off = (tgt : Int)) (kt : 0 < x → am_RW M h0 P kc ks tgt L S h) (kf : ¬ 0 < x → am_RW M h0 P kc ks (pc + 3) L S h) : am_RW M h0 P kc ks pc L (.int x :: S) h := by
  intro p l e R s m args below meth c D ad0 Q C F ad H locs ls T Ll
  exact lv_if_gt C.1 C.2.1 d ht (fun hc => kt hc p l e R s m args below meth c D ad0 Q C F ad H locs ls T Ll) (fun hc => kf hc p l e R s m args below meth c D ad0 Q C F ad H locs ls T Ll)
theorem ar_if_le {x : Int32} {off : Int} {tgt : Nat} (d : decode (am_b M) pc = .ok (.ifCond .le off, 3)) (ht : (pc : Int) + off = (tgt : Int)) (kt : x ≤ 0 → am_RW M h0 P kc ks tgt L S h) (kf : ¬ x ≤ 0 → am_RW M h0 P kc ks (pc + 3) L S h) : am_RW M h0 P kc ks pc L (.int x :: S) h := by
  intro p l e R s m args below meth c D ad0 Q C F ad H locs ls T Ll
  exact lv_if_le C.1 C.2.1 d ht (fun hc => kt hc p l e R s m args below meth c D ad0 Q C F ad H locs ls T Ll) (fun hc => kf hc p l e R s m args below meth c D ad0 Q C F ad H locs ls T Ll)
theorem ar_icmp_eq {x y : Int32} {off : Int} {tgt : Nat} (d : decode (am_b M) pc = .ok (.if_icmp .eq off, 3)) (ht : (pc : Int) + off = (tgt : Int)) (kt : x = y → am_RW M h0 P kc ks tgt L S h) (kf : ¬ x = y → am_RW M h0 P kc ks (pc + 3) L S h) : am_RW M h0 P kc ks pc L (.int y :: .int x :: S) h := by
  intro p l e R s m args below meth c D ad0 Q C F ad H locs ls T Ll
  exact lv_icmp_eq C.1 C.2.1 d ht (fun hc => kt hc p l e R s m args below meth c D ad0 Q C F ad H locs ls T Ll) (fun hc => kf hc p l e R s m args below meth c D ad0 Q C F ad H locs ls T Ll)
theorem ar_icmp_ne {x y : Int32} {off : Int} {tgt : Nat} (d : decode (am_b M) pc = .ok (.if_icmp .ne off, 3)) (ht : (pc : Int) + off = (tgt : Int)) (kt : ¬ x = y → am_RW M h0 P kc ks tgt L S h) (kf : x = y → am_RW M h0 P kc ks (pc + 3) L S h) : am_RW M h0 P kc ks pc L (.int y :: .int x :: S) h := by
  intro p l e R s m args below meth c D ad0 Q C F ad H locs ls T Ll
  exact lv_icmp_ne C.1 C.2.1 d ht (fun hc => kt hc p l e R s m args below meth c D ad0 Q C F ad H locs ls T Ll) (fun hc => kf hc p l e R s m args below meth c D ad0 Q C F ad H locs ls T Ll)
theorem ar_icmp_lt {x y : Int32} {off : Int} {tgt : Nat} (d : decode (am_b M) pc = .ok (.if_icmp .lt off, 3)) (ht : (pc : Int) + off = (tgt : Int)) (kt : x < y → am_RW M h0 P kc ks tgt L S h) (kf : ¬ x < y → am_RW M h0 P kc ks (pc + 3) L S h) : am_RW M h0 P kc ks pc L (.int y :: .int x :: S) h := by
  intro p l e R s m args below meth c D ad0 Q C F ad H locs ls T Ll
  exact lv_icmp_lt C.1 C.2.1 d ht (fun hc => kt hc p l e R s m args below meth c D ad0 Q C F ad H locs ls T Ll) (fun hc => kf hc p l e R s m args below meth c D ad0 Q C F ad H locs ls T Ll)
theorem ar_icmp_ge {x y : Int32} {off : Int} {tgt : Nat} (d : decode (am_b M) pc = .ok (.if_icmp .ge off, 3)) (ht : (pc : Int) + off = (tgt : Int)) (kt : y ≤ x → am_RW M h0 P kc ks tgt L S h) (kf : ¬ y ≤ x → am_RW M h0 P kc ks (pc + 3) L S h) : am_RW M h0 P kc ks pc L (.int y :: .int x :: S) h := by
  intro p l e R s m args below meth c D ad0 Q C F ad H locs ls T Ll
  exact lv_icmp_ge C.1 C.2.1 d ht (fun hc => kt hc p l e R s m args below meth c D ad0 Q C F ad H locs ls T Ll) (fun hc => kf hc p l e R s m args below meth c D ad0 Q C F ad H locs ls T Ll)
theorem ar_icmp_gt {x y : Int32} {off : Int} {tgt : Nat} (d : decode (am_b M) pc = .ok (.if_icmp .gt off, 3)) (ht : (pc : Int) + off = (tgt : Int)) (kt : y < x → am_RW M h0 P kc ks tgt L S h) (kf : ¬ y < x → am_RW M h0 P kc ks (pc + 3) L S h) : am_RW M h0 P kc ks pc L (.int y :: .int x :: S) h := by
  intro p l e R s m args below meth c D ad0 Q C F ad H locs ls T Ll
  exact lv_icmp_gt C.1 C.2.1 d ht (fun hc => kt hc p l e R s m args below meth c D ad0 Q C F ad H locs ls T Ll) (fun hc => kf hc p l e R s m args below meth c D ad0 Q C F ad H locs ls T Ll)
theorem ar_icmp_le {x y : Int32} {off : Int} {tgt : Nat} (d : decode (am_b M) pc = .ok (.if_icmp .le off, 3)) (ht : (pc : Int) + off = (tgt : Int)) (kt : x ≤ y → am_RW M h0 P kc ks tgt L S h) (kf : ¬ x ≤ y → am_RW M h0 P kc ks (pc + 3) L S h) : am_RW M h0 P kc ks pc L (.int y :: .int x :: S) h := by
  intro p l e R s m args below meth c D ad0 Q C F ad H locs ls T Ll
  exact lv_icmp_le C.1 C.2.1 d ht (fun hc => kt hc p l e R s m args below meth c D ad0 Q C F ad H locs ls T Ll) (fun hc => kf hc p l e R s m args below meth c D ad0 Q C F ad H locs ls T Ll)
theorem ar_goto {off : Int} {tgt : Nat} (d : decode (am_b M) pc = .ok (.goto off, 3)) (ht : (pc : Int) + off = (tgt : Int)) (k : am_RW M h0 P kc ks tgt L S h) : am_RW M h0 P kc ks pc L S h := by
  intro p l e R s m args below meth c D ad0 Q C F ad H locs ls T Ll
  exact lv_goto C.1 C.2.1 d ht (k p l e R s m args below meth c D ad0 Q C F ad H locs ls T Ll)
theorem ar_ifnonnull {x : Nat} {off : Int} {tgt : Nat} (d : decode (am_b M) pc = .ok (.ifnonnull off, 3)) (ht : (pc : Int) + off = (tgt : Int)) (k : am_RW M h0 P kc ks tgt L S h) : am_RW M h0 P kc ks pc L (.ref x :: S) h := by
  intro p l e R s m args below meth c D ad0 Q C F ad H locs ls T Ll
  exact lv_ifnonnull C.1 C.2.1 d ht (k p l e R s m args below meth c D ad0 Q C F ad H locs ls T Ll)
theorem ar_ifnonnullN {off : Int} (d : decode (am_b M) pc = .ok (.ifnonnull off, 3)) (k : am_RW M h0 P kc ks (pc + 3) L S h) : am_RW M h0 P kc ks pc L (.null :: S) h := by
  intro p l e R s m args below meth c D ad0 Q C F ad H locs ls T Ll
  exact lv_ifnonnullN C.1 C.2.1 d (k p l e R s m args below meth c D ad0 Q C F ad H locs ls T Ll)
theorem ar_tsOut {dflt lo hi : Int} {offs : Array Int} {len : Nat} {x : Int32} {tgt : Nat} (d : decode (am_b M) pc = .ok (.tableswitch dflt lo hi offs, len)) (hh : x.toInt < lo ∨ hi < x.toInt) (ht : (pc : Int) + dflt = (tgt : Int)) (k : am_RW M h0 P kc ks tgt L S h) : am_RW M h0 P kc ks pc L (.int x :: S) h := by
  intro p l e R s m args below meth c D ad0 Q C F ad H locs ls T Ll
  exact lv_tableOut C.1 C.2.1 d hh ht (k p l e R s m args below meth c D ad0 Q C F ad H locs ls T Ll)
theorem ar_tsIn {dflt lo hi : Int} {offs : Array Int} {len : Nat} {x : Int32} {off : Int} {tgt : Nat} (d : decode (am_b M) pc = .ok (.tableswitch dflt lo hi offs, len)) (h1 : ¬ x.toInt < lo) (h2 : ¬ hi < x.toInt) (ho : offs[(x.toInt - lo).toNat]? = some off) (ht : (pc : Int) + off = (tgt : Int)) (k : am_RW M h0 P kc ks tgt L S h) : am_RW M h0 P kc ks pc L (.int x :: S) h := by
  intro p l e R s m args below meth c D ad0 Q C F ad H locs ls T Ll
  exact lv_tableIn C.1 C.2.1 d h1 h2 ho ht (k p l e R s m args below meth c D ad0 Q C F ad H locs ls T Ll)
theorem ar_ldc {idx : Nat} {v : Int32} (d : decode (am_b M) pc = .ok (.ldc idx, 2)) (hw : Cond.constant (am_y M).cls idx v ∈ am_ws) (k : am_RW M h0 P kc ks (pc + 2) L (.int v :: S) h) : am_RW M h0 P kc ks pc L S h := by
  intro p l e R s m args below meth c D ad0 Q C F ad H locs ls T Ll
  exact lv_ldc C.1 C.2.1 C.2.2.2.1 (C.2.2.2.2.1 _ (List.mem_cons_of_mem _ hw)) d (k p l e R s m args below meth c D ad0 Q C F ad H locs ls T Ll)
theorem ar_ldcw {idx : Nat} {v : Int32} (d : decode (am_b M) pc = .ok (.ldc_w idx, 3)) (hw : Cond.constant (am_y M).cls idx v ∈ am_ws) (k : am_RW M h0 P kc ks (pc + 3) L (.int v :: S) h) : am_RW M h0 P kc ks pc L S h := by
  intro p l e R s m args below meth c D ad0 Q C F ad H locs ls T Ll
  exact lv_ldcw C.1 C.2.1 C.2.2.2.1 (C.2.2.2.2.1 _ (List.mem_cons_of_mem _ hw)) d (k p l e R s m args below meth c D ad0 Q C F ad H locs ls T Ll)
theorem ar_ldc2 {idx : Nat} {v : Int64} (d : decode (am_b M) pc = .ok (.ldc2_w idx, 3)) (hw : Cond.constantLong (am_y M).cls idx v ∈ am_ws) (k : am_RW M h0 P kc ks (pc + 3) L (.long v :: S) h) : am_RW M h0 P kc ks pc L S h := by
  intro p l e R s m args below meth c D ad0 Q C F ad H locs ls T Ll
  exact lv_ldc2 C.1 C.2.1 C.2.2.2.1 (C.2.2.2.2.1 _ (List.mem_cons_of_mem _ hw)) d (k p l e R s m args below meth c D ad0 Q C F ad H locs ls T Ll)
theorem ar_ret {r : Option Value} (hS : S = r.toList) (hi : am_ri M pc r) (hc : kc ≤ am_nc M) (hs : ks ≤ am_ns M) (hp : P r h) : am_RW M h0 P kc ks pc L S h := by
  intro p l e R s m args below meth c D ad0 Q C F ad H locs ls T Ll
  subst hS
  exact F r h ad H locs kc ks ls pc hc hs hp T hi
end
end
section
/-! rows that read and write cells -/
theorem am_cty {ci : Nat} {C : String} {T : u_T} {N : Nat} (h : am_cl[ci]? = some (C, T, N)) : ∃ ty0 : Nat → FieldType, (∀ k, k < N → parseFieldDescriptor (T k).2.2.1 = some (ty0 k)) ∧ ∀ a, a < N → ∀ b, b < N → a ≠ b → (T a).2.1 ≠ (T b).2.1 := by
  match ci, h with
  | 0, h => cases h; exact ⟨_, tyX1_ok, nmX1⟩
  | 1, h => cases h; exact ⟨_, tyX2_ok, nmX2⟩
  | 2, h => cases h; exact ⟨_, tyX3_ok, nmX3⟩
  | 3, h => cases h; exact ⟨_, tyX4_ok, nmX4⟩
  | 4, h => cases h; exact ⟨_, tyX5_ok, nmX5⟩
  | 5, h => cases h; exact ⟨_, tyX6_ok, nmX6⟩
  | 6, h => cases h; exact ⟨_, tyX7_ok, nmX7⟩
  | k + 7, h => simp [am_cl] at h
theorem am_HR.set {D : va_G} {U : State} {ad : Nat → Nat} {h : am_H} {H H1 : Heap} {a : Nat} {c0 c1 : am_C} (hh : am_HR D U ad h H) (ha : h[a]? = some (some c0)) (hc : am_cell D U ad (ad a) H1 c1) (oq : ∀ q : Nat, q ≠ ad a → H1[q]? = H[q]?) : am_HR D U ad (h.set a (some c1)) H1 := by
  have hl := (List.getElem?_eq_some_iff.mp ha).1
  have pres : ∀ (j : Nat) (c : am_C), (h.set a (some c1))[j]? = some (some c) → ∃ c', h[j]? = some (some c') := by
    intro j c hj
    by_cases e : j = a
    · subst e; exact ⟨_, ha⟩
    · rw [List.getElem?_set_ne (Ne.symm e)] at hj; exact ⟨_, hj⟩
  refine ⟨fun k c hk => ?_, fun j k c d hj hk he => ?_⟩
  · by_cases e : k = a
    · subst e
      rw [List.getElem?_set_self hl] at hk
      cases hk
      exact hc
    · rw [List.getElem?_set_ne (Ne.symm e)] at hk
      exact (hh.1 k c hk).kept (oq _ fun z => e (hh.2 k a _ _ hk ha z))
  · obtain ⟨c', h1⟩ := pres j c hj
    obtain ⟨d', h2⟩ := pres k d hk
    exact hh.2 j k c' d' h1 h2 he
theorem am_set_pres {h : am_H} {a k : Nat} {c0 c1 : am_C} (ha : h[a]? = some (some c0)) : (∃ c, (h.set a (some c1))[k]? = some (some c)) ↔ ∃ c, h[k]? = some (some c) := by
  have hl := (List.getElem?_eq_some_iff.mp ha).1
  by_cases e : k = a
  · subst e
    rw [List.getElem?_set_self hl, ha]
    exact ⟨fun _ => ⟨_, rfl⟩, fun _ => ⟨_, rfl⟩⟩
  · rw [List.getElem?_set_ne (Ne.symm e)]
theorem am_St.set {h0 : am_H} {D : va_G} {s : State} {ad0 ad : Nat → Nat} {h : am_H} {H H1 : Heap} {locs : List Loc} {a i : Nat} {c0 c1 : am_C} (T : am_St h0 D s ad0 ad h H locs) (ha : h[a]? = some (some c0)) (hw : am_wr c0 = true) (hc : am_cell D s ad (ad a) H1 c1) (z : H1.size = H.size) (oq : ∀ q : Nat, q ≠ ad a → H1[q]? = H[q]?) : am_St h0 D s ad0 ad (h.set a (some c1)) H1 (locs ++ [⟨ad a, i⟩]) := by
  obtain ⟨t1, t2, t3, t4, t5, t6, t7, t8⟩ := T
  have hl := (List.getElem?_eq_some_iff.mp ha).1
  refine ⟨t1.set ha hc oq, fun k c hk => (am_set_pres ha).mpr (t2 k c hk), fun k hk => t3 k fun q => hk ⟨(am_set_pres ha).mpr q.1, q.2⟩, fun k hk => t4 k ⟨(am_set_pres ha).mp hk.1, hk.2⟩, fun k c hk hcw => ?_, t6.put z oq (t5 a c0 ha hw), t7, t8⟩
  by_cases e : k = a
  · subst e; exact t5 k c0 ha hw
  · rw [List.getElem?_set_ne (Ne.symm e)] at hk
    exact t5 k c hk hcw
/-- the word of a field: own class, entry, class and place of the field, its type, whether it is final -/
def am_fld (own : String) (idx ci k : Nat) (ty : FieldType) (fin : Bool) : Prop := ∃ (C : String) (T : u_T) (N : Nat), am_cl[ci]? = some (C, T, N) ∧ k < N ∧ Cond.fieldLink own idx (T k).1 (T k).2.1 (T k).2.2.1 ∈ am_ws ∧ parseFieldDescriptor (T k).2.2.1 = some ty ∧ (T k).2.2.2 = fin ∧ (fin = true → (T k).1 = C)
section
variable {M : am_M} {h0 : am_H} {P : Option Value → am_H → Prop} {kc ks pc : Nat} {L : List (Option Value)} {S : List Value} {h : am_H}
theorem am_ts {p : Program} {R : Room} {s : State} {m : MethodId} {args : Array Value} {meth : Method} {c : Code} (C : am_Cx M p R s m args meth c) {w : Cond} (hw : w ∈ am_ws) : w.before args s = true := C.2.2.2.2.1 _ (List.mem_cons_of_mem _ hw)
theorem ar_getf {idx ci k a : Nat} {ty : FieldType} {fin : Bool} {fs : List Value} {v : Value} (d : decode (am_b M) pc = .ok (.getfield idx, 3)) (hf : am_fld (am_y M).cls idx ci k ty fin) (hc : h[a]? = some (some (.inl (ci, fs)))) (hv : fs[k]? = some v) (k : am_RW M h0 P kc ks (pc + 3) L (v :: S) h) : am_RW M h0 P kc ks pc L (.ref a :: S) h := by
  intro p l e R s m args below meth c D ad0 Q C F ad H locs ls T Ll
  obtain ⟨Cn, Tn, N, q1, q2, q3, -⟩ := hf
  have hP : va_P D am_cl [(ad a, .inr (ci, fs.map (am_v ad)))] H := fun j q hj => by
    match j, hj with
    | 0, hj => cases hj; exact T.1.1 a _ hc
    | j + 1, hj => simp at hj
  refine va_get C.1 C.2.1 C.2.2.2.2.1 (fun w hw => List.mem_cons_of_mem _ (am_uws q1 w hw)) C.2.2.2.1 T.2.2.2.2.2.2.1.1 hP 0 rfl q1 _ q2 (am_ts C q3) (fun _ z => z) (v := am_v ad v) (by rw [List.getElem?_map, hv]; rfl) d ?_
  exact k p l e R s m args below meth c D ad0 Q C F ad H locs ls T Ll
theorem ar_putf {idx ci k a : Nat} {ty : FieldType} {fs : List Value} {v : Value} (d : decode (am_b M) pc = .ok (.putfield idx, 3)) (hf : am_fld (am_y M).cls idx ci k ty false) (hc : h[a]? = some (some (.inl (ci, fs)))) (hv : k < fs.length) (hn : ∀ ad, narrow ty (am_v ad v) = am_v ad v ∧ fits ty (am_v ad v) = true) (kk : am_RW M h0 P kc ks (pc + 3) L S (h.set a (some (.inl (ci, fs.set k v))))) : am_RW M h0 P kc ks pc L (v :: .ref a :: S) h := by
  intro p l e R s m args below meth c D ad0 Q C F ad H locs ls T Ll
  obtain ⟨Cn, Tn, N, q1, q2, q3, q4, q5, -⟩ := hf
  obtain ⟨ty0, hty, hnm⟩ := am_cty q1
  have hin : ∀ w ∈ u_ws Cn Tn N, w ∈ am_W M := fun w hw => List.mem_cons_of_mem _ (am_uws q1 w hw)
  have hts := C.2.2.2.2.1
  have hK : va_K D am_cl [] s := T.2.2.2.2.2.2.1.1
  have hap := va_apart (own := "") hts hin ty0 hty hnm hK q1
  obtain ⟨r, h1, cell, c1, c2, c3, c4⟩ := T.1.1 a _ hc
  have hr : r = (Cn, Tn, N) := Option.some.inj (h1.symm.trans q1)
  subst hr
  obtain ⟨hS, hfc, kC, hkC, hkind⟩ := hK.1 ci _ q1
  obtain ⟨cf, kf, fi, f, hi, hsl⟩ := hS k q2
  have hlay := hts _ (hin _ (u_in_lay q2))
  unfold u_lay at hlay
  rw [if_neg (by rw [q5]; decide)] at hlay
  have hst := (u_facts hfc hkC (u_lays hts hin q2) hi).1
  have h6 := u_store hfc hkC hkind hlay hi q4 (hn ad).1 (hn ad).2
  refine W.putK C.1 C.2.1 (f := f) ⟨C.2.2.2.1, am_ts C q3, ⟨_, _, _, hi⟩, hst⟩ (by rw [c2]; exact h6) c1 c3 (by rw [hsl]; exact k2_hasslot (c4 k q2)) rfl rfl d fun H' e1 e2 e3 => ?_
  rw [hsl] at e1 ⊢
  have hl : k < (fs.map (am_v ad)).length := by rw [List.length_map]; exact hv
  have hcell : am_cell D s ad (ad a) H' (.inl (ci, fs.set k v)) := by
    refine ⟨(Cn, Tn, N), q1, ?_⟩
    refine t_OB.to (V := updV (vp_V (fs.map (am_v ad))) k (am_v ad v)) ⟨_, e1, c2, c3, t_set c4 hap q2 (am_v ad v)⟩ (fun j _ => ?_)
    rw [vp_updV_set hl, ← List.map_set]
  exact kk p l e R s m args below meth c D ad0 Q C F ad H' _ ls (T.set hc rfl hcell e2 e3) Ll
theorem ar_putF {idx ci k a : Nat} {ty : FieldType} {fs : List Value} {v : Value} (d : decode (am_b M) pc = .ok (.putfield idx, 3)) (hf : am_fld (am_y M).cls idx ci k ty true) (hown : (am_cl[ci]?).map (fun q => q.1) = some (am_y M).cls) (hin2 : (am_y M).name = "<init>") (hc : h[a]? = some (some (.inl (ci, fs)))) (hv : k < fs.length) (hn : ∀ ad, narrow ty (am_v ad v) = am_v ad v ∧ fits ty (am_v ad v) = true) (kk : am_RW M h0 P kc ks (pc + 3) L S (h.set a (some (.inl (ci, fs.set k v))))) : am_RW M h0 P kc ks pc L (v :: .ref a :: S) h := by
  intro p l e R s m args below meth c D ad0 Q C F ad H locs ls T Ll
  obtain ⟨Cn, Tn, N, q1, q2, q3, q4, q5, q6⟩ := hf
  have hdecl : (Tn k).1 = (am_y M).cls := by
    rw [q6 rfl]
    rw [q1] at hown
    exact Option.some.inj hown
  obtain ⟨ty0, hty, hnm⟩ := am_cty q1
  have hin : ∀ w ∈ u_ws Cn Tn N, w ∈ am_W M := fun w hw => List.mem_cons_of_mem _ (am_uws q1 w hw)
  have hts := C.2.2.2.2.1
  have hK : va_K D am_cl [] s := T.2.2.2.2.2.2.1.1
  have hap := va_apart (own := "") hts hin ty0 hty hnm hK q1
  obtain ⟨r, h1, cell, c1, c2, c3, c4⟩ := T.1.1 a _ hc
  have hr : r = (Cn, Tn, N) := Option.some.inj (h1.symm.trans q1)
  subst hr
  obtain ⟨hS, hfc, kC, hkC, hkind⟩ := hK.1 ci _ q1
  obtain ⟨cf, kf, fi, f, hi, hsl⟩ := hS k q2
  have hlay := hts _ (hin _ (u_in_lay q2))
  unfold u_lay at hlay
  rw [if_pos q5] at hlay
  have hst := (u_facts hfc hkC (u_lays hts hin q2) hi).1
  have hcf : m.cls = cf := by
    obtain ⟨_, _, c', _, _, _, -, -, hf', -, -, -, hown2, -⟩ := Cond.laysFinal_spec hlay
    have e1 : c' = cf := by have := hi.symm.trans hf'; simp at this; exact this.1.symm
    rw [hdecl] at hown2
    rw [← e1]; exact Option.some.inj (C.2.2.2.1.symm.trans hown2)
  have h6 := u_fits hfc hkC hkind (Or.inr hlay) hi q4 (hn ad).1 (hn ad).2
  refine W.putFinK C.1 C.2.1 C.2.2.2.1 (am_ts C q3) hi hst hcf (C.2.2.2.2.2.1.trans hin2) (by rw [c2]; exact h6) c1 c3 (by rw [hsl]; exact k2_hasslot (c4 k q2)) rfl rfl d fun H' e1 e2 e3 => ?_
  rw [hsl] at e1 ⊢
  have hl : k < (fs.map (am_v ad)).length := by rw [List.length_map]; exact hv
  have hcell : am_cell D s ad (ad a) H' (.inl (ci, fs.set k v)) := by
    refine ⟨(Cn, Tn, N), q1, ?_⟩
    refine t_OB.to (V := updV (vp_V (fs.map (am_v ad))) k (am_v ad v)) ⟨_, e1, c2, c3, t_set c4 hap q2 (am_v ad v)⟩ (fun j _ => ?_)
    rw [vp_updV_set hl, ← List.map_set]
  exact kk p l e R s m args below meth c D ad0 Q C F ad H' _ ls (T.set hc rfl hcell e2 e3) Ll
theorem ar_inx {x : Int32} {j N : Nat} (hj : j < N) (hN : N < 2147483648) (ex : x = nI j) : ¬ (x < 0 ∨ N ≤ x.toNatClampNeg) ∧ x.toNatClampNeg = j := by
  subst ex
  have hj2 : j < 2 ^ 31 := by omega
  exact ⟨nI_in hj (by omega), nI_clamp hj2⟩
theorem ar_iald {x : Int32} {a j N : Nat} {w : Bool} {f : Nat → Int32} (d : decode (am_b M) pc = .ok (.iaload, 1)) (hc : h[a]? = some (some (.inr (.inl (.int, w, N, f))))) (hj : j < N) (ex : x = nI j) (k : am_RW M h0 P kc ks (pc + 1) L (.int (f j) :: S) h) : am_RW M h0 P kc ks pc L (.int x :: .ref a :: S) h := by
  intro p l e R s m args below meth c D ad0 Q C F ad H locs ls T Ll
  obtain ⟨cell, c1, c2, c3, c4, c5, c6⟩ := T.1.1 a _ hc
  obtain ⟨i1, i2⟩ := ar_inx hj c5 ex
  exact W.iald (v := .int (f j)) C.1 C.2.1 c1 c2 c3 (by rw [c4]; exact i1) (by rw [i2]; exact c6 j hj) rfl rfl d (k p l e R s m args below meth c D ad0 Q C F ad H locs ls T Ll)
theorem ar_cald {x : Int32} {a j N : Nat} {w : Bool} {f : Nat → Int32} (d : decode (am_b M) pc = .ok (.caload, 1)) (hc : h[a]? = some (some (.inr (.inl (.char, w, N, f))))) (hj : j < N) (ex : x = nI j) (k : am_RW M h0 P kc ks (pc + 1) L (.int (f j) :: S) h) : am_RW M h0 P kc ks pc L (.int x :: .ref a :: S) h := by
  intro p l e R s m args below meth c D ad0 Q C F ad H locs ls T Ll
  obtain ⟨cell, c1, c2, c3, c4, c5, c6⟩ := T.1.1 a _ hc
  obtain ⟨i1, i2⟩ := ar_inx hj c5 ex
  exact W.cald (v := .int (f j)) C.1 C.2.1 c1 c2 c3 (by rw [c4]; exact i1) (by rw [i2]; exact c6 j hj) rfl rfl d (k p l e R s m args below meth c D ad0 Q C F ad H locs ls T Ll)
theorem ar_zald {x : Int32} {a j N : Nat} {w : Bool} {f : Nat → Int32} (d : decode (am_b M) pc = .ok (.baload, 1)) (hc : h[a]? = some (some (.inr (.inl (.boolean, w, N, f))))) (hj : j < N) (ex : x = nI j) (k : am_RW M h0 P kc ks (pc + 1) L (.int (f j) :: S) h) : am_RW M h0 P kc ks pc L (.int x :: .ref a :: S) h := by
  intro p l e R s m args below meth c D ad0 Q C F ad H locs ls T Ll
  obtain ⟨cell, c1, c2, c3, c4, c5, c6⟩ := T.1.1 a _ hc
  obtain ⟨i1, i2⟩ := ar_inx hj c5 ex
  exact W.zald (v := .int (f j)) C.1 C.2.1 c1 c2 c3 (by rw [c4]; exact i1) (by rw [i2]; exact c6 j hj) rfl rfl d (k p l e R s m args below meth c D ad0 Q C F ad H locs ls T Ll)
theorem ar_alen {a N : Nat} {ty : FieldType} {w : Bool} {f : Nat → Int32} (d : decode (am_b M) pc = .ok (.arraylength, 1)) (hc : h[a]? = some (some (.inr (.inl (ty, w, N, f))))) (k : am_RW M h0 P kc ks (pc + 1) L (.int (nI N) :: S) h) : am_RW M h0 P kc ks pc L (.ref a :: S) h := by
  intro p l e R s m args below meth c D ad0 Q C F ad H locs ls T Ll
  obtain ⟨cell, c1, c2, c3, c4, c5, c6⟩ := T.1.1 a _ hc
  exact W.alen (n := nI N) C.1 C.2.1 c1 c2 (by rw [c4]; rfl) rfl rfl d (k p l e R s m args below meth c D ad0 Q C F ad H locs ls T Ll)
theorem ar_alenq {a ci : Nat} {gs : List (Option Nat)} (d : decode (am_b M) pc = .ok (.arraylength, 1)) (hc : h[a]? = some (some (.inr (.inr (ci, gs))))) (k : am_RW M h0 P kc ks (pc + 1) L (.int (nI gs.length) :: S) h) : am_RW M h0 P kc ks pc L (.ref a :: S) h := by
  intro p l e R s m args below meth c D ad0 Q C F ad H locs ls T Ll
  obtain ⟨cA, q, c0, c1, c2, c3, c4⟩ := T.1.1 a _ hc
  exact W.alen (n := nI gs.length) C.1 C.2.1 c2 (c3 gs.length _) (by rw [arrV_size]; rfl) rfl rfl d (k p l e R s m args below meth c D ad0 Q C F ad H locs ls T Ll)
theorem am_cset {D : va_G} {s : State} {ad : Nat → Nat} {a : Nat} {H1 : Heap} {ty : FieldType} {w : Bool} {N j : Nat} {f : Nat → Int32} {x : Int32} {cell : Cell} (c2 : s.isArrayOf cell ty) (c3 : cell.vm ≠ .unknown) (c4 : cell.slots.size = N) (c5 : N < 2147483648) (c6 : ∀ j : Nat, j < N → cell.slots[j]? = some (.int (f j))) (hj : j < N) (e : H1[a]? = some (cell.setSlot j (.int x))) : am_cell D s ad a H1 (.inr (.inl (ty, w, N, upd f j x))) := by
  refine ⟨_, e, c2, c3, ?_, c5, fun i hi => ?_⟩
  · show (cell.slots.setIfInBounds j (.int x)).size = N
    rw [Array.size_setIfInBounds]; exact c4
  · show (cell.slots.setIfInBounds j (.int x))[i]? = some (.int (upd f j x i))
    by_cases h : i = j
    · subst h
      rw [Array.getElem?_setIfInBounds_self_of_lt (by rw [c4]; exact hi)]
      simp [upd]
    · rw [Array.getElem?_setIfInBounds_ne (Ne.symm h), c6 i hi]
      simp [upd, h]
theorem ar_iast {x i : Int32} {a j N : Nat} {f : Nat → Int32} (d : decode (am_b M) pc = .ok (.iastore, 1)) (hc : h[a]? = some (some (.inr (.inl (.int, true, N, f))))) (hj : j < N) (ex : i = nI j) (k : am_RW M h0 P kc ks (pc + 1) L S (h.set a (some (.inr (.inl (.int, true, N, upd f j x)))))) : am_RW M h0 P kc ks pc L (.int x :: .int i :: .ref a :: S) h := by
  intro p l e R s m args below meth c D ad0 Q C F ad H locs ls T Ll
  obtain ⟨cell, c1, c2, c3, c4, c5, c6⟩ := T.1.1 a _ hc
  obtain ⟨i1, i2⟩ := ar_inx hj c5 ex
  refine W.iast C.1 C.2.1 c1 c2 c3 (by rw [c4]; exact i1) rfl rfl d fun H1 e1 z oq => ?_
  rw [i2] at e1
  exact k p l e R s m args below meth c D ad0 Q C F ad H1 _ ls (T.set hc rfl (am_cset c2 c3 c4 c5 c6 hj e1) z oq) Ll
theorem ar_cast {x y i : Int32} {a j N : Nat} {f : Nat → Int32} (d : decode (am_b M) pc = .ok (.castore, 1)) (hc : h[a]? = some (some (.inr (.inl (.char, true, N, f))))) (hj : j < N) (ex : i = nI j) (hy : narrow .char (.int x) = .int y) (k : am_RW M h0 P kc ks (pc + 1) L S (h.set a (some (.inr (.inl (.char, true, N, upd f j y)))))) : am_RW M h0 P kc ks pc L (.int x :: .int i :: .ref a :: S) h := by
  intro p l e R s m args below meth c D ad0 Q C F ad H locs ls T Ll
  obtain ⟨cell, c1, c2, c3, c4, c5, c6⟩ := T.1.1 a _ hc
  obtain ⟨i1, i2⟩ := ar_inx hj c5 ex
  refine W.cast C.1 C.2.1 c1 c2 c3 (by rw [c4]; exact i1) rfl rfl d fun H1 e1 z oq => ?_
  rw [i2, hy] at e1
  exact k p l e R s m args below meth c D ad0 Q C F ad H1 _ ls (T.set hc rfl (am_cset c2 c3 c4 c5 c6 hj e1) z oq) Ll
theorem ar_zast {x y i : Int32} {a j N : Nat} {f : Nat → Int32} (d : decode (am_b M) pc = .ok (.bastore, 1)) (hc : h[a]? = some (some (.inr (.inl (.boolean, true, N, f))))) (hj : j < N) (ex : i = nI j) (hy : narrow .boolean (.int x) = .int y) (k : am_RW M h0 P kc ks (pc + 1) L S (h.set a (some (.inr (.inl (.boolean, true, N, upd f j y)))))) : am_RW M h0 P kc ks pc L (.int x :: .int i :: .ref a :: S) h := by
  intro p l e R s m args below meth c D ad0 Q C F ad H locs ls T Ll
  obtain ⟨cell, c1, c2, c3, c4, c5, c6⟩ := T.1.1 a _ hc
  obtain ⟨i1, i2⟩ := ar_inx hj c5 ex
  refine W.zast C.1 C.2.1 c1 c2 c3 (by rw [c4]; exact i1) rfl rfl d fun H1 e1 z oq => ?_
  rw [i2, hy] at e1
  exact k p l e R s m args below meth c D ad0 Q C F ad H1 _ ls (T.set hc rfl (am_cset c2 c3 c4 c5 c6 hj e1) z oq) Ll
def am_rf (o : Option Nat) : Value := match o with
  | none => .null
  | some k => .ref k
theorem am_rf_v (ad : Nat → Nat) (o : Option Nat) : am_v ad (am_rf o) = va_rf (o.map ad) := by cases o <;> rfl
theorem ar_aald {x : Int32} {a j ci : Nat} {gs : List (Option Nat)} {o : Option Nat} (d : decode (am_b M) pc = .ok (.aaload, 1)) (hc : h[a]? = some (some (.inr (.inr (ci, gs))))) (hj : gs[j]? = some o) (ex : x = nI j) (k : am_RW M h0 P kc ks (pc + 1) L (am_rf o :: S) h) : am_RW M h0 P kc ks pc L (.int x :: .ref a :: S) h := by
  intro p l e R s m args below meth c D ad0 Q C F ad H locs ls T Ll
  obtain ⟨cA, q, c0, c1, c2, c3, c4⟩ := T.1.1 a _ hc
  have hl : j < gs.length := (List.getElem?_eq_some_iff.mp hj).1
  obtain ⟨i1, i2⟩ := ar_inx hl c1 ex
  refine W.aald (v := am_v ad (am_rf o)) (ty := .object q.1) C.1 C.2.1 c2 (c3 gs.length _) rfl (fun z => by cases z) (by rw [arrV_size]; exact i1) ?_ rfl rfl d (k p l e R s m args below meth c D ad0 Q C F ad H locs ls T Ll)
  rw [i2, arrV_read _ _ hl, List.getD_eq_getElem?_getD, hj, am_rf_v]
  rfl
theorem ar_aast {i : Int32} {a b j ci : Nat} {gs : List (Option Nat)} {fs : List Value} (d : decode (am_b M) pc = .ok (.aastore, 1)) (hc : h[a]? = some (some (.inr (.inr (ci, gs))))) (hb : h[b]? = some (some (.inl (ci, fs)))) (hj : j < gs.length) (ex : i = nI j) (k : am_RW M h0 P kc ks (pc + 1) L S (h.set a (some (.inr (.inr (ci, gs.set j (some b))))))) : am_RW M h0 P kc ks pc L (.ref b :: .int i :: .ref a :: S) h := by
  intro p l e R s m args below meth c D ad0 Q C F ad H locs ls T Ll
  obtain ⟨cA, q, c0, c1, c2, c3, c4⟩ := T.1.1 a _ hc
  obtain ⟨i1, i2⟩ := ar_inx hj c1 ex
  obtain ⟨r', hr', cellV, g1, g2, g3, -⟩ := T.1.1 b _ hb
  have hK : va_K D am_cl [] s := T.2.2.2.2.2.2.1.1
  have hcls := (hK.1 ci q c0).2
  obtain ⟨kA, comp, k1, k2, k3, -⟩ := id c4
  have hcomp : comp = D.1 ci := Option.some.inj (k3.symm.trans hcls.1)
  subst hcomp
  obtain ⟨kC, hkC, -⟩ := id hcls.2
  refine W.aast C.1 C.2.1 c2 (fun q h => by cases h) (fun h => by cases h) k1 k2 rfl hkC ⟨fun z => i1 (Or.inl z), by rw [arrV_size, i2]; exact hj⟩ g1 (fun q h => by rw [g3] at h; cases h) (by rw [g2]; exact hkC) (by rw [g2]; exact va_assign hcls) rfl rfl d fun H1 e1 z oq => ?_
  have hcell : am_cell D s ad (ad a) H1 (.inr (.inr (ci, gs.set j (some b)))) := by
    refine ⟨cA, q, c0, by rw [List.length_set]; exact c1, ?_, c3, c4⟩
    rw [e1, arrV_store, i2, List.length_set]
    congr 2
    funext n
    rw [List.getD_eq_getElem?_getD]
    by_cases hn : n = j
    · subst hn
      rw [List.getElem?_set_self hj]
      simp [updV, va_rf]
    · rw [List.getElem?_set_ne (Ne.symm hn)]
      simp [updV, hn, List.getD_eq_getElem?_getD]
  exact k p l e R s m args below meth c D ad0 Q C F ad H1 _ ls (T.set hc rfl hcell z oq) Ll
theorem ar_gets0 {idx : Nat} (d : decode (am_b M) pc = .ok (.getstatic idx, 3)) (hw : Cond.fieldLink (am_y M).cls idx "PuppetPitches" "FIRST_SETTINGS" "[I" ∈ am_ws) (k : am_RW M h0 P kc ks (pc + 3) L (.ref 0 :: S) h) : am_RW M h0 P kc ks pc L S h := by
  intro p l e R s m args below meth c D ad0 Q C F ad H locs ls T Ll
  refine va_gets C.1 C.2.1 T.2.2.2.2.2.2.1.2.2.1 T.2.2.2.2.2.1 C.2.2.2.1 (am_ts C hw) (fun _ z => z) d ?_
  rw [← T.2.2.2.2.2.2.2.1]
  exact k p l e R s m args below meth c D ad0 Q C F ad H locs ls T Ll
theorem ar_gets1 {idx : Nat} (d : decode (am_b M) pc = .ok (.getstatic idx, 3)) (hw : Cond.fieldLink (am_y M).cls idx "PuppetPitches" "GREATEST_SETTINGS" "[I" ∈ am_ws) (k : am_RW M h0 P kc ks (pc + 3) L (.ref 1 :: S) h) : am_RW M h0 P kc ks pc L S h := by
  intro p l e R s m args below meth c D ad0 Q C F ad H locs ls T Ll
  refine va_gets C.1 C.2.1 T.2.2.2.2.2.2.1.2.2.2 T.2.2.2.2.2.1 C.2.2.2.1 (am_ts C hw) (fun _ z => z) d ?_
  rw [← T.2.2.2.2.2.2.2.2]
  exact k p l e R s m args below meth c D ad0 Q C F ad H locs ls T Ll
theorem ar_gets0N {idx : Nat} {host : String} (d : decode (am_b M) pc = .ok (.getstatic idx, 3)) (hw : Cond.fieldLinkNest (am_y M).cls idx "PuppetPitches" "FIRST_SETTINGS" "[I" host ∈ am_nw) (k : am_RW M h0 P kc ks (pc + 3) L (.ref 0 :: S) h) : am_RW M h0 P kc ks pc L S h := by
  intro p l e R s m args below meth c D ad0 Q C F ad H locs ls T Ll
  refine va_getsN C.1 C.2.1 T.2.2.2.2.2.2.1.2.2.1 T.2.2.2.2.2.1 C.2.2.2.1 (va_Nw.use rfl (T.2.2.2.2.2.2.1.2.1 _ hw)) (fun _ z => z) d ?_
  rw [← T.2.2.2.2.2.2.2.1]
  exact k p l e R s m args below meth c D ad0 Q C F ad H locs ls T Ll
theorem ar_obj {idx a : Nat} (d : decode (am_b M) pc = .ok (.invokespecial idx, 3)) (hw : Cond.methodLink (am_y M).cls idx objectInit ∈ am_ws) (hl : 1 ≤ am_lv M) (hS : (S.map fun v => v.category).sum ≤ 8) (k : am_RW M h0 P kc ks (pc + 3) L S h) : am_RW M h0 P kc ks pc L (.ref a :: S) h := by
  intro p l e R s m args below meth c D ad0 Q C F ad H locs ls T Ll
  have hi : Cond.instanceMethod objectInit ∈ am_ws := by decide +kernel
  have hc : Cond.code objectInit ⟨#[0xb1]⟩ 1 none ∈ am_ws := by decide +kernel
  have hS2 : ((S.map (am_v ad)).map fun v => v.category).sum ≤ 8 := by
    rw [List.map_map, show ((fun v : Value => v.category) ∘ am_v ad) = (fun v : Value => v.category) from funext fun v => am_vc ad v]
    exact hS
  refine W.objInit C.1 C.2.1 C.2.2.2.1 (am_ts C hw) (am_ts C hi) (am_ts C hc) rfl (by rw [C.2.2.1]; exact Ll.1) rfl d (Nat.le_trans hl C.2.2.2.2.2.2.1) ?_ ?_
  · have h1 := C.2.2.2.2.2.2.2.1
    show 2 * 0 + _ + 12 ≤ R.locals
    omega
  · exact k p l e R s m args below meth c D ad0 Q C F ad H locs ls T Ll
end
end
section
/-! rows that make cells, and calls -/
def am_vr (v : Value) : List Nat := match v with
  | .ref k => [k]
  | _ => []
theorem am_vr_v {ad ad1 : Nat → Nat} {v : Value} (h : ∀ k ∈ am_vr v, ad1 k = ad k) : am_v ad1 v = am_v ad v := by
  cases v with
  | ref k => exact congrArg Value.ref (h k (List.mem_singleton.mpr rfl))
  | _ => rfl
/-- the place k is named nowhere in the frame and in the cells -/
def am_free (k : Nat) (L : List (Option Value)) (S : List Value) (h : am_H) : Bool :=
  (L.all fun o => match o with | none => true | some v => !(am_vr v).contains k) && ((S.all fun v => !(am_vr v).contains k) && (h.all fun o => match o with | none => true | some c => !(am_refs c).contains k))
theorem am_free_spec {k : Nat} {L : List (Option Value)} {S : List Value} {h : am_H} (hf : am_free k L S h = true) : (∀ (i : Nat) (v : Value), L[i]? = some (some v) → k ∉ am_vr v) ∧ (∀ v ∈ S, k ∉ am_vr v) ∧ ∀ (i : Nat) (c : am_C), h[i]? = some (some c) → k ∉ am_refs c := by
  simp only [am_free, Bool.and_eq_true, List.all_eq_true] at hf
  obtain ⟨f1, f2, f3⟩ := hf
  refine ⟨fun i v hi => ?_, fun v hv => ?_, fun i c hi => ?_⟩
  · have := f1 _ (List.mem_of_getElem? hi)
    simpa using this
  · have := f2 v hv
    simpa using this
  · have := f3 _ (List.mem_of_getElem? hi)
    simpa using this
theorem am_map_v {ad ad1 : Nat → Nat} {S : List Value} (h : ∀ v ∈ S, am_v ad1 v = am_v ad v) : S.map (am_v ad1) = S.map (am_v ad) := List.map_congr_left h
theorem am_St.alloc {h0 : am_H} {D : va_G} {s : State} {ad0 ad ad1 : Nat → Nat} {h : am_H} {H H1 : Heap} {locs : List Loc} {k : Nat} {c : am_C} (T : am_St h0 D s ad0 ad h H locs) (hk : h[k]? = some none) (h2 : 2 ≤ k) (hfr : ∀ (i : Nat) (d : am_C), h[i]? = some (some d) → k ∉ am_refs d)
    (e1 : ad1 k = H.size) (e2 : ∀ j, j ≠ k → ad1 j = ad j) (hc : am_cell D s ad1 H.size H1 c) (z : H1.size = H.size + 1) (oq : ∀ q : Nat, q < H.size → H1[q]? = H[q]?) : am_St h0 D s ad0 ad1 (h.set k (some c)) H1 locs := by
  obtain ⟨t1, t2, t3, t4, t5, t6, t7, t8, t9⟩ := T
  have hl := (List.getElem?_eq_some_iff.mp hk).1
  have hself : (h.set k (some c))[k]? = some (some c) := List.getElem?_set_self hl
  have hne : ∀ j, j ≠ k → (h.set k (some c))[j]? = h[j]? := fun j e => List.getElem?_set_ne (Ne.symm e)
  have np : ¬ ∃ d, h[k]? = some (some d) := by rintro ⟨d, hd⟩; rw [hk] at hd; cases hd
  have np0 : ¬ ∃ d, h0[k]? = some (some d) := fun ⟨d, hd⟩ => np (t2 k d hd)
  have hnew : ∀ j, j ≠ k → (am_new h0 (h.set k (some c)) j ↔ am_new h0 h j) := fun j e => by unfold am_new; rw [hne j e]
  refine ⟨⟨fun j d hj => ?_, fun i j d d' hi hj he => ?_⟩, fun j d hj => ?_, fun j hj => ?_, fun j hj => ?_, fun j d hj hw => ?_, ⟨?_, fun q q1 q2 => ?_, t6.2.2⟩, t7, ?_, ?_⟩
  · by_cases e : j = k
    · subst e
      rw [hself] at hj
      cases hj
      rw [e1]; exact hc
    · rw [hne j e] at hj
      rw [e2 j e]
      have hcell := t1.1 j d hj
      refine am_cell.ad (hcell.kept (oq _ hcell.lt)) fun r hr => e2 r fun er => ?_
      subst er
      exact hfr j d hj hr
  · have lt : ∀ (j : Nat) (d : am_C), h[j]? = some (some d) → ad j < H.size := fun j d hj => (t1.1 j d hj).lt
    by_cases ei : i = k
    · by_cases ej : j = k
      · rw [ei, ej]
      · rw [hne j ej] at hj
        rw [ei, e1, e2 j ej] at he
        have := lt j _ hj
        omega
    · rw [hne i ei] at hi
      by_cases ej : j = k
      · rw [ej, e1, e2 i ei] at he
        have := lt i _ hi
        omega
      · rw [hne j ej] at hj
        rw [e2 i ei, e2 j ej] at he
        exact t1.2 i j d d' hi hj he
  · by_cases e : j = k
    · subst e; exact ⟨c, hself⟩
    · rw [hne j e]; exact t2 j d hj
  · by_cases e : j = k
    · subst e; exact absurd ⟨⟨c, hself⟩, np0⟩ hj
    · rw [e2 j e]; exact t3 j fun q => hj ((hnew j e).mpr q)
  · by_cases e : j = k
    · subst e; rw [e1]; exact t6.1
    · rw [e2 j e]; exact t4 j ((hnew j e).mp hj)
  · by_cases e : j = k
    · subst e; rw [e1]; exact Or.inr t6.1
    · rw [hne j e] at hj
      rw [e2 j e]; exact t5 j d hj hw
  · have := t6.1; omega
  · rw [oq q (Nat.lt_of_lt_of_le q1 t6.1)]; exact t6.2.1 q q1 q2
  · rw [e2 0 (by omega)]; exact t8
  · rw [e2 1 (by omega)]; exact t9
def am_upd (ad : Nat → Nat) (k q : Nat) : Nat → Nat := fun j => if j = k then q else ad j
theorem am_upd_s {ad : Nat → Nat} {k q : Nat} : am_upd ad k q k = q := by simp [am_upd]
theorem am_upd_n {ad : Nat → Nat} {k q : Nat} (j : Nat) (h : j ≠ k) : am_upd ad k q j = ad j := by simp [am_upd, h]
/-- the words of a class that is made: its number, its fields' first values -/
def am_nwf (own : String) (idx ci N : Nat) (fs : List Value) : Prop := ∃ (C : String) (T : u_T), am_cl[ci]? = some (C, T, N) ∧ Cond.classLink own idx C ∈ am_ws ∧ Cond.instantiable C N ∈ am_ws ∧ Cond.initialized C ∈ am_ws ∧ (∀ j, j < N → (parseFieldDescriptor (T j).2.2.1).map defaultValue = fs[j]?) ∧ (fs.all fun v => (am_vr v).isEmpty) = true
theorem am_noref {ad : Nat → Nat} {v : Value} (h : (am_vr v).isEmpty = true) : am_v ad v = v := by
  cases v <;> first | rfl | cases h
section
variable {M : am_M} {h0 : am_H} {P : Option Value → am_H → Prop} {kc ks pc : Nat} {L : List (Option Value)} {S : List Value} {h : am_H}
theorem ar_new {idx ci N k : Nat} {fs : List Value} (d : decode (am_b M) pc = .ok (.new idx, 3)) (hw : am_nwf (am_y M).cls idx ci N fs) (hk : h[k]? = some none) (h2 : 2 ≤ k) (hf : am_free k L S h = true) (hc : kc + 1 ≤ am_nc M) (hs : ks + N ≤ am_ns M) (kk : am_RW M h0 P (kc + 1) (ks + N) (pc + 3) L (.ref k :: S) (h.set k (some (.inl (ci, fs))))) : am_RW M h0 P kc ks pc L S h := by
  intro p l e R s m args below meth c D ad0 Q C F ad H locs ls T Ll
  obtain ⟨Cn, Tn, q1, q2, q3, q4, q5, q6⟩ := hw
  obtain ⟨ty0, hty, hnm⟩ := am_cty q1
  have hin : ∀ w ∈ u_ws Cn Tn N, w ∈ am_W M := fun w hw => List.mem_cons_of_mem _ (am_uws q1 w hw)
  have hts := C.2.2.2.2.1
  have hK : va_K D am_cl [] s := T.2.2.2.2.2.2.1.1
  have hKn := hK.1 ci _ q1
  obtain ⟨r1, r2, r3⟩ := am_free_spec hf
  have hR := C.2.2.2.2.2.2
  refine W.newcK C.1 C.2.1 C.2.2.2.1 (am_ts C q2) (am_ts C q3) (am_ts C q4) rfl d (Nat.le_trans hc hR.2.2.1) (Nat.le_trans hs hR.2.2.2) hKn.2.1 rfl fun H1 kC hkC e1 z1 o1 => ?_
  have hcell : am_cell D s (am_upd ad k H.size) H.size H1 (.inl (ci, fs)) := by
    refine ⟨_, q1, (u_born ty0 hts hin hKn hkC e1 hty).to fun j hj => ?_⟩
    have h5 := q5 j hj
    rw [hty j hj] at h5
    have e : fs[j]? = some (defaultValue (ty0 j)) := h5.symm
    show defaultValue (ty0 j) = vp_V (fs.map (am_v (am_upd ad k H.size))) j
    rw [vp_V, List.getD_eq_getElem?_getD, List.getElem?_map, e]
    show _ = am_v _ (defaultValue (ty0 j))
    rw [am_noref (List.all_eq_true.mp q6 _ (List.mem_of_getElem? e))]
  have T' := T.alloc hk h2 r3 am_upd_s (fun j hj => am_upd_n j hj) hcell z1 o1
  have hl' : am_L (am_n M) (am_upd ad k H.size) ls L := Ll.ad fun i v hi => am_vr_v fun r hr => am_upd_n r fun er => by rw [er] at hr; exact r1 i v hi hr
  have := kk p l e R s m args below meth c D ad0 Q C F _ H1 locs ls T' hl'
  have eS : S.map (am_v (am_upd ad k H.size)) = S.map (am_v ad) := am_map_v (fun v hv => am_vr_v fun r hr => am_upd_n r fun er => by rw [er] at hr; exact r2 v hv hr)
  rw [List.map_cons, eS] at this
  rw [show am_v (am_upd ad k H.size) (.ref k) = .ref H.size from congrArg Value.ref am_upd_s] at this
  exact this
theorem ar_newa {atype : ArrayType} {ty : FieldType} {n : Int32} {N k : Nat} (d : decode (am_b M) pc = .ok (.newarray atype, 2)) (hty : newarray.typeOf atype = ty) (hdv : defaultValue ty = .int 0) (hw : Cond.arrayClass ty ∈ am_ws) (en : n = nI N) (hN : N < 2147483648) (hb : N * componentBytes ty ≤ 536870912) (hk : h[k]? = some none) (h2 : 2 ≤ k) (hf : am_free k L S h = true) (hc : kc + 1 ≤ am_nc M) (hs : ks + N ≤ am_ns M) (kk : am_RW M h0 P (kc + 1) (ks + N) (pc + 2) L (.ref k :: S) (h.set k (some (.inr (.inl (ty, true, N, fun _ => 0)))))) : am_RW M h0 P kc ks pc L (.int n :: S) h := by
  intro p l e R s m args below meth c D ad0 Q C F ad H locs ls T Ll
  subst hty
  subst en
  obtain ⟨r1, r2, r3⟩ := am_free_spec hf
  have hR := C.2.2.2.2.2.2
  have hN2 : N < 2 ^ 31 := by omega
  refine W.newaK C.1 C.2.1 (am_ts C hw) rfl d rfl (nI_pos hN2) (nI_clamp hN2) hb (Nat.le_trans hc hR.2.2.1) (Nat.le_trans hs hR.2.2.2) rfl fun H1 cA e1 z1 o1 hA => ?_
  have hcell : am_cell D s (am_upd ad k H.size) H.size H1 (.inr (.inl (newarray.typeOf atype, true, N, fun _ => 0))) := by
    refine ⟨_, e1, hA N _, fun q => (by cases q), arrV_size _ _ _, hN, fun j hj => ?_⟩
    rw [arrV_read _ _ hj, hdv]
  have T' := T.alloc hk h2 r3 am_upd_s (fun j hj => am_upd_n j hj) hcell z1 o1
  have hl' : am_L (am_n M) (am_upd ad k H.size) ls L := Ll.ad fun i v hi => am_vr_v fun r hr => am_upd_n r fun er => by rw [er] at hr; exact r1 i v hi hr
  have := kk p l e R s m args below meth c D ad0 Q C F _ H1 locs ls T' hl'
  have eS : S.map (am_v (am_upd ad k H.size)) = S.map (am_v ad) := am_map_v (fun v hv => am_vr_v fun r hr => am_upd_n r fun er => by rw [er] at hr; exact r2 v hv hr)
  rw [List.map_cons, eS] at this
  rw [show am_v (am_upd ad k H.size) (.ref k) = .ref H.size from congrArg Value.ref am_upd_s] at this
  exact this
theorem ar_anew {idx ci : Nat} {q : vw_C} {n : Int32} {N k : Nat} (d : decode (am_b M) pc = .ok (.anewarray idx, 3)) (hq : am_cl[ci]? = some q) (hw : Cond.classLink (am_y M).cls idx q.1 ∈ am_ws) (ho : Cond.arrayOver (.object q.1) ∈ am_nw) (en : n = nI N) (hN : N < 65536) (hk : h[k]? = some none) (h2 : 2 ≤ k) (hf : am_free k L S h = true) (hc : kc + 1 ≤ am_nc M) (hs : ks + N ≤ am_ns M) (kk : am_RW M h0 P (kc + 1) (ks + N) (pc + 3) L (.ref k :: S) (h.set k (some (.inr (.inr (ci, List.replicate N none)))))) : am_RW M h0 P kc ks pc L (.int n :: S) h := by
  intro p l e R s m args below meth c D ad0 Q C F ad H locs ls T Ll
  subst en
  obtain ⟨r1, r2, r3⟩ := am_free_spec hf
  have hR := C.2.2.2.2.2.2
  have hN2 : N < 2 ^ 31 := by omega
  have hcl : (nI N).toNatClampNeg = N := nI_clamp hN2
  refine W.anew C.1 C.2.1 C.2.2.2.1 (am_ts C hw) (va_AO.use (T.2.2.2.2.2.2.1.2.1 _ ho)) rfl d rfl (nI_pos hN2) (by rw [hcl]; omega) (Nat.le_trans hc hR.2.2.1) (by rw [hcl]; exact Nat.le_trans hs hR.2.2.2) fun cA kA comp f1 f2 f3 f4 => ?_
  rw [hcl]
  generalize hH1 : H.push ({ cls := cA, slots := Array.replicate N .null, vm := .none } : Cell) = H1
  have z1 : H1.size = H.size + 1 := by rw [← hH1, Array.size_push]
  have e1 : H1[H.size]? = some (arrV cA N (fun _ => .null)) := by rw [← hH1, Array.getElem?_push_size, ← arrV_new]
  have o1 : ∀ q : Nat, q < H.size → H1[q]? = H[q]? := fun q hq => by rw [← hH1, Array.getElem?_push, if_neg (Nat.ne_of_lt hq)]
  have hcell : am_cell D s (am_upd ad k H.size) H.size H1 (.inr (.inr (ci, List.replicate N none))) := by
    refine ⟨cA, q, hq, by rw [List.length_replicate]; omega, ?_, fun N z => ⟨(fun k h => by cases h), kA, f2, comp, f3⟩, ⟨kA, comp, f2, f3, f4, f1⟩⟩
    rw [e1, List.length_replicate]
    congr 2
    funext j
    rw [List.getD_eq_getElem?_getD, List.getElem?_replicate]
    by_cases hj : j < N
    · rw [if_pos hj]; rfl
    · rw [if_neg hj]; rfl
  have T' := T.alloc hk h2 r3 am_upd_s (fun j hj => am_upd_n j hj) hcell z1 o1
  have hl' : am_L (am_n M) (am_upd ad k H.size) ls L := Ll.ad fun i v hi => am_vr_v fun r hr => am_upd_n r fun er => by rw [er] at hr; exact r1 i v hi hr
  have := kk p l e R s m args below meth c D ad0 Q C F _ H1 locs ls T' hl'
  have eS : S.map (am_v (am_upd ad k H.size)) = S.map (am_v ad) := am_map_v (fun v hv => am_vr_v fun r hr => am_upd_n r fun er => by rw [er] at hr; exact r2 v hv hr)
  rw [List.map_cons, eS] at this
  rw [show am_v (am_upd ad k H.size) (.ref k) = .ref H.size from congrArg Value.ref am_upd_s] at this
  exact this
end
end
section
/-! calls: what comes back is laid into the caller's cells -/
def am_mrg (μ : Nat → Nat) : Nat → am_H → am_H → am_H
  | _, [], h => h
  | j, none :: t, h => am_mrg μ (j + 1) t h
  | j, some c :: t, h => am_mrg μ (j + 1) t (h.set (μ j) (some (am_rc μ c)))
theorem am_mrg_len (μ : Nat → Nat) : ∀ (t : am_H) (j : Nat) (h : am_H), (am_mrg μ j t h).length = h.length
  | [], j, h => rfl
  | none :: t, j, h => am_mrg_len μ t (j + 1) h
  | some c :: t, j, h => by rw [am_mrg, am_mrg_len μ t (j + 1), List.length_set]
theorem am_mrg_out (μ : Nat → Nat) (k : Nat) : ∀ (t : am_H) (j : Nat) (h : am_H), (∀ (i : Nat) (c : am_C), t[i]? = some (some c) → μ (j + i) ≠ k) → (am_mrg μ j t h)[k]? = h[k]?
  | [], j, h, _ => rfl
  | none :: t, j, h, hn => am_mrg_out μ k t (j + 1) h fun i c hi => by rw [Nat.add_assoc, Nat.add_comm 1 i]; exact hn (i + 1) c hi
  | some c :: t, j, h, hn => by
    rw [am_mrg, am_mrg_out μ k t (j + 1) _ (fun i c hi => by rw [Nat.add_assoc, Nat.add_comm 1 i]; exact hn (i + 1) c hi), List.getElem?_set_ne (show μ j ≠ k from hn 0 c rfl)]
theorem am_mrg_in (μ : Nat → Nat) (i : Nat) (c : am_C) : ∀ (t : am_H) (j : Nat) (h : am_H), t[i]? = some (some c) → (∀ (i' : Nat) (c' : am_C), i' ≠ i → t[i']? = some (some c') → μ (j + i') ≠ μ (j + i)) → μ (j + i) < h.length → (am_mrg μ j t h)[μ (j + i)]? = some (some (am_rc μ c))
  | [], j, h, hi, _, _ => by simp at hi
  | o :: t, j, h, hi, hn, hl => by
    cases i with
    | zero =>
      cases hi
      rw [am_mrg, am_mrg_out μ _ t (j + 1) _ (fun i' c' h' => by rw [Nat.add_assoc, Nat.add_comm 1 i']; exact hn (i' + 1) c' (Nat.succ_ne_zero _) h')]
      exact List.getElem?_set_self hl
    | succ i =>
      have e : ∀ x, j + 1 + x = j + (x + 1) := fun x => by omega
      have ih := fun h' hl' => am_mrg_in μ i c t (j + 1) h' hi (fun i' c' ne h' => by rw [e, e]; exact hn (i' + 1) c' (fun q => ne (Nat.succ.inj q)) h') hl'
      cases o with
      | none =>
        rw [am_mrg]
        have := ih h (by rw [e]; exact hl)
        rw [e] at this
        exact this
      | some d =>
        rw [am_mrg]
        have := ih (h.set (μ j) (some (am_rc μ d))) (by rw [e, List.length_set]; exact hl)
        rw [e] at this
        exact this
/-- what a call asks of the renaming: r, h1 come back to a callee that began with hl, in a caller with L, S (what stays of the stack), h -/
def am_back (μ : Nat → Nat) (hl : am_H) (r : Option Value) (h1 : am_H) (L : List (Option Value)) (S : List Value) (h : am_H) : Prop :=
  (∀ (j : Nat) (c : am_C), hl[j]? = some (some c) → ∃ c' : am_C, h1[j]? = some (some c') ∧ am_wr c' = am_wr c) ∧
  (∀ (i j : Nat) (c d : am_C), h1[i]? = some (some c) → h1[j]? = some (some d) → μ i = μ j → i = j) ∧
  ∀ j, am_new hl h1 j → h[μ j]? = some none ∧ 2 ≤ μ j ∧ am_free (μ j) L S h = true ∧ ∀ t, (t ∈ (r.toList.flatMap am_vr) ∨ ∃ (i : Nat) (c : am_C), h1[i]? = some (some c) ∧ t ∈ am_refs c) → μ t = μ j → t = j
theorem am_callC {M' : am_M} {p : Program} {l : Launch} {e : Env} {R : Room} {s : State} {m : MethodId} {args : Array Value} {below : List Frame} {meth : Method} {c : Code} {D : va_G} {ad0 ad μ : Nat → Nat} {Q : State → Prop} {h0 h hl : am_H} {H : Heap} {locs : List Loc} {kc ks pc nL : Nat} {ls : Array Slot} {st0 : List Value} {L : List (Option Value)} {S : List Value} {a : Array Value} {Pq : Option Value → am_H → Prop}
    (hr : va_Run p l e R s m args below meth c H locs kc ks (am_nc M') (am_ns M') (F0 m pc ls st0) (S.map (am_v ad)) (am_Qc D (fun k => ad (μ k)) hl Pq a) (am_FP (fun k => ad (μ k)) hl H.size))
    (T : am_St h0 D s ad0 ad h H locs) (Ll : am_L nL ad ls L) (hsub : ∀ (j : Nat) (c : am_C), hl[j]? = some (some c) → h[μ j]? = some (some (am_rc μ c)))
    (hb : ∀ r h1, Pq r h1 → am_back μ hl r h1 L S h)
    (kk : ∀ r h1, Pq r h1 → ∀ (ad1 : Nat → Nat) (H1 : Heap) (locs1 : List Loc), am_St h0 D s ad0 ad1 (am_mrg μ 0 h1 h) H1 locs1 → am_L nL ad1 ls L → W p l e R s m args below meth c H1 locs1 (kc + am_nc M') (ks + am_ns M') Q (F0 m (pc + 3) ls (((r.map (am_v μ)).toList ++ S).map (am_v ad1)))) :
    W p l e R s m args below meth c H locs kc ks Q (F0 m pc ls st0) := by
  intro T0 hT X
  obtain ⟨v, st₀, t, T', Lo, e0, X', hLo, e1, e2, ⟨⟨r, h1, adc, hp, hv, hH, had, hfresh⟩, hz, hkeep⟩, st⟩ := hr T0 hT X
  obtain ⟨b1, b2, b3⟩ := hb r h1 hp
  cases hv
  obtain ⟨t1, t2, t3, t4, t5, t6, t7, t8, t9⟩ := T
  rw [e0] at hz hfresh hkeep
  -- where a cell of the callee lies
  have old : ∀ j c, hl[j]? = some (some c) → adc j = ad (μ j) := fun j c hj => had j fun q => q.2 ⟨c, hj⟩
  have newp : ∀ j k, am_new hl h1 j → am_new hl h1 k → μ j = μ k → j = k := by
    rintro j k ⟨⟨c, hc⟩, -⟩ ⟨⟨d, hd⟩, -⟩ he
    exact b2 j k c d hc hd he
  obtain ⟨ad1, a1, a2⟩ : ∃ ad1 : Nat → Nat, (∀ j, am_new hl h1 j → ad1 (μ j) = adc j) ∧ ∀ k, (∀ j, am_new hl h1 j → μ j ≠ k) → ad1 k = ad k := by
    have hx : ∀ k, ∃ q, (∀ j, am_new hl h1 j → μ j = k → q = adc j) ∧ ((∀ j, am_new hl h1 j → μ j ≠ k) → q = ad k) := by
      intro k
      by_cases hk : ∃ j, am_new hl h1 j ∧ μ j = k
      · obtain ⟨j, hj, hjk⟩ := hk
        exact ⟨adc j, fun i hi hik => by rw [newp i j hi hj (hik.trans hjk.symm)], fun z => absurd hjk (z j hj)⟩
      · exact ⟨ad k, fun j hj hjk => absurd ⟨j, hj, hjk⟩ hk, fun _ => rfl⟩
    exact ⟨fun k => Classical.choose (hx k), fun j hj => (Classical.choose_spec (hx (μ j))).1 j hj rfl, fun k hk => (Classical.choose_spec (hx k)).2 hk⟩
  have refs : ∀ u, (u ∈ (r.toList.flatMap am_vr) ∨ ∃ (i : Nat) (c : am_C), h1[i]? = some (some c) ∧ u ∈ am_refs c) → ad1 (μ u) = adc u := by
    intro u hu
    by_cases hn : am_new hl h1 u
    · exact a1 u hn
    · rw [had u hn, a2 (μ u) fun j hj he => ?_]
      have := (b3 j hj).2.2.2 u hu he.symm
      exact hn (this ▸ hj)
  have img : ∀ j c, h1[j]? = some (some c) → ad1 (μ j) = adc j := by
    intro j c hj
    by_cases hn : am_new hl h1 j
    · exact a1 j hn
    · rw [had j hn, a2 (μ j) fun i hi he => ?_]
      obtain ⟨⟨d, hd⟩, -⟩ := id hi
      have := b2 i j d c hd hj he
      exact hn (this ▸ hi)
  have isold : ∀ j c, h1[j]? = some (some c) → ¬ am_new hl h1 j → ∃ c', hl[j]? = some (some c') ∧ am_wr c = am_wr c' := by
    intro j c hj hn
    have : ∃ c', hl[j]? = some (some c') := Classical.byContradiction fun z => hn ⟨⟨c, hj⟩, z⟩
    obtain ⟨c', hc'⟩ := this
    obtain ⟨c'', g1, g2⟩ := b1 j c' hc'
    rw [hj] at g1
    cases g1
    exact ⟨c', hc', g2⟩
  have hlt : ∀ j c, h1[j]? = some (some c) → μ j < h.length := by
    intro j c hj
    by_cases hn : am_new hl h1 j
    · exact (List.getElem?_eq_some_iff.mp (b3 j hn).1).1
    · obtain ⟨c', g, -⟩ := isold j c hj hn
      exact (List.getElem?_eq_some_iff.mp (hsub j c' g)).1
  have min : ∀ j c, h1[j]? = some (some c) → (am_mrg μ 0 h1 h)[μ j]? = some (some (am_rc μ c)) := by
    intro j c hj
    have := am_mrg_in μ j c h1 0 h hj (fun i d ne hi he => ne (b2 i j d c hi hj (by simpa using he))) (by rw [Nat.zero_add]; exact hlt j c hj)
    rw [Nat.zero_add] at this
    exact this
  have mout : ∀ k, (∀ j c, h1[j]? = some (some c) → μ j ≠ k) → (am_mrg μ 0 h1 h)[k]? = h[k]? := by
    intro k hk
    exact am_mrg_out μ k h1 0 h fun i c hi => by rw [Nat.zero_add]; exact hk i c hi
  have cases' : ∀ k c, (am_mrg μ 0 h1 h)[k]? = some (some c) → (∃ j d, h1[j]? = some (some d) ∧ μ j = k ∧ c = am_rc μ d) ∨ ((∀ j d, h1[j]? = some (some d) → μ j ≠ k) ∧ h[k]? = some (some c)) := by
    intro k c hk
    by_cases hj : ∃ j d, h1[j]? = some (some d) ∧ μ j = k
    · obtain ⟨j, d, g1, g2⟩ := hj
      have := min j d g1
      rw [g2, hk] at this
      cases this
      exact Or.inl ⟨j, d, g1, g2, rfl⟩
    · have ho : ∀ j d, h1[j]? = some (some d) → μ j ≠ k := fun j d g1 g2 => hj ⟨j, d, g1, g2⟩
      rw [mout k ho] at hk
      exact Or.inr ⟨ho, hk⟩
  have fpA : ∀ q, am_FP (fun k => ad (μ k)) hl H.size q → am_FP ad0 h0 s.heap.size q := by
    rintro q (⟨j, c, g1, g2, g3⟩ | hq)
    · rw [g3]
      exact t5 (μ j) _ (hsub j c g1) (by rw [am_wr_rc]; exact g2)
    · exact Or.inr (Nat.le_trans t6.1 hq)
  have notnew : ∀ k c, h[k]? = some (some c) → ∀ j, am_new hl h1 j → μ j ≠ k := by
    intro k c hk j hj he
    have := (b3 j hj).1
    rw [he, hk] at this
    cases this
  have outkeep : ∀ k c, (∀ j d, h1[j]? = some (some d) → μ j ≠ k) → h[k]? = some (some c) → am_cell D s ad1 (ad1 k) T'.heap c := by
    intro k c ho hk
    have hcell := t1.1 k c hk
    rw [a2 k (notnew k c hk)]
    refine am_cell.ad (hcell.kept ?_) fun u hu => a2 u fun j hj he => ?_
    · rw [e1]
      refine hkeep _ hcell.lt ?_
      rintro (⟨j, d, g1, g2, g3⟩ | hq)
      · obtain ⟨d', g4, -⟩ := b1 j d g1
        exact ho j d' g4 (t1.2 (μ j) k _ _ (hsub j d g1) hk g3.symm)
      · have := hcell.lt; omega
    · rw [← he] at hu
      exact (am_free_spec (b3 j hj).2.2.1).2.2 k c hk hu
  have hal : t.vm.Alike s.vm := by rw [← e2]; exact X'.warmed.alike.symm
  have incell : ∀ j d, h1[j]? = some (some d) → am_cell D s ad1 (ad1 (μ j)) T'.heap (am_rc μ d) := by
    intro j d hj
    rw [am_cell.ren, img j d hj, e1]
    exact ((hH.1 j d hj).moved hal).ad fun u hu => refs u (Or.inr ⟨j, d, hj, hu⟩)
  have pres : ∀ (k : Nat) (c : am_C), h[k]? = some (some c) → ∃ c' : am_C, (am_mrg μ 0 h1 h)[k]? = some (some c') := by
    intro k c hk
    by_cases hj : ∃ j d, h1[j]? = some (some d) ∧ μ j = k
    · obtain ⟨j, d, g1, g2⟩ := hj
      exact ⟨_, g2 ▸ min j d g1⟩
    · exact ⟨c, by rw [mout k fun j d g1 g2 => hj ⟨j, d, g1, g2⟩]; exact hk⟩
  have hnewk : ∀ k, am_new h0 (am_mrg μ 0 h1 h) k → (∀ j, am_new hl h1 j → μ j ≠ k) → am_new h0 h k := by
    rintro k ⟨⟨c, hc⟩, hn⟩ ho
    refine ⟨?_, hn⟩
    rcases cases' k c hc with ⟨j, d, g1, g2, -⟩ | ⟨-, g⟩
    · have nj : ¬ am_new hl h1 j := fun z => ho j z g2
      obtain ⟨c', g3, -⟩ := isold j d g1 nj
      exact ⟨_, g2 ▸ hsub j c' g3⟩
    · exact ⟨c, g⟩
  have Tn : am_St h0 D s ad0 ad1 (am_mrg μ 0 h1 h) T'.heap (locs ++ Lo) := by
    refine ⟨⟨fun k c hk => ?_, fun k k' c c' hk hk' he => ?_⟩, fun k c hk => ?_, fun k hk => ?_, fun k hk => ?_, fun k c hk hw => ?_, ⟨?_, fun q q1 q2 => ?_, fun q hq => ?_⟩, t7, ?_, ?_⟩
    · rcases cases' k c hk with ⟨j, d, g1, g2, rfl⟩ | ⟨ho, g⟩
      · rw [← g2]; exact incell j d g1
      · exact outkeep k c ho g
    · have one : ∀ k k' j d c', h1[j]? = some (some d) → μ j = k → (∀ j d, h1[j]? = some (some d) → μ j ≠ k') → h[k']? = some (some c') → ad1 k = ad1 k' → k = k' := by
        intro k k' j d c' g1 g2 ho' g' he
        rw [a2 k' (notnew k' c' g'), ← g2, img j d g1] at he
        by_cases hn : am_new hl h1 j
        · have := hfresh j hn
          have := (t1.1 k' c' g').lt
          omega
        · obtain ⟨c'', g3, -⟩ := isold j d g1 hn
          rw [old j c'' g3] at he
          rw [← g2]
          exact t1.2 (μ j) k' _ _ (hsub j c'' g3) g' he
      rcases cases' k c hk with ⟨j, d, g1, g2, -⟩ | ⟨ho, g⟩ <;> rcases cases' k' c' hk' with ⟨j', d', g1', g2', -⟩ | ⟨ho', g'⟩
      · rw [← g2, ← g2', img j d g1, img j' d' g1'] at he
        rw [← g2, ← g2', hH.2 j j' d d' g1 g1' he]
      · exact one k k' j d c' g1 g2 ho' g' he
      · exact (one k' k j' d' c g1' g2' ho g he.symm).symm
      · rw [a2 k (notnew k c g), a2 k' (notnew k' c' g')] at he
        exact t1.2 k k' c c' g g' he
    · obtain ⟨c', g⟩ := t2 k c hk
      exact pres k c' g
    · have ho : ∀ j, am_new hl h1 j → μ j ≠ k := by
        intro j hj he
        refine hk ⟨?_, ?_⟩
        · obtain ⟨⟨d, hd⟩, -⟩ := id hj
          exact ⟨_, he ▸ min j d hd⟩
        · rintro ⟨c, hc⟩
          obtain ⟨c', g⟩ := t2 k c hc
          exact notnew k c' g j hj he
      rw [a2 k ho]
      refine t3 k fun q => hk ⟨?_, q.2⟩
      obtain ⟨c, hc⟩ := q.1
      exact pres k c hc
    · by_cases ho : ∃ j, am_new hl h1 j ∧ μ j = k
      · obtain ⟨j, hj, he⟩ := ho
        rw [← he, a1 j hj]
        exact Nat.le_trans t6.1 (hfresh j hj)
      · have ho' : ∀ j, am_new hl h1 j → μ j ≠ k := fun j hj he => ho ⟨j, hj, he⟩
        rw [a2 k ho']
        exact t4 k (hnewk k hk ho')
    · rcases cases' k c hk with ⟨j, d, g1, g2, rfl⟩ | ⟨ho, g⟩
      · rw [am_wr_rc] at hw
        rw [← g2, img j d g1]
        by_cases hn : am_new hl h1 j
        · exact Or.inr (Nat.le_trans t6.1 (hfresh j hn))
        · obtain ⟨c', g3, g4⟩ := isold j d g1 hn
          rw [old j c' g3]
          exact t5 (μ j) _ (hsub j c' g3) (by rw [am_wr_rc, ← g4]; exact hw)
      · rw [a2 k (notnew k c g)]
        exact t5 k c g hw
    · rw [e1]; exact Nat.le_trans t6.1 hz
    · rw [e1, hkeep q (Nat.lt_of_lt_of_le q1 t6.1) fun z => q2 (fpA q z)]
      exact t6.2.1 q q1 q2
    · rcases List.mem_append.mp hq with z | z
      · exact t6.2.2 q z
      · exact fpA _ (hLo q z)
    · rw [a2 0 fun j hj he => by have := (b3 j hj).2.1; omega]; exact t8
    · rw [a2 1 fun j hj he => by have := (b3 j hj).2.1; omega]; exact t9
  have keepv : ∀ v, (∀ j, am_new hl h1 j → μ j ∉ am_vr v) → am_v ad1 v = am_v ad v := fun v hv => am_vr_v fun u hu => a2 u fun j hj he => hv j hj (he ▸ hu)
  have hL1 : am_L nL ad1 ls L := Ll.ad fun i v hi => keepv v fun j hj => (am_free_spec (b3 j hj).2.2.1).1 i v hi
  have hS1 : S.map (am_v ad1) = S.map (am_v ad) := am_map_v fun v hv => keepv v fun j hj => (am_free_spec (b3 j hj).2.2.1).2.1 v hv
  obtain ⟨t9, y1, y2⟩ := kk r h1 hp ad1 T'.heap (locs ++ Lo) Tn hL1 T' rfl X'
  refine ⟨t9, st t9 ?_, y2⟩
  have eS : ((r.map (am_v μ)).toList ++ S).map (am_v ad1) = (r.map (am_v adc)).toList ++ S.map (am_v ad) := by
    rw [List.map_append, hS1]
    congr 1
    cases r with
    | none => rfl
    | some w =>
      show [am_v ad1 (am_v μ w)] = [am_v adc w]
      rw [am_vv]
      congr 1
      exact am_vr_v fun u hu => refs u (Or.inl (List.mem_flatMap.mpr ⟨w, List.mem_singleton.mpr rfl, hu⟩))
  rw [eS] at y1
  exact y1
end
section
/-! calls as rows; a contract out of a body -/
def am_cal (M : am_M) (n : Nat) : Prop := Cond.code (am_y M) (am_b M) (am_n M) (am_r M) ∈ am_ws ∧ Cond.initialized (am_y M).cls ∈ am_ws ∧ ((am_y M).cls ≠ "java/lang/invoke/MethodHandle" ∧ (am_y M).cls ≠ "java/lang/invoke/VarHandle" ∧ (parseMethodDescriptor (am_y M).desc).map (fun d => d.parameters.length) = some n) ∧ am_n M ≤ 21
theorem am_gi {M M' : am_M} {n : Nat} (h : am_cal M' n) : GoodIn (am_W M) (am_W M') := by
  intro w hw
  rcases List.mem_cons.mp hw with rfl | hw
  · exact ⟨List.mem_cons_of_mem _ h.1, good_of_word (am_wsg h.1)⟩
  · exact ⟨List.mem_cons_of_mem _ hw, good_of_word (am_wsg hw)⟩
theorem am_pre {μ ad0 ad : Nat → Nat} {hl h0 h : am_H} {D : va_G} {s : State} {H : Heap} {locs : List Loc} (hm : μ 0 = 0 ∧ μ 1 = 1) (hsub : ∀ (j : Nat) (c : am_C), hl[j]? = some (some c) → h[μ j]? = some (some (am_rc μ c))) (hinj : ∀ (i j : Nat) (c d : am_C), hl[i]? = some (some c) → hl[j]? = some (some d) → μ i = μ j → i = j) (T : am_St h0 D s ad0 ad h H locs) (as : List Value) :
    ∀ U : State, U.heap = H → s.WarmedH U.vm → am_Pc D (fun k => ad (μ k)) H.size hl as ((as.map (am_v fun k => ad (μ k))).toArray) U := by
  intro U hU hW
  obtain ⟨t1, t2, t3, t4, t5, t6, ⟨t7, t7n, t70, t71⟩, t8, t9⟩ := T
  have fpA : ∀ q, am_FP (fun k => ad (μ k)) hl H.size q → am_FP ad0 h0 s.heap.size q := by
    rintro q (⟨j, c, g1, g2, g3⟩ | hq)
    · rw [g3]
      exact t5 (μ j) _ (hsub j c g1) (by rw [am_wr_rc]; exact g2)
    · exact Or.inr (Nat.le_trans t6.1 hq)
  refine ⟨rfl, by rw [hU], ⟨fun k c hk => ?_, fun i j c d hi hj he => ?_⟩, ⟨va_K.moved hW.alike t7, fun w hw => am_nwarm (List.mem_filter.mp hw).2 hW (t7n w hw), ?_, ?_⟩⟩
  · rw [hU]
    exact (am_cell.ren.mp (t1.1 (μ k) _ (hsub k c hk))).moved hW.alike
  · exact hinj i j c d hi hj (t1.2 (μ i) (μ j) _ _ (hsub i c hi) (hsub j d hj) he)
  · show va_Z _ _ _ (.ref (ad (μ 0))) _ _ _
    rw [hm.1, t8, hU]
    exact ((t70.kept fun q q1 q2 => t6.2.1 q q1 q2).narrow fpA).moved hW.alike
  · show va_Z _ _ _ (.ref (ad (μ 1))) _ _ _
    rw [hm.2, t9, hU]
    exact ((t71.kept fun q q1 q2 => t6.2.1 q q1 q2).narrow fpA).moved hW.alike
theorem am_nsame {w : Cond} (hn : am_nest w = true) {u U : State} (hvm : u.vm = U.vm) (h : va_Nw w u) : va_Nw w U := by
  cases w <;> first | (cases hn; done) | exact va_Nw.same rfl hvm h | skip
  case arrayOver t =>
    cases t <;> first | (cases hn; done) | exact va_AO.moved (by rw [hvm]; exact Vm.Alike.refl _) h
theorem am_len (ad : Nat → Nat) : ∀ as : List Value, (lg_sl (as.map (am_v ad))).length = (am_ent0 as).length
  | [] => rfl
  | v :: t => by
    have ih := am_len ad t
    have e : lg_sl ((v :: t).map (am_v ad)) = (if (am_v ad v).category = 2 then [Slot.val (am_v ad v), .second] else [Slot.val (am_v ad v)]) ++ lg_sl (t.map (am_v ad)) := rfl
    rw [e, List.length_append, ih, am_vc]
    simp only [am_ent0]
    by_cases hc : v.category = 2
    · rw [if_pos hc, if_pos hc]; simp only [List.length_cons, List.length_nil]; omega
    · rw [if_neg hc, if_neg hc]; simp only [List.length_cons, List.length_nil]; omega
theorem am_blind {D : va_G} {ad : Nat → Nat} {sz : Nat} {h : am_H} {as : List Value} : FrameBlind (am_Pc D ad sz h as) := by
  intro a U g mk q
  obtain ⟨q1, q2, q3, q4, q5, q6, q7⟩ := q
  have hA : U.vm.Alike (U.calling g mk a).vm := Vm.Alike.refl U.vm
  exact ⟨q1, q2, ⟨fun k c hk => (q3.1 k c hk).moved hA, q3.2⟩, va_K.moved hA q4, fun w hw => am_nsame (List.mem_filter.mp hw).2 (u := U) rfl (q5 w hw), q6.moved hA, q7.moved hA⟩
/-- a call of M' from M at pc, the stack st, of which S stays: it runs -/
def am_Run (M M' : am_M) (pc : Nat) (as : List Value) (hl : am_H) (Pq : Option Value → am_H → Prop) (μ : Nat → Nat) (st S : List Value) (h : am_H) : Prop :=
  ∀ (p : Program) (l : Launch) (e : Env) (R : Room) (s : State) (m : MethodId) (args : Array Value) (below : List Frame) (meth : Method) (c : Code) (D : va_G) (ad0 ad : Nat → Nat) (h0 : am_H) (H : Heap) (locs : List Loc) (ls : Array Slot) (kc ks : Nat), am_Cx M p R s m args meth c → am_St h0 D s ad0 ad h H locs → ls.size = am_n M → kc + am_nc M' ≤ am_nc M → ks + am_ns M' ≤ am_ns M →
  va_Run p l e R s m args below meth c H locs kc ks (am_nc M') (am_ns M') (F0 m pc ls (st.map (am_v ad))) (S.map (am_v ad)) (am_Qc D (fun k => ad (μ k)) hl Pq ((as.map (am_v fun k => ad (μ k))).toArray)) (am_FP (fun k => ad (μ k)) hl H.size)
theorem am_cat {ad : Nat → Nat} {S : List Value} (h : (S.map fun v => v.category).sum ≤ 8) : ((S.map (am_v ad)).map fun v => v.category).sum ≤ 8 := by
  rw [List.map_map, show ((fun v : Value => v.category) ∘ am_v ad) = (fun v : Value => v.category) from funext fun v => am_vc ad v]
  exact h
theorem am_stk {ad μ : Nat → Nat} (as S : List Value) : (((as.map (am_v μ)).reverse ++ S).map (am_v ad)) = ((as.map (am_v fun k => ad (μ k))).reverse ++ S.map (am_v ad)) := by
  rw [List.map_append, List.map_reverse, List.map_map, show (am_v ad ∘ am_v μ) = am_v (fun k => ad (μ k)) from funext fun v => am_vv ad μ v]
section
variable {M M' : am_M} {pc idx n : Nat} {as : List Value} {hl h : am_H} {Pq : Option Value → am_H → Prop} {μ : Nat → Nat} {S : List Value}
theorem am_room {R : Room} (h1 : am_lv M' + 1 ≤ am_lv M) (h2 : am_n M' ≤ 21) (h3 : am_lv M ≤ R.frames ∧ 40 * am_lv M ≤ R.locals ∧ am_nc M ≤ R.cells ∧ am_ns M ≤ R.slots) : (am_R M').frames + 1 ≤ R.frames ∧ 8 + (am_n M' + 11) + (am_R M').locals ≤ R.locals := by
  refine ⟨Nat.le_trans h1 h3.1, ?_⟩
  have := h3.2.1
  show 8 + (am_n M' + 11) + 40 * am_lv M' ≤ R.locals
  omega
theorem am_runV {b ci : Nat} {fsb : List Value} (d : decode (am_b M) pc = .ok (.invokevirtual idx, 3)) (hcal : am_cal M' n) (hlk : Cond.methodLink (am_y M).cls idx (am_y M') ∈ am_ws) (hin : Cond.instanceMethod (am_y M') ∈ am_ws) (hse : Cond.selects (am_y M').cls (am_y M') (am_y M') ∈ am_ws) (hlv : am_lv M' + 1 ≤ am_lv M) (sp : am_Sp M' (.ref b :: as) hl Pq)
    (hn : as.length = n) (hcat : (S.map fun v => v.category).sum ≤ 8) (hrc : (am_cl[ci]?).map (fun q => q.1) = some (am_y M').cls) (hb : hl[b]? = some (some (.inl (ci, fsb)))) (hm : μ 0 = 0 ∧ μ 1 = 1) (hsub : ∀ (j : Nat) (c : am_C), hl[j]? = some (some c) → h[μ j]? = some (some (am_rc μ c))) (hinj : ∀ (i j : Nat) (c d : am_C), hl[i]? = some (some c) → hl[j]? = some (some d) → μ i = μ j → i = j) :
    am_Run M M' pc (.ref b :: as) hl Pq μ (((as.map (am_v μ)).reverse ++ .ref (μ b) :: S)) S h := by
  intro p l e R s m args below meth c D ad0 ad h0 H locs ls kc ks C T hls hc hs
  have hts := C.2.2.2.2.1
  rw [am_stk]
  have hcell : am_cell D s ad (ad (μ b)) H (am_rc μ (.inl (ci, fsb))) := T.1.1 (μ b) _ (hsub b _ hb)
  obtain ⟨q', z1, cell, g1, g2, g3, -⟩ := hcell
  have hcls : s.vm.findClass (am_y M').cls = some cell.cls := by
    have hk := (T.2.2.2.2.2.2.1.1.1 ci q' z1).2.1
    rw [show am_cl[ci]? = some q' from z1] at hrc
    have : q'.1 = (am_y M').cls := Option.some.inj hrc
    rw [← this, g2]; exact hk
  have cb : CallB R s args (am_y M).cls idx (am_y M') (am_b M') (am_n M') (am_r M') (am_W M') (am_R M') (am_nc M') (am_ns M') n :=
    callB_of n hts (am_gi hcal) rfl rfl rfl (am_ts C hcal.2.1) (am_ts C hlk) hcal.2.2.1 (am_room hlv hcal.2.2.2 C.2.2.2.2.2.2)
  refine va_runV (As := as.map (am_v fun k => ad (μ k))) ⟨C.1, C.2.1, C.2.2.1, C.2.2.2.1, hts⟩ (sp l D (fun k => ad (μ k)) H.size) ⟨cb, am_ts C hin, am_ts C hse⟩ ⟨am_blind, ⟨cell, g1, by rw [g3]; rfl, hcls⟩, am_pre hm hsub hinj T (.ref b :: as)⟩ rfl (by rw [List.length_map]; exact hn) hls rfl ?_ d ⟨Nat.le_trans hc C.2.2.2.2.2.2.2.2.1, Nat.le_trans hs C.2.2.2.2.2.2.2.2.2⟩
  exact lv_room (am_cat hcat)
theorem am_runS (d : decode (am_b M) pc = .ok (.invokestatic idx, 3)) (hcal : am_cal M' n) (hlk : Cond.methodLink (am_y M).cls idx (am_y M') ∈ am_ws) (hst : Cond.static (am_y M') ∈ am_ws) (hlv : am_lv M' + 1 ≤ am_lv M) (sp : am_Sp M' as hl Pq)
    (hn : as.length = n) (hcat : (S.map fun v => v.category).sum ≤ 8) (hm : μ 0 = 0 ∧ μ 1 = 1) (hsub : ∀ (j : Nat) (c : am_C), hl[j]? = some (some c) → h[μ j]? = some (some (am_rc μ c))) (hinj : ∀ (i j : Nat) (c d : am_C), hl[i]? = some (some c) → hl[j]? = some (some d) → μ i = μ j → i = j) :
    am_Run M M' pc as hl Pq μ ((as.map (am_v μ)).reverse ++ S) S h := by
  intro p l e R s m args below meth c D ad0 ad h0 H locs ls kc ks C T hls hc hs
  have hts := C.2.2.2.2.1
  rw [am_stk]
  have cb : CallB R s args (am_y M).cls idx (am_y M') (am_b M') (am_n M') (am_r M') (am_W M') (am_R M') (am_nc M') (am_ns M') n :=
    callB_of n hts (am_gi hcal) rfl rfl rfl (am_ts C hcal.2.1) (am_ts C hlk) hcal.2.2.1 (am_room hlv hcal.2.2.2 C.2.2.2.2.2.2)
  refine va_runS (As := as.map (am_v fun k => ad (μ k))) ⟨C.1, C.2.1, C.2.2.1, C.2.2.2.1, hts⟩ (sp l D (fun k => ad (μ k)) H.size) ⟨cb, am_ts C hst⟩ ⟨am_blind, am_pre hm hsub hinj T as⟩ rfl (by rw [List.length_map]; exact hn) hls rfl ?_ d ⟨Nat.le_trans hc C.2.2.2.2.2.2.2.2.1, Nat.le_trans hs C.2.2.2.2.2.2.2.2.2⟩
  exact lv_room (am_cat hcat)
theorem am_runSN {host : String} (d : decode (am_b M) pc = .ok (.invokestatic idx, 3)) (hcal : am_cal M' n) (hlk : Cond.methodLinkNest (am_y M).cls idx (am_y M') host ∈ am_nw) (hst : Cond.static (am_y M') ∈ am_ws) (hlv : am_lv M' + 1 ≤ am_lv M) (sp : am_Sp M' as hl Pq)
    (hn : as.length = n) (hcat : (S.map fun v => v.category).sum ≤ 8) (hm : μ 0 = 0 ∧ μ 1 = 1) (hsub : ∀ (j : Nat) (c : am_C), hl[j]? = some (some c) → h[μ j]? = some (some (am_rc μ c))) (hinj : ∀ (i j : Nat) (c d : am_C), hl[i]? = some (some c) → hl[j]? = some (some d) → μ i = μ j → i = j) :
    am_Run M M' pc as hl Pq μ ((as.map (am_v μ)).reverse ++ S) S h := by
  intro p l e R s m args below meth c D ad0 ad h0 H locs ls kc ks C T hls hc hs
  have hts := C.2.2.2.2.1
  rw [am_stk]
  have cb : va_CN R s args (am_y M).cls idx (am_y M') host (am_b M') (am_n M') (am_r M') (am_W M') (am_R M') (am_nc M') (am_ns M') n :=
    va_cnB n hts (am_gi hcal) rfl rfl rfl (T.2.2.2.2.2.2.1.2.1 _ hlk) (am_ts C hcal.2.1) hcal.2.2.1 (am_room hlv hcal.2.2.2 C.2.2.2.2.2.2)
  refine va_runSN (As := as.map (am_v fun k => ad (μ k))) ⟨C.1, C.2.1, C.2.2.1, C.2.2.2.1, hts⟩ (sp l D (fun k => ad (μ k)) H.size) ⟨cb, am_ts C hst, trivial⟩ ⟨am_blind, am_pre hm hsub hinj T as⟩ rfl (by rw [List.length_map]; exact hn) hls rfl ?_ d ⟨Nat.le_trans hc C.2.2.2.2.2.2.2.2.1, Nat.le_trans hs C.2.2.2.2.2.2.2.2.2⟩
  exact lv_room (am_cat hcat)
theorem am_runI {b : Nat} (d : decode (am_b M) pc = .ok (.invokespecial idx, 3)) (hcal : am_cal M' n) (hret : am_r M' = none) (hnm : (am_y M').name = "<init>") (hlk : Cond.methodLink (am_y M).cls idx (am_y M') ∈ am_ws) (hin : Cond.instanceMethod (am_y M') ∈ am_ws) (hlv : am_lv M' + 1 ≤ am_lv M) (sp : am_Sp M' (.ref b :: as) hl Pq)
    (hn : as.length = n) (hcat : (S.map fun v => v.category).sum ≤ 8) (hm : μ 0 = 0 ∧ μ 1 = 1) (hsub : ∀ (j : Nat) (c : am_C), hl[j]? = some (some c) → h[μ j]? = some (some (am_rc μ c))) (hinj : ∀ (i j : Nat) (c d : am_C), hl[i]? = some (some c) → hl[j]? = some (some d) → μ i = μ j → i = j) :
    am_Run M M' pc (.ref b :: as) hl Pq μ (((as.map (am_v μ)).reverse ++ .ref (μ b) :: S)) S h := by
  intro p l e R s m args below meth c D ad0 ad h0 H locs ls kc ks C T hls hc hs
  have hts := C.2.2.2.2.1
  rw [am_stk]
  have cb : CallB R s args (am_y M).cls idx (am_y M') (am_b M') (am_n M') (am_r M') (am_W M') (am_R M') (am_nc M') (am_ns M') n :=
    callB_of n hts (am_gi hcal) rfl rfl rfl (am_ts C hcal.2.1) (am_ts C hlk) hcal.2.2.1 (am_room hlv hcal.2.2.2 C.2.2.2.2.2.2)
  rw [hret] at cb
  refine va_runI (As := as.map (am_v fun k => ad (μ k))) ⟨C.1, C.2.1, C.2.2.1, C.2.2.2.1, hts⟩ (sp l D (fun k => ad (μ k)) H.size) ⟨cb, hnm, am_ts C hin⟩ ⟨am_blind, am_pre hm hsub hinj T (.ref b :: as)⟩ rfl (by rw [List.length_map]; exact hn) hls rfl ?_ d ⟨Nat.le_trans hc C.2.2.2.2.2.2.2.2.1, Nat.le_trans hs C.2.2.2.2.2.2.2.2.2⟩
  exact lv_room (am_cat hcat)
theorem am_runIN {b : Nat} {host : String} (d : decode (am_b M) pc = .ok (.invokespecial idx, 3)) (hcal : am_cal M' n) (hret : am_r M' = none) (hnm : (am_y M').name = "<init>") (hlk : Cond.methodLinkNest (am_y M).cls idx (am_y M') host ∈ am_nw) (hin : Cond.instanceMethod (am_y M') ∈ am_ws) (hlv : am_lv M' + 1 ≤ am_lv M) (sp : am_Sp M' (.ref b :: as) hl Pq)
    (hn : as.length = n) (hcat : (S.map fun v => v.category).sum ≤ 8) (hm : μ 0 = 0 ∧ μ 1 = 1) (hsub : ∀ (j : Nat) (c : am_C), hl[j]? = some (some c) → h[μ j]? = some (some (am_rc μ c))) (hinj : ∀ (i j : Nat) (c d : am_C), hl[i]? = some (some c) → hl[j]? = some (some d) → μ i = μ j → i = j) :
    am_Run M M' pc (.ref b :: as) hl Pq μ (((as.map (am_v μ)).reverse ++ .ref (μ b) :: S)) S h := by
  intro p l e R s m args below meth c D ad0 ad h0 H locs ls kc ks C T hls hc hs
  have hts := C.2.2.2.2.1
  rw [am_stk]
  have cb : va_CN R s args (am_y M).cls idx (am_y M') host (am_b M') (am_n M') (am_r M') (am_W M') (am_R M') (am_nc M') (am_ns M') n :=
    va_cnB n hts (am_gi hcal) rfl rfl rfl (T.2.2.2.2.2.2.1.2.1 _ hlk) (am_ts C hcal.2.1) hcal.2.2.1 (am_room hlv hcal.2.2.2 C.2.2.2.2.2.2)
  rw [hret] at cb
  refine va_runIN (As := as.map (am_v fun k => ad (μ k))) ⟨C.1, C.2.1, C.2.2.1, C.2.2.2.1, hts⟩ (sp l D (fun k => ad (μ k)) H.size) ⟨cb, hnm, am_ts C hin⟩ ⟨am_blind, am_pre hm hsub hinj T (.ref b :: as)⟩ rfl (by rw [List.length_map]; exact hn) hls rfl ?_ d ⟨Nat.le_trans hc C.2.2.2.2.2.2.2.2.1, Nat.le_trans hs C.2.2.2.2.2.2.2.2.2⟩
  exact lv_room (am_cat hcat)
end
theorem ar_call {M M' : am_M} {h0 : am_H} {P : Option Value → am_H → Prop} {kc ks pc : Nat} {L : List (Option Value)} {st S : List Value} {h hl : am_H} {as : List Value} {Pq : Option Value → am_H → Prop} {μ : Nat → Nat} (hr : am_Run M M' pc as hl Pq μ st S h) (hc : kc + am_nc M' ≤ am_nc M) (hs : ks + am_ns M' ≤ am_ns M) (hsub : ∀ (j : Nat) (c : am_C), hl[j]? = some (some c) → h[μ j]? = some (some (am_rc μ c)))
    (k : ∀ r h1, Pq r h1 → am_back μ hl r h1 L S h ∧ am_RW M h0 P (kc + am_nc M') (ks + am_ns M') (pc + 3) L ((r.map (am_v μ)).toList ++ S) (am_mrg μ 0 h1 h)) : am_RW M h0 P kc ks pc L st h := by
  intro p l e R s m args below meth c D ad0 Q C F ad H locs ls T Ll
  exact am_callC (hr p l e R s m args below meth c D ad0 ad h0 H locs ls kc ks C T Ll.1 hc hs) T Ll hsub (fun r h1 hp => (k r h1 hp).1) fun r h1 hp ad1 H1 locs1 T1 L1 => (k r h1 hp).2 p l e R s m args below meth c D ad0 Q C F ad1 H1 locs1 ls T1 L1
/-- a contract out of the body's judgement -/
theorem am_intro {M : am_M} {as : List Value} {h : am_H} {P : Option Value → am_H → Prop} (hy : plainName (am_y M).cls = true) (hn : (am_ent0 as).length ≤ am_n M) (k : am_RW M h P 0 0 0 (am_ent as (am_n M)) [] h) : am_Sp M as h P := by
  intro l D ad sz
  refine Met.ofW (cc := am_b M) (maxL := am_n M) (ret := am_r M) hy rfl ?_
  intro p e s m args below meth c s₁ B hml hv
  obtain ⟨rfl, hsz, hH, hE⟩ := hv
  subst hsz
  have hx := B.exec
  have hb := B.bytes
  have hr := B.returns
  have hlocks := B.notSynchronized
  have hts := atoms_spec (ws := am_W M) B.pre
  have hown : s.vm.findClass (am_y M).cls = some m.cls := findClass_of_methodNamed B.named
  have hin : meth.name = (am_y M).name := (name_of_methodNamed B.named B.method).1
  have hlen := am_len ad as
  have hl0 := lv_entry (as.map (am_v ad)) (n := am_n M) (by rw [hlen]; exact hn)
  rw [lg_entry_eq]
  have T : am_St h D s ad ad h s.heap [] := ⟨hH, fun k c hk => ⟨c, hk⟩, fun _ _ => rfl, fun k hk => absurd hk.1 hk.2, fun k c hk hw => Or.inl ⟨k, c, hk, hw, rfl⟩, va_S.rf, hE, rfl, rfl⟩
  have Ll : am_L (am_n M) ad _ (am_ent as (am_n M)) := am_L.of hl0 fun i v hi => am_ent_in hi
  refine k p l e _ s m _ below meth c D ad _ ⟨hx, hb, hml, hown, hts, hin, Nat.le_refl _, Nat.le_refl _, Nat.le_refl _, Nat.le_refl _⟩ ?_ ad s.heap [] _ T Ll
  intro r h1 ad1 H locs kc ks ls pc hkc hks hp T1 hri
  obtain ⟨t1, t2, t3, t4, t5, t6, t7, t8⟩ := T1
  have post : ∀ t : State, t.heap = H → s.WarmedH t.vm → am_Qc D ad h P ((as.map (am_v ad)).toArray) s (.returned (r.map (am_v ad1))) t := by
    intro t ht hW
    refine ⟨⟨r, h1, ad1, hp, rfl, ⟨fun k c hk => ?_, t1.2⟩, t3, t4⟩, t6.F ht⟩
    rw [ht]
    exact (t1.1 k c hk).moved hW.alike
  refine W.widen hkc hks ?_
  match r, hri, post with
  | none, hri, post =>
    exact W.vret hx hb (hr.trans hri.1) post t6.2.2 hri.2
  | some (.int v), hri, post =>
    obtain ⟨⟨ty, h2, h3⟩, h4⟩ := hri
    exact W.zret hx hb (hr.trans h2) h3 post t6.2.2 h4
  | some (.ref v), hri, post =>
    obtain ⟨⟨n, h2⟩, h4⟩ := hri
    exact W.aret hx hb (hr.trans h2) (Or.inl ⟨n, rfl⟩) (Or.inr ⟨_, rfl⟩) post t6.2.2 h4
  | some (.long v), hri, post => exact hri.elim
  | some (.float v), hri, post => exact hri.elim
  | some (.double v), hri, post => exact hri.elim
  | some .null, hri, post => exact hri.elim
  | some (.retAddr v), hri, post => exact hri.elim
end
