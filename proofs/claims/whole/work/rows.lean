section
-- ===== PART A: goes FIRST, ahead of the names: the tables' words, and 'selects' of the private methods out of them =====
/-- a private method of a class that the tables say can be made, by its rows of tables_1 -/
def lw_okq (q : MethodName × Nat) : Prop := (q.1.cls ≠ "java/lang/invoke/MethodHandle" ∧ q.1.cls ≠ "java/lang/invoke/VarHandle") ∧ Cond.instantiable q.1.cls q.2 ∈ tables_1 ∧ Cond.privateMethod q.1 ∈ tables_1 ∧ Cond.instanceMethod q.1 ∈ tables_1
theorem lw_p0 : lw_okq (⟨"PuppetPitches$State", "forgetLots", "()V"⟩, 13) := ⟨⟨by decide +kernel, by decide +kernel⟩, List.mem_of_getElem? (i := 20) (by decide +kernel), List.mem_of_getElem? (i := 31) (by decide +kernel), List.mem_of_getElem? (i := 32) (by decide +kernel)⟩
theorem lw_p1 : lw_okq (⟨"PuppetPitches$Pad", "stageAfter", "(IC)I"⟩, 5) := ⟨⟨by decide +kernel, by decide +kernel⟩, List.mem_of_getElem? (i := 141) (by decide +kernel), List.mem_of_getElem? (i := 384) (by decide +kernel), List.mem_of_getElem? (i := 385) (by decide +kernel)⟩
theorem lw_p2 : lw_okq (⟨"PuppetPitches$Pad", "readHeight", "(C)I"⟩, 5) := ⟨⟨by decide +kernel, by decide +kernel⟩, List.mem_of_getElem? (i := 141) (by decide +kernel), List.mem_of_getElem? (i := 388) (by decide +kernel), List.mem_of_getElem? (i := 389) (by decide +kernel)⟩
theorem lw_p3 : lw_okq (⟨"PuppetPitches$Pad", "readComma", "(C)I"⟩, 5) := ⟨⟨by decide +kernel, by decide +kernel⟩, List.mem_of_getElem? (i := 141) (by decide +kernel), List.mem_of_getElem? (i := 392) (by decide +kernel), List.mem_of_getElem? (i := 393) (by decide +kernel)⟩
theorem lw_p4 : lw_okq (⟨"PuppetPitches$Pad", "readFirstDigit", "(C)I"⟩, 5) := ⟨⟨by decide +kernel, by decide +kernel⟩, List.mem_of_getElem? (i := 141) (by decide +kernel), List.mem_of_getElem? (i := 396) (by decide +kernel), List.mem_of_getElem? (i := 397) (by decide +kernel)⟩
theorem lw_p5 : lw_okq (⟨"PuppetPitches$Pad", "readPitch", "(I)I"⟩, 5) := ⟨⟨by decide +kernel, by decide +kernel⟩, List.mem_of_getElem? (i := 141) (by decide +kernel), List.mem_of_getElem? (i := 400) (by decide +kernel), List.mem_of_getElem? (i := 401) (by decide +kernel)⟩
theorem lw_p6 : lw_okq (⟨"PuppetPitches", "stoppingFrom", "(ZI)I"⟩, 6) := ⟨⟨by decide +kernel, by decide +kernel⟩, List.mem_of_getElem? (i := 12) (by decide +kernel), List.mem_of_getElem? (i := 426) (by decide +kernel), List.mem_of_getElem? (i := 427) (by decide +kernel)⟩
theorem lw_p7 : lw_okq (⟨"PuppetPitches$State", "hides", "(IIZ)Z"⟩, 13) := ⟨⟨by decide +kernel, by decide +kernel⟩, List.mem_of_getElem? (i := 20) (by decide +kernel), List.mem_of_getElem? (i := 450) (by decide +kernel), List.mem_of_getElem? (i := 451) (by decide +kernel)⟩
theorem lw_p8 : lw_okq (⟨"PuppetPitches", "stoppingNowhere", "()I"⟩, 6) := ⟨⟨by decide +kernel, by decide +kernel⟩, List.mem_of_getElem? (i := 12) (by decide +kernel), List.mem_of_getElem? (i := 464) (by decide +kernel), List.mem_of_getElem? (i := 465) (by decide +kernel)⟩
theorem lw_p9 : lw_okq (⟨"PuppetPitchesModel", "forgets", "()V"⟩, 8) := ⟨⟨by decide +kernel, by decide +kernel⟩, List.mem_of_getElem? (i := 528) (by decide +kernel), List.mem_of_getElem? (i := 534) (by decide +kernel), List.mem_of_getElem? (i := 535) (by decide +kernel)⟩
theorem lw_p10 : lw_okq (⟨"PuppetPitchesModel", "remembers", "()V"⟩, 8) := ⟨⟨by decide +kernel, by decide +kernel⟩, List.mem_of_getElem? (i := 528) (by decide +kernel), List.mem_of_getElem? (i := 574) (by decide +kernel), List.mem_of_getElem? (i := 575) (by decide +kernel)⟩
theorem lw_p11 : lw_okq (⟨"PuppetPitchesModel", "roofs", "()I"⟩, 8) := ⟨⟨by decide +kernel, by decide +kernel⟩, List.mem_of_getElem? (i := 528) (by decide +kernel), List.mem_of_getElem? (i := 585) (by decide +kernel), List.mem_of_getElem? (i := 586) (by decide +kernel)⟩
theorem lw_p12 : lw_okq (⟨"PuppetPitchesModel", "comes", "(II)V"⟩, 8) := ⟨⟨by decide +kernel, by decide +kernel⟩, List.mem_of_getElem? (i := 528) (by decide +kernel), List.mem_of_getElem? (i := 593) (by decide +kernel), List.mem_of_getElem? (i := 594) (by decide +kernel)⟩
theorem lw_p13 : lw_okq (⟨"PuppetPitchesModel", "isBooth", "(I)Z"⟩, 8) := ⟨⟨by decide +kernel, by decide +kernel⟩, List.mem_of_getElem? (i := 528) (by decide +kernel), List.mem_of_getElem? (i := 604) (by decide +kernel), List.mem_of_getElem? (i := 605) (by decide +kernel)⟩
theorem lw_p14 : lw_okq (⟨"PuppetPitchesModel", "its", "(II)I"⟩, 8) := ⟨⟨by decide +kernel, by decide +kernel⟩, List.mem_of_getElem? (i := 528) (by decide +kernel), List.mem_of_getElem? (i := 608) (by decide +kernel), List.mem_of_getElem? (i := 609) (by decide +kernel)⟩
theorem lw_p15 : lw_okq (⟨"PuppetPitchesModel", "isOthers", "(II)Z"⟩, 8) := ⟨⟨by decide +kernel, by decide +kernel⟩, List.mem_of_getElem? (i := 528) (by decide +kernel), List.mem_of_getElem? (i := 620) (by decide +kernel), List.mem_of_getElem? (i := 621) (by decide +kernel)⟩
def lw_privs_1 : List (MethodName × Nat) := [(⟨"PuppetPitches$State", "forgetLots", "()V"⟩, 13), (⟨"PuppetPitches$Pad", "stageAfter", "(IC)I"⟩, 5), (⟨"PuppetPitches$Pad", "readHeight", "(C)I"⟩, 5), (⟨"PuppetPitches$Pad", "readComma", "(C)I"⟩, 5), (⟨"PuppetPitches$Pad", "readFirstDigit", "(C)I"⟩, 5), (⟨"PuppetPitches$Pad", "readPitch", "(I)I"⟩, 5), (⟨"PuppetPitches", "stoppingFrom", "(ZI)I"⟩, 6), (⟨"PuppetPitches$State", "hides", "(IIZ)Z"⟩, 13), (⟨"PuppetPitches", "stoppingNowhere", "()I"⟩, 6), (⟨"PuppetPitchesModel", "forgets", "()V"⟩, 8), (⟨"PuppetPitchesModel", "remembers", "()V"⟩, 8), (⟨"PuppetPitchesModel", "roofs", "()I"⟩, 8), (⟨"PuppetPitchesModel", "comes", "(II)V"⟩, 8), (⟨"PuppetPitchesModel", "isBooth", "(I)Z"⟩, 8), (⟨"PuppetPitchesModel", "its", "(II)I"⟩, 8), (⟨"PuppetPitchesModel", "isOthers", "(II)Z"⟩, 8)]
theorem lw_r1 : ∀ q ∈ lw_privs_1, lw_okq q := List.forall_mem_cons.mpr ⟨lw_p0, List.forall_mem_cons.mpr ⟨lw_p1, List.forall_mem_cons.mpr ⟨lw_p2, List.forall_mem_cons.mpr ⟨lw_p3, List.forall_mem_cons.mpr ⟨lw_p4, List.forall_mem_cons.mpr ⟨lw_p5, List.forall_mem_cons.mpr ⟨lw_p6, List.forall_mem_cons.mpr ⟨lw_p7, List.forall_mem_cons.mpr ⟨lw_p8, List.forall_mem_cons.mpr ⟨lw_p9, List.forall_mem_cons.mpr ⟨lw_p10, List.forall_mem_cons.mpr ⟨lw_p11, List.forall_mem_cons.mpr ⟨lw_p12, List.forall_mem_cons.mpr ⟨lw_p13, List.forall_mem_cons.mpr ⟨lw_p14, List.forall_mem_cons.mpr ⟨lw_p15, fun _ h => absurd h List.not_mem_nil⟩⟩⟩⟩⟩⟩⟩⟩⟩⟩⟩⟩⟩⟩⟩⟩
theorem lw_p16 : lw_okq (⟨"PuppetPitchesModel", "boothAt", "(II)I"⟩, 8) := ⟨⟨by decide +kernel, by decide +kernel⟩, List.mem_of_getElem? (i := 528) (by decide +kernel), List.mem_of_getElem? (i := 624) (by decide +kernel), List.mem_of_getElem? (i := 625) (by decide +kernel)⟩
theorem lw_p17 : lw_okq (⟨"PuppetPitchesModel", "plays", "(I)I"⟩, 8) := ⟨⟨by decide +kernel, by decide +kernel⟩, List.mem_of_getElem? (i := 528) (by decide +kernel), List.mem_of_getElem? (i := 636) (by decide +kernel), List.mem_of_getElem? (i := 637) (by decide +kernel)⟩
theorem lw_p18 : lw_okq (⟨"PuppetPitchesModel", "lots", "(I)V"⟩, 8) := ⟨⟨by decide +kernel, by decide +kernel⟩, List.mem_of_getElem? (i := 528) (by decide +kernel), List.mem_of_getElem? (i := 640) (by decide +kernel), List.mem_of_getElem? (i := 641) (by decide +kernel)⟩
theorem lw_p19 : lw_okq (⟨"PuppetPitchesModel", "draws", "(II)I"⟩, 8) := ⟨⟨by decide +kernel, by decide +kernel⟩, List.mem_of_getElem? (i := 528) (by decide +kernel), List.mem_of_getElem? (i := 644) (by decide +kernel), List.mem_of_getElem? (i := 645) (by decide +kernel)⟩
theorem lw_p20 : lw_okq (⟨"PuppetPitchesModel", "chooses", "(II)V"⟩, 8) := ⟨⟨by decide +kernel, by decide +kernel⟩, List.mem_of_getElem? (i := 528) (by decide +kernel), List.mem_of_getElem? (i := 652) (by decide +kernel), List.mem_of_getElem? (i := 653) (by decide +kernel)⟩
theorem lw_p21 : lw_okq (⟨"PuppetPitchesModel", "isFree", "(II)Z"⟩, 8) := ⟨⟨by decide +kernel, by decide +kernel⟩, List.mem_of_getElem? (i := 528) (by decide +kernel), List.mem_of_getElem? (i := 656) (by decide +kernel), List.mem_of_getElem? (i := 657) (by decide +kernel)⟩
theorem lw_p22 : lw_okq (⟨"PuppetPitchesModel", "crowdAt", "(III)I"⟩, 8) := ⟨⟨by decide +kernel, by decide +kernel⟩, List.mem_of_getElem? (i := 528) (by decide +kernel), List.mem_of_getElem? (i := 660) (by decide +kernel), List.mem_of_getElem? (i := 661) (by decide +kernel)⟩
theorem lw_p23 : lw_okq (⟨"PuppetPitchesModel", "crowds", "(I)I"⟩, 8) := ⟨⟨by decide +kernel, by decide +kernel⟩, List.mem_of_getElem? (i := 528) (by decide +kernel), List.mem_of_getElem? (i := 664) (by decide +kernel), List.mem_of_getElem? (i := 665) (by decide +kernel)⟩
theorem lw_p24 : lw_okq (⟨"PuppetPitchesModel", "goes", "(II)I"⟩, 8) := ⟨⟨by decide +kernel, by decide +kernel⟩, List.mem_of_getElem? (i := 528) (by decide +kernel), List.mem_of_getElem? (i := 668) (by decide +kernel), List.mem_of_getElem? (i := 669) (by decide +kernel)⟩
theorem lw_p25 : lw_okq (⟨"PuppetPitchesModel", "crowdOf", "(I)I"⟩, 8) := ⟨⟨by decide +kernel, by decide +kernel⟩, List.mem_of_getElem? (i := 528) (by decide +kernel), List.mem_of_getElem? (i := 672) (by decide +kernel), List.mem_of_getElem? (i := 673) (by decide +kernel)⟩
theorem lw_p26 : lw_okq (⟨"PuppetPitchesModel", "crowd", "(II)I"⟩, 8) := ⟨⟨by decide +kernel, by decide +kernel⟩, List.mem_of_getElem? (i := 528) (by decide +kernel), List.mem_of_getElem? (i := 680) (by decide +kernel), List.mem_of_getElem? (i := 681) (by decide +kernel)⟩
theorem lw_p27 : lw_okq (⟨"PuppetPitchesModel", "highest", "(II)I"⟩, 8) := ⟨⟨by decide +kernel, by decide +kernel⟩, List.mem_of_getElem? (i := 528) (by decide +kernel), List.mem_of_getElem? (i := 692) (by decide +kernel), List.mem_of_getElem? (i := 693) (by decide +kernel)⟩
theorem lw_p28 : lw_okq (⟨"PuppetPitchesModel", "isHidden", "(II)Z"⟩, 8) := ⟨⟨by decide +kernel, by decide +kernel⟩, List.mem_of_getElem? (i := 528) (by decide +kernel), List.mem_of_getElem? (i := 696) (by decide +kernel), List.mem_of_getElem? (i := 697) (by decide +kernel)⟩
theorem lw_p29 : lw_okq (⟨"PuppetPitchesModel", "hides", "(III)Z"⟩, 8) := ⟨⟨by decide +kernel, by decide +kernel⟩, List.mem_of_getElem? (i := 528) (by decide +kernel), List.mem_of_getElem? (i := 700) (by decide +kernel), List.mem_of_getElem? (i := 701) (by decide +kernel)⟩
theorem lw_p30 : lw_okq (⟨"PuppetPitchesModel", "standing", "()I"⟩, 8) := ⟨⟨by decide +kernel, by decide +kernel⟩, List.mem_of_getElem? (i := 528) (by decide +kernel), List.mem_of_getElem? (i := 708) (by decide +kernel), List.mem_of_getElem? (i := 709) (by decide +kernel)⟩
theorem lw_p31 : lw_okq (⟨"PuppetPitchesModel", "crowdsNow", "()I"⟩, 8) := ⟨⟨by decide +kernel, by decide +kernel⟩, List.mem_of_getElem? (i := 528) (by decide +kernel), List.mem_of_getElem? (i := 712) (by decide +kernel), List.mem_of_getElem? (i := 713) (by decide +kernel)⟩
def lw_privs_2 : List (MethodName × Nat) := [(⟨"PuppetPitchesModel", "boothAt", "(II)I"⟩, 8), (⟨"PuppetPitchesModel", "plays", "(I)I"⟩, 8), (⟨"PuppetPitchesModel", "lots", "(I)V"⟩, 8), (⟨"PuppetPitchesModel", "draws", "(II)I"⟩, 8), (⟨"PuppetPitchesModel", "chooses", "(II)V"⟩, 8), (⟨"PuppetPitchesModel", "isFree", "(II)Z"⟩, 8), (⟨"PuppetPitchesModel", "crowdAt", "(III)I"⟩, 8), (⟨"PuppetPitchesModel", "crowds", "(I)I"⟩, 8), (⟨"PuppetPitchesModel", "goes", "(II)I"⟩, 8), (⟨"PuppetPitchesModel", "crowdOf", "(I)I"⟩, 8), (⟨"PuppetPitchesModel", "crowd", "(II)I"⟩, 8), (⟨"PuppetPitchesModel", "highest", "(II)I"⟩, 8), (⟨"PuppetPitchesModel", "isHidden", "(II)Z"⟩, 8), (⟨"PuppetPitchesModel", "hides", "(III)Z"⟩, 8), (⟨"PuppetPitchesModel", "standing", "()I"⟩, 8), (⟨"PuppetPitchesModel", "crowdsNow", "()I"⟩, 8)]
theorem lw_r2 : ∀ q ∈ lw_privs_2, lw_okq q := List.forall_mem_cons.mpr ⟨lw_p16, List.forall_mem_cons.mpr ⟨lw_p17, List.forall_mem_cons.mpr ⟨lw_p18, List.forall_mem_cons.mpr ⟨lw_p19, List.forall_mem_cons.mpr ⟨lw_p20, List.forall_mem_cons.mpr ⟨lw_p21, List.forall_mem_cons.mpr ⟨lw_p22, List.forall_mem_cons.mpr ⟨lw_p23, List.forall_mem_cons.mpr ⟨lw_p24, List.forall_mem_cons.mpr ⟨lw_p25, List.forall_mem_cons.mpr ⟨lw_p26, List.forall_mem_cons.mpr ⟨lw_p27, List.forall_mem_cons.mpr ⟨lw_p28, List.forall_mem_cons.mpr ⟨lw_p29, List.forall_mem_cons.mpr ⟨lw_p30, List.forall_mem_cons.mpr ⟨lw_p31, fun _ h => absurd h List.not_mem_nil⟩⟩⟩⟩⟩⟩⟩⟩⟩⟩⟩⟩⟩⟩⟩⟩
theorem lw_p32 : lw_okq (⟨"PuppetPitchesModel", "copies", "()V"⟩, 8) := ⟨⟨by decide +kernel, by decide +kernel⟩, List.mem_of_getElem? (i := 528) (by decide +kernel), List.mem_of_getElem? (i := 732) (by decide +kernel), List.mem_of_getElem? (i := 733) (by decide +kernel)⟩
theorem lw_p33 : lw_okq (⟨"PuppetPitchesModel", "partEnd", "(I)I"⟩, 8) := ⟨⟨by decide +kernel, by decide +kernel⟩, List.mem_of_getElem? (i := 528) (by decide +kernel), List.mem_of_getElem? (i := 753) (by decide +kernel), List.mem_of_getElem? (i := 754) (by decide +kernel)⟩
theorem lw_p34 : lw_okq (⟨"PuppetPitchesModel", "digit", "(I)I"⟩, 8) := ⟨⟨by decide +kernel, by decide +kernel⟩, List.mem_of_getElem? (i := 528) (by decide +kernel), List.mem_of_getElem? (i := 757) (by decide +kernel), List.mem_of_getElem? (i := 758) (by decide +kernel)⟩
theorem lw_p35 : lw_okq (⟨"PuppetPitchesModel", "sign", "(I)I"⟩, 8) := ⟨⟨by decide +kernel, by decide +kernel⟩, List.mem_of_getElem? (i := 528) (by decide +kernel), List.mem_of_getElem? (i := 761) (by decide +kernel), List.mem_of_getElem? (i := 762) (by decide +kernel)⟩
theorem lw_p36 : lw_okq (⟨"PuppetPitchesModel", "isTwice", "()Z"⟩, 8) := ⟨⟨by decide +kernel, by decide +kernel⟩, List.mem_of_getElem? (i := 528) (by decide +kernel), List.mem_of_getElem? (i := 770) (by decide +kernel), List.mem_of_getElem? (i := 771) (by decide +kernel)⟩
theorem lw_p37 : lw_okq (⟨"PuppetPitchesModel", "pitchOf", "(I)I"⟩, 8) := ⟨⟨by decide +kernel, by decide +kernel⟩, List.mem_of_getElem? (i := 528) (by decide +kernel), List.mem_of_getElem? (i := 774) (by decide +kernel), List.mem_of_getElem? (i := 775) (by decide +kernel)⟩
def lw_privs_3 : List (MethodName × Nat) := [(⟨"PuppetPitchesModel", "copies", "()V"⟩, 8), (⟨"PuppetPitchesModel", "partEnd", "(I)I"⟩, 8), (⟨"PuppetPitchesModel", "digit", "(I)I"⟩, 8), (⟨"PuppetPitchesModel", "sign", "(I)I"⟩, 8), (⟨"PuppetPitchesModel", "isTwice", "()Z"⟩, 8), (⟨"PuppetPitchesModel", "pitchOf", "(I)I"⟩, 8)]
theorem lw_r3 : ∀ q ∈ lw_privs_3, lw_okq q := List.forall_mem_cons.mpr ⟨lw_p32, List.forall_mem_cons.mpr ⟨lw_p33, List.forall_mem_cons.mpr ⟨lw_p34, List.forall_mem_cons.mpr ⟨lw_p35, List.forall_mem_cons.mpr ⟨lw_p36, List.forall_mem_cons.mpr ⟨lw_p37, fun _ h => absurd h List.not_mem_nil⟩⟩⟩⟩⟩⟩
def lw_privs : List (MethodName × Nat) := lw_privs_1 ++ (lw_privs_2 ++ (lw_privs_3))
def lw_tbl : List Cond := k2_sels lw_privs ++ tables_1
theorem lw_privs_ok : ∀ q ∈ lw_privs, lw_okq q := by
  show ∀ q ∈ lw_privs_1 ++ (lw_privs_2 ++ (lw_privs_3)), lw_okq q
  exact List.forall_mem_append.mpr ⟨lw_r1, List.forall_mem_append.mpr ⟨lw_r2, lw_r3⟩⟩
-- ===== end of PART A; then your names; then what follows =====
def RX0 : String := "PuppetPitches$Day"
def TX0 : u_T := fun k => match k with
  | _ => ("", "", "", false)
def tyX0 : Nat → FieldType := fun k => match k with
  | _ => .int
abbrev wsX00 : List Cond := u_ws RX0 TX0 0
theorem nmX0 : ∀ a, a < 0 → ∀ b, b < 0 → a ≠ b → (TX0 a).2.1 ≠ (TX0 b).2.1 := by decide +kernel
theorem tyX0_ok : ∀ k, k < 0 → parseFieldDescriptor (TX0 k).2.2.1 = some (tyX0 k) := by decide +kernel
abbrev cX0_pass : ByteArray := prog_2_method_2_code
def yX0_pass : MethodName := ⟨RX0, "pass", "(LPuppetPitches$State;LPuppetPitches$View;)I"⟩
abbrev cX0_drawLots : ByteArray := prog_2_method_3_code
def yX0_drawLots : MethodName := ⟨RX0, "drawLots", "(LPuppetPitches$State;)V"⟩
abbrev cX0_choosePitches : ByteArray := prog_2_method_4_code
def yX0_choosePitches : MethodName := ⟨RX0, "choosePitches", "(LPuppetPitches$State;LPuppetPitches$View;)V"⟩
abbrev cX0_passHats : ByteArray := prog_2_method_5_code
def yX0_passHats : MethodName := ⟨RX0, "passHats", "(LPuppetPitches$State;LPuppetPitches$View;Z)I"⟩
def RX1 : String := "PuppetPitches$History"
def TX1 : u_T := fun k => match k with
  | 0 => ("PuppetPitches$History", "states", "[LPuppetPitches$State;", true)
  | 1 => ("PuppetPitches$History", "next", "I", false)
  | _ => ("PuppetPitches$History", "kept", "I", false)
def tyX1 : Nat → FieldType := fun k => match k with
  | 0 => .array (.object "PuppetPitches$State")
  | 1 => .int
  | _ => .int
abbrev wsX10 : List Cond := u_ws RX1 TX1 3
theorem nmX1 : ∀ a, a < 3 → ∀ b, b < 3 → a ≠ b → (TX1 a).2.1 ≠ (TX1 b).2.1 := by decide +kernel
theorem tyX1_ok : ∀ k, k < 3 → parseFieldDescriptor (TX1 k).2.2.1 = some (tyX1 k) := by decide +kernel
abbrev cX1_init : ByteArray := prog_3_method_1_code
def yX1_init : MethodName := ⟨RX1, "<init>", "()V"⟩
abbrev cX1_record : ByteArray := prog_3_method_2_code
def yX1_record : MethodName := ⟨RX1, "record", "(LPuppetPitches$State;)V"⟩
abbrev cX1_takeBack : ByteArray := prog_3_method_3_code
def yX1_takeBack : MethodName := ⟨RX1, "takeBack", "(LPuppetPitches$State;)V"⟩
def RX2 : String := "PuppetPitches$Pad"
def TX2 : u_T := fun k => match k with
  | 0 => ("PuppetPitches$Pad", "text", "[C", true)
  | 1 => ("PuppetPitches$Pad", "length", "I", false)
  | 2 => ("PuppetPitches$Pad", "parts", "I", false)
  | 3 => ("PuppetPitches$Pad", "heights", "[I", true)
  | _ => ("PuppetPitches$Pad", "places", "[I", true)
def tyX2 : Nat → FieldType := fun k => match k with
  | 0 => .array .char
  | 1 => .int
  | 2 => .int
  | 3 => .array .int
  | _ => .array .int
abbrev wsX20 : List Cond := u_ws RX2 TX2 5
theorem nmX2 : ∀ a, a < 5 → ∀ b, b < 5 → a ≠ b → (TX2 a).2.1 ≠ (TX2 b).2.1 := by decide +kernel
theorem tyX2_ok : ∀ k, k < 5 → parseFieldDescriptor (TX2 k).2.2.1 = some (tyX2 k) := by decide +kernel
abbrev cX2_init : ByteArray := prog_4_method_1_code
def yX2_init : MethodName := ⟨RX2, "<init>", "()V"⟩
abbrev cX2_countLetters : ByteArray := prog_4_method_2_code
def yX2_countLetters : MethodName := ⟨RX2, "countLetters", "(J)I"⟩
abbrev cX2_append : ByteArray := prog_4_method_3_code
def yX2_append : MethodName := ⟨RX2, "append", "(JI)V"⟩
abbrev cX2_findFault : ByteArray := prog_4_method_4_code
def yX2_findFault : MethodName := ⟨RX2, "findFault", "()I"⟩
abbrev cX2_stageAfter : ByteArray := prog_4_method_5_code
def yX2_stageAfter : MethodName := ⟨RX2, "stageAfter", "(IC)I"⟩
abbrev cX2_readHeight : ByteArray := prog_4_method_6_code
def yX2_readHeight : MethodName := ⟨RX2, "readHeight", "(C)I"⟩
abbrev cX2_readFirstDigit : ByteArray := prog_4_method_7_code
def yX2_readFirstDigit : MethodName := ⟨RX2, "readFirstDigit", "(C)I"⟩
abbrev cX2_readPitch : ByteArray := prog_4_method_8_code
def yX2_readPitch : MethodName := ⟨RX2, "readPitch", "(I)I"⟩
abbrev cX2_readComma : ByteArray := prog_4_method_9_code
def yX2_readComma : MethodName := ⟨RX2, "readComma", "(C)I"⟩
abbrev cX2_hasSharedPitch : ByteArray := prog_4_method_10_code
def yX2_hasSharedPitch : MethodName := ⟨RX2, "hasSharedPitch", "()Z"⟩
def RX3 : String := "PuppetPitches$State"
def TX3 : u_T := fun k => match k with
  | 0 => ("PuppetPitches$State", "settings", "[I", true)
  | 1 => ("PuppetPitches$State", "x", "J", false)
  | 2 => ("PuppetPitches$State", "roofs", "I", false)
  | 3 => ("PuppetPitches$State", "days", "I", false)
  | 4 => ("PuppetPitches$State", "rainyDays", "I", false)
  | 5 => ("PuppetPitches$State", "takings", "I", false)
  | 6 => ("PuppetPitches$State", "booths", "I", false)
  | 7 => ("PuppetPitches$State", "heights", "[I", true)
  | 8 => ("PuppetPitches$State", "places", "[I", true)
  | 9 => ("PuppetPitches$State", "hats", "[I", true)
  | 10 => ("PuppetPitches$State", "firsts", "[I", true)
  | 11 => ("PuppetPitches$State", "idleDays", "[I", true)
  | _ => ("PuppetPitches$State", "lots", "[I", true)
def tyX3 : Nat → FieldType := fun k => match k with
  | 0 => .array .int
  | 1 => .long
  | 2 => .int
  | 3 => .int
  | 4 => .int
  | 5 => .int
  | 6 => .int
  | 7 => .array .int
  | 8 => .array .int
  | 9 => .array .int
  | 10 => .array .int
  | 11 => .array .int
  | _ => .array .int
abbrev wsX30 : List Cond := u_ws RX3 TX3 13
theorem nmX3 : ∀ a, a < 13 → ∀ b, b < 13 → a ≠ b → (TX3 a).2.1 ≠ (TX3 b).2.1 := by decide +kernel
theorem tyX3_ok : ∀ k, k < 13 → parseFieldDescriptor (TX3 k).2.2.1 = some (tyX3 k) := by decide +kernel
abbrev cX3_init : ByteArray := prog_5_method_1_code
def yX3_init : MethodName := ⟨RX3, "<init>", "()V"⟩
abbrev cX3_copyFrom : ByteArray := prog_5_method_2_code
def yX3_copyFrom : MethodName := ⟨RX3, "copyFrom", "(LPuppetPitches$State;)V"⟩
abbrev cX3_setting : ByteArray := prog_5_method_3_code
def yX3_setting : MethodName := ⟨RX3, "setting", "(I)I"⟩
abbrev cX3_changeSetting : ByteArray := prog_5_method_4_code
def yX3_changeSetting : MethodName := ⟨RX3, "changeSetting", "(II)V"⟩
abbrev cX3_isRoofed : ByteArray := prog_5_method_5_code
def yX3_isRoofed : MethodName := ⟨RX3, "isRoofed", "(I)Z"⟩
abbrev cX3_isBooth : ByteArray := prog_5_method_6_code
def yX3_isBooth : MethodName := ⟨RX3, "isBooth", "(I)Z"⟩
abbrev cX3_isStanding : ByteArray := prog_5_method_7_code
def yX3_isStanding : MethodName := ⟨RX3, "isStanding", "(I)Z"⟩
abbrev cX3_countStanding : ByteArray := prog_5_method_8_code
def yX3_countStanding : MethodName := ⟨RX3, "countStanding", "()I"⟩
abbrev cX3_boothAt : ByteArray := prog_5_method_9_code
def yX3_boothAt : MethodName := ⟨RX3, "boothAt", "(I)I"⟩
abbrev cX3_isTakenByOther : ByteArray := prog_5_method_10_code
def yX3_isTakenByOther : MethodName := ⟨RX3, "isTakenByOther", "(II)Z"⟩
abbrev cX3_isHidden : ByteArray := prog_5_method_11_code
def yX3_isHidden : MethodName := ⟨RX3, "isHidden", "(IZ)Z"⟩
abbrev cX3_hides : ByteArray := prog_5_method_12_code
def yX3_hides : MethodName := ⟨RX3, "hides", "(IIZ)Z"⟩
abbrev cX3_addBooth : ByteArray := prog_5_method_13_code
def yX3_addBooth : MethodName := ⟨RX3, "addBooth", "(II)V"⟩
abbrev cX3_removeBooth : ByteArray := prog_5_method_14_code
def yX3_removeBooth : MethodName := ⟨RX3, "removeBooth", "(I)V"⟩
abbrev cX3_closeUp : ByteArray := prog_5_method_15_code
def yX3_closeUp : MethodName := ⟨RX3, "closeUp", "([II)V"⟩
abbrev cX3_forgetBooths : ByteArray := prog_5_method_16_code
def yX3_forgetBooths : MethodName := ⟨RX3, "forgetBooths", "()V"⟩
abbrev cX3_forgetLots : ByteArray := prog_5_method_17_code
def yX3_forgetLots : MethodName := ⟨RX3, "forgetLots", "()V"⟩
abbrev cX3_draw : ByteArray := prog_5_method_18_code
def yX3_draw : MethodName := ⟨RX3, "draw", "(I)I"⟩
def RX4 : String := "PuppetPitches$Stream"
def TX4 : u_T := fun k => match k with
  | 0 => ("PuppetPitches$Stream", "isFromLeft", "Z", true)
  | 1 => ("PuppetPitches$Stream", "arriving", "[I", true)
  | 2 => ("PuppetPitches$Stream", "tallest", "[I", true)
  | 3 => ("PuppetPitches$Stream", "stopShare", "I", false)
  | _ => ("PuppetPitches$Stream", "passing", "I", false)
def tyX4 : Nat → FieldType := fun k => match k with
  | 0 => .boolean
  | 1 => .array .int
  | 2 => .array .int
  | 3 => .int
  | _ => .int
abbrev wsX40 : List Cond := u_ws RX4 TX4 5
theorem nmX4 : ∀ a, a < 5 → ∀ b, b < 5 → a ≠ b → (TX4 a).2.1 ≠ (TX4 b).2.1 := by decide +kernel
theorem tyX4_ok : ∀ k, k < 5 → parseFieldDescriptor (TX4 k).2.2.1 = some (tyX4 k) := by decide +kernel
abbrev cX4_init : ByteArray := prog_6_method_1_code
def yX4_init : MethodName := ⟨RX4, "<init>", "(Z)V"⟩
abbrev cX4_walk : ByteArray := prog_6_method_2_code
def yX4_walk : MethodName := ⟨RX4, "walk", "([III)V"⟩
abbrev cX4_isSeen : ByteArray := prog_6_method_3_code
def yX4_isSeen : MethodName := ⟨RX4, "isSeen", "(II)Z"⟩
abbrev cX4_stopping : ByteArray := prog_6_method_4_code
def yX4_stopping : MethodName := ⟨RX4, "stopping", "(II)I"⟩
def RX5 : String := "PuppetPitches$View"
def TX5 : u_T := fun k => match k with
  | 0 => ("PuppetPitches$View", "tops", "[I", true)
  | 1 => ("PuppetPitches$View", "fromLeft", "LPuppetPitches$Stream;", true)
  | _ => ("PuppetPitches$View", "fromRight", "LPuppetPitches$Stream;", true)
def tyX5 : Nat → FieldType := fun k => match k with
  | 0 => .array .int
  | 1 => .object "PuppetPitches$Stream"
  | _ => .object "PuppetPitches$Stream"
abbrev wsX50 : List Cond := u_ws RX5 TX5 3
theorem nmX5 : ∀ a, a < 3 → ∀ b, b < 3 → a ≠ b → (TX5 a).2.1 ≠ (TX5 b).2.1 := by decide +kernel
theorem tyX5_ok : ∀ k, k < 3 → parseFieldDescriptor (TX5 k).2.2.1 = some (tyX5 k) := by decide +kernel
abbrev cX5_init : ByteArray := prog_7_method_1_code
def yX5_init : MethodName := ⟨RX5, "<init>", "()V"⟩
abbrev cX5_look : ByteArray := prog_7_method_2_code
def yX5_look : MethodName := ⟨RX5, "look", "(LPuppetPitches$State;I)V"⟩
abbrev cX5_clear : ByteArray := prog_7_method_3_code
def yX5_clear : MethodName := ⟨RX5, "clear", "()V"⟩
abbrev cX5_raise : ByteArray := prog_7_method_4_code
def yX5_raise : MethodName := ⟨RX5, "raise", "(II)V"⟩
abbrev cX5_letPeoplePass : ByteArray := prog_7_method_5_code
def yX5_letPeoplePass : MethodName := ⟨RX5, "letPeoplePass", "(LPuppetPitches$State;)V"⟩
abbrev cX5_streamFrom : ByteArray := prog_7_method_6_code
def yX5_streamFrom : MethodName := ⟨RX5, "streamFrom", "(Z)LPuppetPitches$Stream;"⟩
abbrev cX5_crowdAt : ByteArray := prog_7_method_7_code
def yX5_crowdAt : MethodName := ⟨RX5, "crowdAt", "(II)I"⟩
abbrev cX5_isOpen : ByteArray := prog_7_method_8_code
def yX5_isOpen : MethodName := ⟨RX5, "isOpen", "(II)Z"⟩
abbrev cX5_bestOpenPitch : ByteArray := prog_7_method_9_code
def yX5_bestOpenPitch : MethodName := ⟨RX5, "bestOpenPitch", "(II)I"⟩
def RX6 : String := "PuppetPitches"
def TX6 : u_T := fun k => match k with
  | 0 => ("PuppetPitches", "now", "LPuppetPitches$State;", true)
  | 1 => ("PuppetPitches", "foretold", "LPuppetPitches$State;", true)
  | 2 => ("PuppetPitches", "view", "LPuppetPitches$View;", true)
  | 3 => ("PuppetPitches", "pad", "LPuppetPitches$Pad;", true)
  | 4 => ("PuppetPitches", "history", "LPuppetPitches$History;", true)
  | _ => ("PuppetPitches", "slots", "[LPuppetPitches$State;", true)
def tyX6 : Nat → FieldType := fun k => match k with
  | 0 => .object "PuppetPitches$State"
  | 1 => .object "PuppetPitches$State"
  | 2 => .object "PuppetPitches$View"
  | 3 => .object "PuppetPitches$Pad"
  | 4 => .object "PuppetPitches$History"
  | _ => .array (.object "PuppetPitches$State")
abbrev wsX60 : List Cond := u_ws RX6 TX6 6
theorem nmX6 : ∀ a, a < 6 → ∀ b, b < 6 → a ≠ b → (TX6 a).2.1 ≠ (TX6 b).2.1 := by decide +kernel
theorem tyX6_ok : ∀ k, k < 6 → parseFieldDescriptor (TX6 k).2.2.1 = some (tyX6 k) := by decide +kernel
abbrev cX6_init : ByteArray := prog_1_method_1_code
def yX6_init : MethodName := ⟨RX6, "<init>", "()V"⟩
abbrev cX6_set : ByteArray := prog_1_method_2_code
def yX6_set : MethodName := ⟨RX6, "set", "(II)I"⟩
abbrev cX6_roof : ByteArray := prog_1_method_3_code
def yX6_roof : MethodName := ⟨RX6, "roof", "(IZ)I"⟩
abbrev cX6_come : ByteArray := prog_1_method_4_code
def yX6_come : MethodName := ⟨RX6, "come", "(I)I"⟩
abbrev cX6_go : ByteArray := prog_1_method_5_code
def yX6_go : MethodName := ⟨RX6, "go", "(I)I"⟩
abbrev cX6_height : ByteArray := prog_1_method_6_code
def yX6_height : MethodName := ⟨RX6, "height", "(II)I"⟩
abbrev cX6_stand : ByteArray := prog_1_method_7_code
def yX6_stand : MethodName := ⟨RX6, "stand", "(II)I"⟩
abbrev cX6_shuffle : ByteArray := prog_1_method_8_code
def yX6_shuffle : MethodName := ⟨RX6, "shuffle", "(I)I"⟩
abbrev cX6_play : ByteArray := prog_1_method_9_code
def yX6_play : MethodName := ⟨RX6, "play", "()I"⟩
abbrev cX6_read : ByteArray := prog_1_method_10_code
def yX6_read : MethodName := ⟨RX6, "read", "()I"⟩
abbrev cX6_booth : ByteArray := prog_1_method_11_code
def yX6_booth : MethodName := ⟨RX6, "booth", "(II)I"⟩
abbrev cX6_pitch : ByteArray := prog_1_method_12_code
def yX6_pitch : MethodName := ⟨RX6, "pitch", "(II)I"⟩
abbrev cX6_seen : ByteArray := prog_1_method_13_code
def yX6_seen : MethodName := ⟨RX6, "seen", "(III)I"⟩
abbrev cX6_count : ByteArray := prog_1_method_14_code
def yX6_count : MethodName := ⟨RX6, "count", "(I)I"⟩
abbrev cX6_lot : ByteArray := prog_1_method_15_code
def yX6_lot : MethodName := ⟨RX6, "lot", "(I)I"⟩
abbrev cX6_ifStood : ByteArray := prog_1_method_16_code
def yX6_ifStood : MethodName := ⟨RX6, "ifStood", "(II)I"⟩
abbrev cX6_bestPitch : ByteArray := prog_1_method_17_code
def yX6_bestPitch : MethodName := ⟨RX6, "bestPitch", "(I)I"⟩
abbrev cX6_ifPlayed : ByteArray := prog_1_method_18_code
def yX6_ifPlayed : MethodName := ⟨RX6, "ifPlayed", "(II)I"⟩
abbrev cX6_bestHeight : ByteArray := prog_1_method_19_code
def yX6_bestHeight : MethodName := ⟨RX6, "bestHeight", "(I)I"⟩
abbrev cX6_put : ByteArray := prog_1_method_20_code
def yX6_put : MethodName := ⟨RX6, "put", "(J)I"⟩
abbrev cX6_wipe : ByteArray := prog_1_method_21_code
def yX6_wipe : MethodName := ⟨RX6, "wipe", "()I"⟩
abbrev cX6_fault : ByteArray := prog_1_method_22_code
def yX6_fault : MethodName := ⟨RX6, "fault", "()I"⟩
abbrev cX6_undo : ByteArray := prog_1_method_23_code
def yX6_undo : MethodName := ⟨RX6, "undo", "()I"⟩
abbrev cX6_save : ByteArray := prog_1_method_24_code
def yX6_save : MethodName := ⟨RX6, "save", "(I)I"⟩
abbrev cX6_restore : ByteArray := prog_1_method_25_code
def yX6_restore : MethodName := ⟨RX6, "restore", "(I)I"⟩
abbrev cX6_stoppingFrom : ByteArray := prog_1_method_26_code
def yX6_stoppingFrom : MethodName := ⟨RX6, "stoppingFrom", "(ZI)I"⟩
abbrev cX6_stoppingNowhere : ByteArray := prog_1_method_27_code
def yX6_stoppingNowhere : MethodName := ⟨RX6, "stoppingNowhere", "()I"⟩
abbrev cX6_isPitch : ByteArray := prog_1_method_28_code
def yX6_isPitch : MethodName := ⟨RX6, "isPitch", "(I)Z"⟩
abbrev cX6_isHeight : ByteArray := prog_1_method_29_code
def yX6_isHeight : MethodName := ⟨RX6, "isHeight", "(I)Z"⟩
abbrev cX6_copyRow : ByteArray := prog_1_method_30_code
def yX6_copyRow : MethodName := ⟨RX6, "copyRow", "([I[I)V"⟩
def RX7 : String := "PuppetPitchesModel"
def TX7 : u_T := fun k => match k with
  | 0 => ("PuppetPitchesModel", "s", "[I", true)
  | 1 => ("PuppetPitchesModel", "past", "[I", true)
  | 2 => ("PuppetPitchesModel", "known", "I", false)
  | 3 => ("PuppetPitchesModel", "slots", "[I", true)
  | 4 => ("PuppetPitchesModel", "isSaved", "[Z", true)
  | 5 => ("PuppetPitchesModel", "pad", "[I", true)
  | 6 => ("PuppetPitchesModel", "length", "I", false)
  | _ => ("PuppetPitchesModel", "stops", "[I", true)
def tyX7 : Nat → FieldType := fun k => match k with
  | 0 => .array .int
  | 1 => .array .int
  | 2 => .int
  | 3 => .array .int
  | 4 => .array .boolean
  | 5 => .array .int
  | 6 => .int
  | _ => .array .int
abbrev wsX70 : List Cond := u_ws RX7 TX7 8
theorem nmX7 : ∀ a, a < 8 → ∀ b, b < 8 → a ≠ b → (TX7 a).2.1 ≠ (TX7 b).2.1 := by decide +kernel
theorem tyX7_ok : ∀ k, k < 8 → parseFieldDescriptor (TX7 k).2.2.1 = some (tyX7 k) := by decide +kernel
abbrev cX7_init : ByteArray := prog_9_method_1_code
def yX7_init : MethodName := ⟨RX7, "<init>", "()V"⟩
abbrev cX7_in : ByteArray := prog_9_method_3_code
def yX7_in : MethodName := ⟨RX7, "in", "(III)Z"⟩
abbrev cX7_isBooth : ByteArray := prog_9_method_4_code
def yX7_isBooth : MethodName := ⟨RX7, "isBooth", "(I)Z"⟩
abbrev cX7_isPitch : ByteArray := prog_9_method_5_code
def yX7_isPitch : MethodName := ⟨RX7, "isPitch", "(I)Z"⟩
abbrev cX7_at : ByteArray := prog_9_method_6_code
def yX7_at : MethodName := ⟨RX7, "at", "(II)I"⟩
abbrev cX7_its : ByteArray := prog_9_method_7_code
def yX7_its : MethodName := ⟨RX7, "its", "(II)I"⟩
abbrev cX7_remembers : ByteArray := prog_9_method_8_code
def yX7_remembers : MethodName := ⟨RX7, "remembers", "()V"⟩
abbrev cX7_copies : ByteArray := prog_9_method_9_code
def yX7_copies : MethodName := ⟨RX7, "copies", "()V"⟩
abbrev cX7_forgets : ByteArray := prog_9_method_10_code
def yX7_forgets : MethodName := ⟨RX7, "forgets", "()V"⟩
abbrev cX7_boothAt : ByteArray := prog_9_method_11_code
def yX7_boothAt : MethodName := ⟨RX7, "boothAt", "(II)I"⟩
abbrev cX7_goes : ByteArray := prog_9_method_12_code
def yX7_goes : MethodName := ⟨RX7, "goes", "(II)I"⟩
abbrev cX7_crowds : ByteArray := prog_9_method_13_code
def yX7_crowds : MethodName := ⟨RX7, "crowds", "(I)I"⟩
abbrev cX7_crowdOf : ByteArray := prog_9_method_14_code
def yX7_crowdOf : MethodName := ⟨RX7, "crowdOf", "(I)I"⟩
abbrev cX7_crowdAt : ByteArray := prog_9_method_15_code
def yX7_crowdAt : MethodName := ⟨RX7, "crowdAt", "(III)I"⟩
abbrev cX7_isFree : ByteArray := prog_9_method_16_code
def yX7_isFree : MethodName := ⟨RX7, "isFree", "(II)Z"⟩
abbrev cX7_draws : ByteArray := prog_9_method_17_code
def yX7_draws : MethodName := ⟨RX7, "draws", "(II)I"⟩
abbrev cX7_lots : ByteArray := prog_9_method_18_code
def yX7_lots : MethodName := ⟨RX7, "lots", "(I)V"⟩
abbrev cX7_chooses : ByteArray := prog_9_method_19_code
def yX7_chooses : MethodName := ⟨RX7, "chooses", "(II)V"⟩
abbrev cX7_plays : ByteArray := prog_9_method_20_code
def yX7_plays : MethodName := ⟨RX7, "plays", "(I)I"⟩
abbrev cX7_mostOf : ByteArray := prog_9_method_21_code
def yX7_mostOf : MethodName := ⟨RX7, "mostOf", "(I)I"⟩
abbrev cX7_set : ByteArray := prog_9_method_22_code
def yX7_set : MethodName := ⟨RX7, "set", "(II)I"⟩
abbrev cX7_roofs : ByteArray := prog_9_method_23_code
def yX7_roofs : MethodName := ⟨RX7, "roofs", "()I"⟩
abbrev cX7_roof : ByteArray := prog_9_method_24_code
def yX7_roof : MethodName := ⟨RX7, "roof", "(IZ)I"⟩
abbrev cX7_comes : ByteArray := prog_9_method_25_code
def yX7_comes : MethodName := ⟨RX7, "comes", "(II)V"⟩
abbrev cX7_come : ByteArray := prog_9_method_26_code
def yX7_come : MethodName := ⟨RX7, "come", "(I)I"⟩
abbrev cX7_go : ByteArray := prog_9_method_27_code
def yX7_go : MethodName := ⟨RX7, "go", "(I)I"⟩
abbrev cX7_height : ByteArray := prog_9_method_28_code
def yX7_height : MethodName := ⟨RX7, "height", "(II)I"⟩
abbrev cX7_isOthers : ByteArray := prog_9_method_29_code
def yX7_isOthers : MethodName := ⟨RX7, "isOthers", "(II)Z"⟩
abbrev cX7_stand : ByteArray := prog_9_method_30_code
def yX7_stand : MethodName := ⟨RX7, "stand", "(II)I"⟩
abbrev cX7_shuffle : ByteArray := prog_9_method_31_code
def yX7_shuffle : MethodName := ⟨RX7, "shuffle", "(I)I"⟩
abbrev cX7_play : ByteArray := prog_9_method_32_code
def yX7_play : MethodName := ⟨RX7, "play", "()I"⟩
abbrev cX7_crowd : ByteArray := prog_9_method_33_code
def yX7_crowd : MethodName := ⟨RX7, "crowd", "(II)I"⟩
abbrev cX7_booth : ByteArray := prog_9_method_34_code
def yX7_booth : MethodName := ⟨RX7, "booth", "(II)I"⟩
abbrev cX7_pitch : ByteArray := prog_9_method_35_code
def yX7_pitch : MethodName := ⟨RX7, "pitch", "(II)I"⟩
abbrev cX7_hides : ByteArray := prog_9_method_36_code
def yX7_hides : MethodName := ⟨RX7, "hides", "(III)Z"⟩
abbrev cX7_isHidden : ByteArray := prog_9_method_37_code
def yX7_isHidden : MethodName := ⟨RX7, "isHidden", "(II)Z"⟩
abbrev cX7_highest : ByteArray := prog_9_method_38_code
def yX7_highest : MethodName := ⟨RX7, "highest", "(II)I"⟩
abbrev cX7_seen : ByteArray := prog_9_method_39_code
def yX7_seen : MethodName := ⟨RX7, "seen", "(III)I"⟩
abbrev cX7_standing : ByteArray := prog_9_method_40_code
def yX7_standing : MethodName := ⟨RX7, "standing", "()I"⟩
abbrev cX7_crowdsNow : ByteArray := prog_9_method_41_code
def yX7_crowdsNow : MethodName := ⟨RX7, "crowdsNow", "()I"⟩
abbrev cX7_count : ByteArray := prog_9_method_42_code
def yX7_count : MethodName := ⟨RX7, "count", "(I)I"⟩
abbrev cX7_lot : ByteArray := prog_9_method_43_code
def yX7_lot : MethodName := ⟨RX7, "lot", "(I)I"⟩
abbrev cX7_ifStood : ByteArray := prog_9_method_44_code
def yX7_ifStood : MethodName := ⟨RX7, "ifStood", "(II)I"⟩
abbrev cX7_bestPitch : ByteArray := prog_9_method_45_code
def yX7_bestPitch : MethodName := ⟨RX7, "bestPitch", "(I)I"⟩
abbrev cX7_ifPlayed : ByteArray := prog_9_method_46_code
def yX7_ifPlayed : MethodName := ⟨RX7, "ifPlayed", "(II)I"⟩
abbrev cX7_bestHeight : ByteArray := prog_9_method_47_code
def yX7_bestHeight : MethodName := ⟨RX7, "bestHeight", "(I)I"⟩
abbrev cX7_put : ByteArray := prog_9_method_48_code
def yX7_put : MethodName := ⟨RX7, "put", "(J)I"⟩
abbrev cX7_wipe : ByteArray := prog_9_method_49_code
def yX7_wipe : MethodName := ⟨RX7, "wipe", "()I"⟩
abbrev cX7_sign : ByteArray := prog_9_method_50_code
def yX7_sign : MethodName := ⟨RX7, "sign", "(I)I"⟩
abbrev cX7_digit : ByteArray := prog_9_method_51_code
def yX7_digit : MethodName := ⟨RX7, "digit", "(I)I"⟩
abbrev cX7_partEnd : ByteArray := prog_9_method_52_code
def yX7_partEnd : MethodName := ⟨RX7, "partEnd", "(I)I"⟩
abbrev cX7_pitchOf : ByteArray := prog_9_method_53_code
def yX7_pitchOf : MethodName := ⟨RX7, "pitchOf", "(I)I"⟩
abbrev cX7_fault : ByteArray := prog_9_method_54_code
def yX7_fault : MethodName := ⟨RX7, "fault", "()I"⟩
abbrev cX7_isTwice : ByteArray := prog_9_method_55_code
def yX7_isTwice : MethodName := ⟨RX7, "isTwice", "()Z"⟩
abbrev cX7_read : ByteArray := prog_9_method_56_code
def yX7_read : MethodName := ⟨RX7, "read", "()I"⟩
abbrev cX7_undo : ByteArray := prog_9_method_57_code
def yX7_undo : MethodName := ⟨RX7, "undo", "()I"⟩
abbrev cX7_save : ByteArray := prog_9_method_58_code
def yX7_save : MethodName := ⟨RX7, "save", "(I)I"⟩
abbrev cX7_restore : ByteArray := prog_9_method_59_code
def yX7_restore : MethodName := ⟨RX7, "restore", "(I)I"⟩
def RJ6 : String := "java/lang/Integer"
def TJ6 : u_T := fun k => match k with
  | _ => ("", "", "", false)
def tyJ6 : Nat → FieldType := fun k => match k with
  | _ => .int
abbrev wsJ60 : List Cond := u_ws RJ6 TJ6 0
theorem nmJ6 : ∀ a, a < 0 → ∀ b, b < 0 → a ≠ b → (TJ6 a).2.1 ≠ (TJ6 b).2.1 := by decide +kernel
theorem tyJ6_ok : ∀ k, k < 0 → parseFieldDescriptor (TJ6 k).2.2.1 = some (tyJ6 k) := by decide +kernel
abbrev cJ6_bitCount_0f7a4 : ByteArray := prog_10_method_49_code
def yJ6_bitCount_0f7a4 : MethodName := ⟨RJ6, "bitCount", "(I)I"⟩
def RJ9 : String := "java/lang/Math"
def TJ9 : u_T := fun k => match k with
  | _ => ("", "", "", false)
def tyJ9 : Nat → FieldType := fun k => match k with
  | _ => .int
abbrev wsJ90 : List Cond := u_ws RJ9 TJ9 0
theorem nmJ9 : ∀ a, a < 0 → ∀ b, b < 0 → a ≠ b → (TJ9 a).2.1 ≠ (TJ9 b).2.1 := by decide +kernel
theorem tyJ9_ok : ∀ k, k < 0 → parseFieldDescriptor (TJ9 k).2.2.1 = some (tyJ9 k) := by decide +kernel
abbrev cJ9_abs_0f7a4 : ByteArray := prog_11_method_59_code
def yJ9_abs_0f7a4 : MethodName := ⟨RJ9, "abs", "(I)I"⟩
abbrev cJ9_max_7cf53 : ByteArray := prog_11_method_65_code
def yJ9_max_7cf53 : MethodName := ⟨RJ9, "max", "(II)I"⟩
abbrev cJ9_min_7cf53 : ByteArray := prog_11_method_69_code
def yJ9_min_7cf53 : MethodName := ⟨RJ9, "min", "(II)I"⟩
def RL : String := "PuppetPitchesLaw"
abbrev cL_law : ByteArray := code
def yL_law : MethodName := ⟨RL, "law", "([I)Z"⟩
def am_ws : List Cond := lw_tbl.filter goodWord
def am_nest : Cond → Bool
  | .methodLinkNest _ _ _ _ => true
  | .fieldLinkNest _ _ _ _ _ _ => true
  | .arrayOver (.object _) => true
  | _ => false
def am_nw : List Cond := lw_tbl.filter am_nest
theorem am_wsin {w : Cond} (h : w ∈ lw_tbl) (g : goodWord w = true) : w ∈ am_ws := List.mem_filter.mpr ⟨h, g⟩
theorem am_wsg {w : Cond} (h : w ∈ am_ws) : goodWord w = true := (List.mem_filter.mp h).2
abbrev am_cl : List vw_C := [(RX1, TX1, 3), (RX2, TX2, 5), (RX3, TX3, 13), (RX4, TX4, 5), (RX5, TX5, 3), (RX6, TX6, 6), (RX7, TX7, 8)]
theorem am_in1 : ∀ w ∈ u_ws RX1 TX1 3, w ∈ am_ws := by decide +kernel
theorem am_in2 : ∀ w ∈ u_ws RX2 TX2 5, w ∈ am_ws := by decide +kernel
theorem am_in3 : ∀ w ∈ u_ws RX3 TX3 13, w ∈ am_ws := by decide +kernel
theorem am_in4 : ∀ w ∈ u_ws RX4 TX4 5, w ∈ am_ws := by decide +kernel
theorem am_in5 : ∀ w ∈ u_ws RX5 TX5 3, w ∈ am_ws := by decide +kernel
theorem am_in6 : ∀ w ∈ u_ws RX6 TX6 6, w ∈ am_ws := by decide +kernel
theorem am_in7 : ∀ w ∈ u_ws RX7 TX7 8, w ∈ am_ws := by decide +kernel
end
section
/-! AN ABSTRACT MACHINE over the kit's rows: references are places in a list of cells, its heaps are lists; a method's contract speaks of its own list -/
abbrev am_C : Type := (Nat × List Value) ⊕ ((FieldType × Bool × Nat × (Nat → Int32)) ⊕ (Nat × List (Option Nat)))
abbrev am_H : Type := List (Option am_C)
abbrev am_M : Type := MethodName × ByteArray × Nat × Option FieldType × Nat × Nat × Nat
abbrev am_y (M : am_M) : MethodName := M.1
abbrev am_b (M : am_M) : ByteArray := M.2.1
abbrev am_n (M : am_M) : Nat := M.2.2.1
abbrev am_r (M : am_M) : Option FieldType := M.2.2.2.1
abbrev am_lv (M : am_M) : Nat := M.2.2.2.2.1
abbrev am_nc (M : am_M) : Nat := M.2.2.2.2.2.1
abbrev am_ns (M : am_M) : Nat := M.2.2.2.2.2.2
abbrev am_W (M : am_M) : List Cond := Cond.code (am_y M) (am_b M) (am_n M) (am_r M) :: am_ws
abbrev am_R (M : am_M) : Room := { frames := am_lv M, cells := am_nc M, slots := am_ns M, locals := 40 * am_lv M }
abbrev am_oj (ci : Nat) (fs : List Value) : am_C := .inl (ci, fs)
abbrev am_ia (N : Nat) (f : Nat → Int32) : am_C := .inr (.inl (.int, true, N, f))
abbrev am_ra (ci : Nat) (gs : List (Option Nat)) : am_C := .inr (.inr (ci, gs))
def am_v (ad : Nat → Nat) : Value → Value
  | .ref k => .ref (ad k)
  | v => v
theorem am_vc (ad : Nat → Nat) (v : Value) : (am_v ad v).category = v.category := by cases v <;> rfl
theorem am_vv (f g : Nat → Nat) (v : Value) : am_v f (am_v g v) = am_v (fun k => f (g k)) v := by cases v <;> rfl
theorem am_vid (v : Value) : am_v (fun k => k) v = v := by cases v <;> rfl
/-- a cell, its references as 'ad' has them, lies at the address a -/
def am_cell (D : va_G) (U : State) (ad : Nat → Nat) (a : Nat) (H : Heap) (c : am_C) : Prop := match c with
  | .inl o => va_at D am_cl (a, .inr (o.1, o.2.map (am_v ad))) H
  | .inr (.inl x) => ∃ cell : Cell, H[a]? = some cell ∧ U.isArrayOf cell x.1 ∧ cell.vm ≠ .unknown ∧ cell.slots.size = x.2.2.1 ∧ x.2.2.1 < 2147483648 ∧ ∀ j : Nat, j < x.2.2.1 → cell.slots[j]? = some (.int (x.2.2.2 j))
  | .inr (.inr x) => ∃ (cA : ClassId) (q : vw_C), am_cl[x.1]? = some q ∧ x.2.length < 2147483648 ∧ H[a]? = some (arrV cA x.2.length (fun j => va_rf ((x.2.getD j none).map ad))) ∧ ArrOfT U cA (.object q.1) ∧ va_RA U cA (.object q.1)
theorem am_cell.kept {D : va_G} {U : State} {ad : Nat → Nat} {a : Nat} {H H1 : Heap} {c : am_C} (h : am_cell D U ad a H c) (hq : H1[a]? = H[a]?) : am_cell D U ad a H1 c := by
  match c, h with
  | .inl o, h => exact va_at.kept (q := (a, .inr (o.1, o.2.map (am_v ad)))) h hq
  | .inr (.inl x), h =>
    obtain ⟨cell, h1, h2⟩ := h
    exact ⟨cell, by rw [hq]; exact h1, h2⟩
  | .inr (.inr x), h =>
    obtain ⟨cA, q, h0, hl, h1, h2⟩ := h
    exact ⟨cA, q, h0, hl, by rw [hq]; exact h1, h2⟩
theorem am_cell.moved {D : va_G} {u U : State} {ad : Nat → Nat} {a : Nat} {H : Heap} {c : am_C} (hvm : u.vm.Alike U.vm) (h : am_cell D u ad a H c) : am_cell D U ad a H c := by
  match c, h with
  | .inl o, h => exact h
  | .inr (.inl x), h =>
    obtain ⟨cell, h1, h2, h3⟩ := h
    exact ⟨cell, h1, State.isArrayOf_alike hvm h2, h3⟩
  | .inr (.inr x), h =>
    obtain ⟨cA, q, h0, hl, h1, h2, h3⟩ := h
    exact ⟨cA, q, h0, hl, h1, arrOfT_moved hvm h2, h3.moved hvm⟩
theorem am_cell.lt {D : va_G} {U : State} {ad : Nat → Nat} {a : Nat} {H : Heap} {c : am_C} (h : am_cell D U ad a H c) : a < H.size := by
  match c, h with
  | .inl o, h => exact va_at.lt (q := (a, .inr (o.1, o.2.map (am_v ad)))) h
  | .inr (.inl x), h =>
    obtain ⟨cell, h1, h2⟩ := h
    exact (Array.getElem?_eq_some_iff.mp h1).1
  | .inr (.inr x), h =>
    obtain ⟨cA, q, h0, hl, h1, h2⟩ := h
    exact (Array.getElem?_eq_some_iff.mp h1).1
/-- which places a cell's contents name -/
def am_refs (c : am_C) : List Nat := match c with
  | .inl o => o.2.filterMap (fun v => match v with | .ref k => some k | _ => none)
  | .inr (.inl _) => []
  | .inr (.inr x) => x.2.filterMap (fun o => o)
theorem am_cell.ad {D : va_G} {U : State} {ad ad1 : Nat → Nat} {a : Nat} {H : Heap} {c : am_C} (h : am_cell D U ad a H c) (hr : ∀ k ∈ am_refs c, ad1 k = ad k) : am_cell D U ad1 a H c := by
  match c, h, hr with
  | .inl o, h, hr =>
    have e : o.2.map (am_v ad1) = o.2.map (am_v ad) := by
      refine List.map_congr_left fun v hv => ?_
      cases v with
      | ref k =>
        show Value.ref (ad1 k) = Value.ref (ad k)
        rw [hr k (List.mem_filterMap.mpr ⟨.ref k, hv, rfl⟩)]
      | _ => rfl
    show va_at D am_cl (a, .inr (o.1, o.2.map (am_v ad1))) H
    rw [e]
    exact h
  | .inr (.inl x), h, hr => exact h
  | .inr (.inr x), h, hr =>
    obtain ⟨cA, q, h0, hl, h1, h2⟩ := h
    refine ⟨cA, q, h0, hl, ?_, h2⟩
    rw [h1]
    congr 2
    funext j
    cases hj : x.2.getD j none with
    | none => rfl
    | some k =>
      have hm : some k ∈ x.2 := by
        rw [List.getD_eq_getElem?_getD] at hj
        cases hx : x.2[j]? with
        | none => rw [hx] at hj; cases hj
        | some z => rw [hx] at hj; cases hj; exact List.mem_of_getElem? hx
      show va_rf (some (ad k)) = va_rf (some (ad1 k))
      rw [hr k (List.mem_filterMap.mpr ⟨some k, hm, rfl⟩)]
/-- a renaming of the places, in a cell -/
def am_rc (μ : Nat → Nat) (c : am_C) : am_C := match c with
  | .inl o => .inl (o.1, o.2.map (am_v μ))
  | .inr (.inl x) => .inr (.inl x)
  | .inr (.inr x) => .inr (.inr (x.1, x.2.map (fun o => o.map μ)))
theorem am_cell.ren {D : va_G} {U : State} {ad μ : Nat → Nat} {a : Nat} {H : Heap} {c : am_C} : am_cell D U ad a H (am_rc μ c) ↔ am_cell D U (fun k => ad (μ k)) a H c := by
  match c with
  | .inl o =>
    show va_at D am_cl (a, .inr (o.1, (o.2.map (am_v μ)).map (am_v ad))) H ↔ va_at D am_cl (a, .inr (o.1, o.2.map (am_v (fun k => ad (μ k))))) H
    rw [List.map_map, show (am_v ad ∘ am_v μ) = am_v (fun k => ad (μ k)) from funext fun v => am_vv ad μ v]
  | .inr (.inl x) => exact Iff.rfl
  | .inr (.inr x) =>
    have e : (fun j => va_rf (((x.2.map (fun o => o.map μ)).getD j none).map ad)) = (fun j => va_rf ((x.2.getD j none).map (fun k => ad (μ k)))) := by
      funext j
      rw [List.getD_eq_getElem?_getD, List.getD_eq_getElem?_getD, List.getElem?_map]
      cases x.2[j]? with
      | none => rfl
      | some o => cases o <;> rfl
    show (∃ (cA : ClassId) (q : vw_C), am_cl[x.1]? = some q ∧ (x.2.map (fun o => o.map μ)).length < 2147483648 ∧ H[a]? = some (arrV cA (x.2.map (fun o => o.map μ)).length (fun j => va_rf (((x.2.map (fun o => o.map μ)).getD j none).map ad))) ∧ ArrOfT U cA (.object q.1) ∧ va_RA U cA (.object q.1)) ↔ _
    rw [e, List.length_map]
    exact Iff.rfl
theorem am_refs_rc (μ : Nat → Nat) (c : am_C) : am_refs (am_rc μ c) = (am_refs c).map μ := by
  match c with
  | .inl o =>
    show List.filterMap _ (o.2.map (am_v μ)) = List.map μ (List.filterMap _ o.2)
    rw [List.filterMap_map, List.map_filterMap]
    exact congrArg (fun f => List.filterMap f o.2) (funext fun v => by cases v <;> rfl)
  | .inr (.inl x) => rfl
  | .inr (.inr x) =>
    show List.filterMap _ (x.2.map (fun o => o.map μ)) = List.map μ (List.filterMap _ x.2)
    rw [List.filterMap_map, List.map_filterMap]
    exact congrArg (fun f => List.filterMap f x.2) (funext fun v => by cases v <;> rfl)
def am_wr (c : am_C) : Bool := match c with
  | .inr (.inl x) => x.2.1
  | _ => true
theorem am_wr_rc (μ : Nat → Nat) (c : am_C) : am_wr (am_rc μ c) = am_wr c := by
  match c with
  | .inl o => rfl
  | .inr (.inl x) => rfl
  | .inr (.inr x) => rfl
def am_HR (D : va_G) (U : State) (ad : Nat → Nat) (h : am_H) (H : Heap) : Prop :=
  (∀ (k : Nat) (c : am_C), h[k]? = some (some c) → am_cell D U ad (ad k) H c) ∧ ∀ (j k : Nat) (c d : am_C), h[j]? = some (some c) → h[k]? = some (some d) → ad j = ad k → j = k
def am_FP (ad : Nat → Nat) (h : am_H) (sz : Nat) : Addr → Prop := fun q => (∃ (k : Nat) (c : am_C), h[k]? = some (some c) ∧ am_wr c = true ∧ q = ad k) ∨ sz ≤ q
def am_E (D : va_G) (A : Nat → Prop) (ad : Nat → Nat) (U : State) (H : Heap) : Prop :=
  va_K D am_cl [] U ∧ (∀ w ∈ am_nw, va_Nw w U) ∧ va_Z "PuppetPitches" "FIRST_SETTINGS" "[I" (.ref (ad 0)) A U H ∧ va_Z "PuppetPitches" "GREATEST_SETTINGS" "[I" (.ref (ad 1)) A U H
def am_new (h h1 : am_H) (k : Nat) : Prop := (∃ c, h1[k]? = some (some c)) ∧ ¬ ∃ c, h[k]? = some (some c)
def am_Pc (D : va_G) (ad : Nat → Nat) (sz : Nat) (h : am_H) (as : List Value) : Array Value → State → Prop := fun v U =>
  v = (as.map (am_v ad)).toArray ∧ U.heap.size = sz ∧ am_HR D U ad h U.heap ∧ am_E D (am_FP ad h sz) ad U U.heap
def am_Qc (D : va_G) (ad : Nat → Nat) (h : am_H) (P : Option Value → am_H → Prop) : Array Value → State → Outcome → State → Prop := fun _ st o t =>
  (∃ (r : Option Value) (h1 : am_H) (ad1 : Nat → Nat), P r h1 ∧ o = .returned (r.map (am_v ad1)) ∧ am_HR D t ad1 h1 t.heap ∧ (∀ k, ¬ am_new h h1 k → ad1 k = ad k) ∧ (∀ k, am_new h h1 k → st.heap.size ≤ ad1 k)) ∧ va_F (am_FP ad h st.heap.size) st t
/-- a method's contract: from the cells h and the arguments as, it returns r and leaves the cells h1, with P r h1 -/
def am_Sp (M : am_M) (as : List Value) (h : am_H) (P : Option Value → am_H → Prop) : Prop :=
  ∀ (l : Launch) (D : va_G) (ad : Nat → Nat) (sz : Nat), Met l (am_y M) (am_W M) (am_R M) (am_Pc D ad sz h as) (am_Qc D ad h P) (am_nc M) (am_ns M) (am_FP ad h sz)
/-! what stands in a frame -/
def am_lst (ad : Nat → Nat) (L : List (Option Value)) : List (Nat × Value) := (List.range L.length).filterMap (fun i => ((L[i]?).join).map (fun v => (i, am_v ad v)))
theorem am_mem {ad : Nat → Nat} {L : List (Option Value)} {q : Nat × Value} : q ∈ am_lst ad L ↔ ∃ v, L[q.1]? = some (some v) ∧ q.2 = am_v ad v := by
  constructor
  · intro h
    obtain ⟨i, -, hi⟩ := List.mem_filterMap.mp h
    cases hl : L[i]? with
    | none => rw [hl] at hi; cases hi
    | some o =>
      rw [hl] at hi
      cases o with
      | none => cases hi
      | some v => cases hi; exact ⟨v, hl, rfl⟩
  · rintro ⟨v, h1, h2⟩
    refine List.mem_filterMap.mpr ⟨q.1, List.mem_range.mpr (List.getElem?_eq_some_iff.mp h1).1, ?_⟩
    rw [h1]
    show some (q.1, am_v ad v) = some q
    rw [← h2]
def am_L (nL : Nat) (ad : Nat → Nat) (ls : Array Slot) (L : List (Option Value)) : Prop := lv_has ls nL (am_lst ad L)
theorem am_L.at {nL : Nat} {ad : Nat → Nat} {ls : Array Slot} {L : List (Option Value)} (h : am_L nL ad ls L) {i : Nat} {v : Value} (hv : L[i]? = some (some v)) : ls[i]? = some (.val (am_v ad v)) := h.2.2 (i, am_v ad v) (am_mem.mpr ⟨v, hv, rfl⟩)
theorem am_L.of {nL : Nat} {ad : Nat → Nat} {ls : Array Slot} {L : List (Option Value)} {l : List (Nat × Value)} (h : lv_has ls nL l) (hs : ∀ (i : Nat) (v : Value), L[i]? = some (some v) → (i, am_v ad v) ∈ l) : am_L nL ad ls L :=
  ⟨h.1, h.2.1, fun q hq => by
    obtain ⟨v, h1, h2⟩ := am_mem.mp hq
    have := h.2.2 _ (hs q.1 v h1)
    rw [h2]
    exact this⟩
theorem am_L.ad {nL : Nat} {ad ad1 : Nat → Nat} {ls : Array Slot} {L : List (Option Value)} (h : am_L nL ad ls L) (hv : ∀ (i : Nat) (v : Value), L[i]? = some (some v) → am_v ad1 v = am_v ad v) : am_L nL ad1 ls L :=
  am_L.of h fun i v hi => by rw [hv i v hi]; exact am_mem.mpr ⟨v, hi, rfl⟩
/-- no long stands before the place i -/
def am_ok1 (L : List (Option Value)) : Nat → Bool
  | 0 => true
  | j + 1 => match L[j]? with
    | some (some (.long _)) => false
    | some (some (.double _)) => false
    | _ => true
theorem am_ok1_spec {L : List (Option Value)} {i j : Nat} {v : Value} (h : am_ok1 L i = true) (hj : j + 1 = i) (hv : L[j]? = some (some v)) : v.category ≠ 2 := by
  subst hj
  simp only [am_ok1, hv] at h
  cases v <;> first | (intro q; cases q; done) | cases h
theorem am_L.set {nL : Nat} {ad : Nat → Nat} {ls' : Array Slot} {L : List (Option Value)} {i : Nat} {v : Value} (hok : am_ok1 L i = true) (h : lv_has ls' nL ((i, am_v ad v) :: (am_lst ad L).filter (fun q => !(q.1 == i) && !(q.1 + 1 == i && q.2.category == 2)))) : am_L nL ad ls' (L.set i (some v)) := by
  refine am_L.of h fun j w hj => ?_
  by_cases e : j = i
  · subst e
    rw [List.getElem?_set_self'] at hj
    cases hx : L[j]? with
    | none => rw [hx] at hj; cases hj
    | some o => rw [hx] at hj; cases hj; exact List.mem_cons_self
  · rw [List.getElem?_set_ne (Ne.symm e)] at hj
    refine List.mem_cons_of_mem _ (List.mem_filter.mpr ⟨am_mem.mpr ⟨w, hj, rfl⟩, ?_⟩)
    have e1 : (j == i) = false := by simpa using e
    simp only [e1, Bool.not_false, Bool.true_and, Bool.not_eq_true', Bool.and_eq_false_iff, beq_eq_false_iff_ne, ne_eq]
    by_cases e2 : j + 1 = i
    · exact Or.inr (by rw [am_vc]; exact am_ok1_spec hok e2 hj)
    · exact Or.inl e2
theorem am_L.set2 {nL : Nat} {ad : Nat → Nat} {ls' : Array Slot} {L : List (Option Value)} {i : Nat} {v : Value} (hok : am_ok1 L i = true) (h : lv_has ls' nL ((i, am_v ad v) :: (am_lst ad L).filter (fun q => !(q.1 == i) && (!(q.1 == i + 1) && !(q.1 + 1 == i && q.2.category == 2))))) : am_L nL ad ls' ((L.set i (some v)).set (i + 1) none) := by
  refine am_L.of h fun j w hj => ?_
  by_cases e0 : j = i + 1
  · subst e0
    rw [List.getElem?_set_self'] at hj
    cases hx : (L.set i (some v))[i + 1]? with
    | none => rw [hx] at hj; cases hj
    | some o => rw [hx] at hj; cases hj
  rw [List.getElem?_set_ne (Ne.symm e0)] at hj
  by_cases e : j = i
  · subst e
    rw [List.getElem?_set_self'] at hj
    cases hx : L[j]? with
    | none => rw [hx] at hj; cases hj
    | some o => rw [hx] at hj; cases hj; exact List.mem_cons_self
  · rw [List.getElem?_set_ne (Ne.symm e)] at hj
    refine List.mem_cons_of_mem _ (List.mem_filter.mpr ⟨am_mem.mpr ⟨w, hj, rfl⟩, ?_⟩)
    have e1 : (j == i) = false := by simpa using e
    have e3 : (j == i + 1) = false := by simpa using e0
    simp only [e1, e3, Bool.not_false, Bool.true_and, Bool.not_eq_true', Bool.and_eq_false_iff, beq_eq_false_iff_ne, ne_eq]
    by_cases e2 : j + 1 = i
    · exact Or.inr (by rw [am_vc]; exact am_ok1_spec hok e2 hj)
    · exact Or.inl e2
def am_ent0 : List Value → List (Option Value)
  | [] => []
  | v :: t => if v.category = 2 then some v :: none :: am_ent0 t else some v :: am_ent0 t
abbrev am_ent (as : List Value) (n : Nat) : List (Option Value) := am_ent0 as ++ List.replicate (n - (am_ent0 as).length) none
theorem am_ent0_in (ad : Nat → Nat) : ∀ (as : List Value) (k i : Nat) (v : Value), (am_ent0 as)[i]? = some (some v) → (k + i, am_v ad v) ∈ lv_args k (as.map (am_v ad))
  | [], k, i, v, h => by simp [am_ent0] at h
  | w :: t, k, i, v, h => by
    simp only [am_ent0] at h
    simp only [List.map_cons, lv_args, am_vc]
    by_cases hc : w.category = 2
    · rw [if_pos hc] at h
      rw [if_pos hc]
      match i, h with
      | 0, h => cases h; exact List.mem_cons_self
      | 1, h => cases h
      | i + 2, h =>
        have := am_ent0_in ad t (k + 2) i v h
        rw [show k + (i + 2) = k + 2 + i by omega]
        exact List.mem_cons_of_mem _ this
    · rw [if_neg hc] at h
      rw [if_neg hc]
      match i, h with
      | 0, h => cases h; exact List.mem_cons_self
      | i + 1, h =>
        have := am_ent0_in ad t (k + 1) i v h
        rw [show k + (i + 1) = k + 1 + i by omega]
        exact List.mem_cons_of_mem _ this
theorem am_ent_in {ad : Nat → Nat} {as : List Value} {n i : Nat} {v : Value} (h : (am_ent as n)[i]? = some (some v)) : (i, am_v ad v) ∈ lv_args 0 (as.map (am_v ad)) := by
  have h2 : (am_ent0 as)[i]? = some (some v) := by
    by_cases hi : i < (am_ent0 as).length
    · rw [List.getElem?_append_left hi] at h; exact h
    · rw [List.getElem?_append_right (by omega), List.getElem?_replicate] at h
      split at h <;> cases h
  have := am_ent0_in ad as 0 i v h2
  rw [Nat.zero_add] at this
  exact this
theorem am_nwarm {w : Cond} (hn : am_nest w = true) {s U : State} (hW : s.WarmedH U.vm) (h : va_Nw w s) : va_Nw w U := by
  cases w <;> first | (cases hn; done) | exact va_Nw.warmF hW h | exact va_Nw.warmM hW h | skip
  case arrayOver t =>
    cases t <;> first | (cases hn; done) | exact va_AO.moved hW.alike h
theorem am_uws {ci : Nat} {C : String} {T : u_T} {N : Nat} (h : am_cl[ci]? = some (C, T, N)) : ∀ w ∈ u_ws C T N, w ∈ am_ws := by
  match ci, h with
  | 0, h => cases h; exact am_in1
  | 1, h => cases h; exact am_in2
  | 2, h => cases h; exact am_in3
  | 3, h => cases h; exact am_in4
  | 4, h => cases h; exact am_in5
  | 5, h => cases h; exact am_in6
  | 6, h => cases h; exact am_in7
  | k + 7, h => simp [am_cl] at h
end
section
/-! THE JUDGEMENT of a method's body: from pc, locals L, stack S, cells h it comes to a return that satisfies P; kc, ks: cells and slots made so far -/
def am_St (h0 : am_H) (D : va_G) (s : State) (ad0 ad : Nat → Nat) (h : am_H) (H : Heap) (locs : List Loc) : Prop :=
  am_HR D s ad h H ∧ (∀ (k : Nat) (c : am_C), h0[k]? = some (some c) → ∃ c' : am_C, h[k]? = some (some c')) ∧ (∀ k : Nat, ¬ am_new h0 h k → ad k = ad0 k) ∧ (∀ k : Nat, am_new h0 h k → s.heap.size ≤ ad k) ∧
  (∀ (k : Nat) (c : am_C), h[k]? = some (some c) → am_wr c = true → am_FP ad0 h0 s.heap.size (ad k)) ∧ va_S (am_FP ad0 h0 s.heap.size) s.heap H locs ∧ am_E D (am_FP ad0 h0 s.heap.size) ad0 s s.heap ∧ ad 0 = ad0 0 ∧ ad 1 = ad0 1
def am_Cx (M : am_M) (p : Program) (R : Room) (s : State) (m : MethodId) (args : Array Value) (meth : Method) (c : Code) : Prop :=
  p.tables.exec = Jvm.exec ∧ c.code = am_b M ∧ c.maxLocals = am_n M ∧ s.vm.findClass (am_y M).cls = some m.cls ∧ (∀ w ∈ am_W M, w.before args s = true) ∧ meth.name = (am_y M).name ∧ (am_lv M ≤ R.frames ∧ 40 * am_lv M ≤ R.locals ∧ am_nc M ≤ R.cells ∧ am_ns M ≤ R.slots)
def am_ri (M : am_M) (pc : Nat) (r : Option Value) : Prop := match r with
  | none => am_r M = none ∧ decode (am_b M) pc = .ok (.return_, 1)
  | some (.int v) => (∃ ty : FieldType, am_r M = some ty ∧ narrow ty (.int v) = .int v) ∧ decode (am_b M) pc = .ok (.ireturn, 1)
  | some (.ref _) => (∃ n : String, am_r M = some (.object n)) ∧ decode (am_b M) pc = .ok (.areturn, 1)
  | _ => False
def am_Fin (M : am_M) (h0 : am_H) (P : Option Value → am_H → Prop) (p : Program) (l : Launch) (e : Env) (R : Room) (s : State) (m : MethodId) (args : Array Value) (below : List Frame) (meth : Method) (c : Code) (D : va_G) (ad0 : Nat → Nat) (Q : State → Prop) : Prop :=
  ∀ (r : Option Value) (h1 : am_H) (ad : Nat → Nat) (H : Heap) (locs : List Loc) (kc ks : Nat) (ls : Array Slot) (pc : Nat), kc ≤ am_nc M → ks ≤ am_ns M → P r h1 → am_St h0 D s ad0 ad h1 H locs → am_ri M pc r → W p l e R s m args below meth c H locs kc ks Q (F0 m pc ls (r.toList.map (am_v ad)))
def am_RW (M : am_M) (h0 : am_H) (P : Option Value → am_H → Prop) (kc ks pc : Nat) (L : List (Option Value)) (S : List Value) (h : am_H) : Prop :=
  ∀ (p : Program) (l : Launch) (e : Env) (R : Room) (s : State) (m : MethodId) (args : Array Value) (below : List Frame) (meth : Method) (c : Code) (D : va_G) (ad0 : Nat → Nat) (Q : State → Prop), am_Cx M p R s m args meth c → am_Fin M h0 P p l e R s m args below meth c D ad0 Q →
  ∀ (ad : Nat → Nat) (H : Heap) (locs : List Loc) (ls : Array Slot), am_St h0 D s ad0 ad h H locs → am_L (am_n M) ad ls L → W p l e R s m args below meth c H locs kc ks Q (F0 m pc ls (S.map (am_v ad)))
section
variable {M : am_M} {h0 : am_H} {P : Option Value → am_H → Prop} {kc ks pc : Nat} {L : List (Option Value)} {S : List Value} {h : am_H}
theorem ar_iconst {n : Int} {v : Int32} (d : decode (am_b M) pc = .ok (.iconst n, 1)) (hv : Int32.ofInt n = v) (k : am_RW M h0 P kc ks (pc + 1) L (.int v :: S) h) : am_RW M h0 P kc ks pc L S h := by
  intro p l e R s m args below meth c D ad0 Q C F ad H locs ls T Ll
  exact lv_iconst C.1 C.2.1 d hv (k p l e R s m args below meth c D ad0 Q C F ad H locs ls T Ll)
theorem ar_bipush {n : Int} {v : Int32} (d : decode (am_b M) pc = .ok (.bipush n, 2)) (hv : (Int8.ofInt n).toInt32 = v) (k : am_RW M h0 P kc ks (pc + 2) L (.int v :: S) h) : am_RW M h0 P kc ks pc L S h := by
  intro p l e R s m args below meth c D ad0 Q C F ad H locs ls T Ll
  exact lv_bipush C.1 C.2.1 d hv (k p l e R s m args below meth c D ad0 Q C F ad H locs ls T Ll)
theorem ar_sipush {n : Int} {v : Int32} (d : decode (am_b M) pc = .ok (.sipush n, 3)) (hv : (Int16.ofInt n).toInt32 = v) (k : am_RW M h0 P kc ks (pc + 3) L (.int v :: S) h) : am_RW M h0 P kc ks pc L S h := by
  intro p l e R s m args below meth c D ad0 Q C F ad H locs ls T Ll
  exact lv_sipush C.1 C.2.1 d hv (k p l e R s m args below meth c D ad0 Q C F ad H locs ls T Ll)
theorem ar_lconst {n : Fin 2} {v : Int64} (d : decode (am_b M) pc = .ok (.lconst n, 1)) (hv : Int64.ofNat (n : Nat) = v) (k : am_RW M h0 P kc ks (pc + 1) L (.long v :: S) h) : am_RW M h0 P kc ks pc L S h := by
  intro p l e R s m args below meth c D ad0 Q C F ad H locs ls T Ll
  exact lv_lconst C.1 C.2.1 d hv (k p l e R s m args below meth c D ad0 Q C F ad H locs ls T Ll)
theorem ar_iload_n {k0 : Fin 4} {i : Nat} {x : Int32} (d : decode (am_b M) pc = .ok (.iload_n k0, 1)) (hi : (k0 : Nat) = i) (hl : L[i]? = some (some (.int x))) (k : am_RW M h0 P kc ks (pc + 1) L (.int x :: S) h) : am_RW M h0 P kc ks pc L S h := by
  intro p l e R s m args below meth c D ad0 Q C F ad H locs ls T Ll
  exact lv_iload_n C.1 C.2.1 d hi (Ll.at hl) (k p l e R s m args below meth c D ad0 Q C F ad H locs ls T Ll)
theorem ar_iload {i : Nat} {x : Int32} (d : decode (am_b M) pc = .ok (.iload i, 2)) (hl : L[i]? = some (some (.int x))) (k : am_RW M h0 P kc ks (pc + 2) L (.int x :: S) h) : am_RW M h0 P kc ks pc L S h := by
  intro p l e R s m args below meth c D ad0 Q C F ad H locs ls T Ll
  exact lv_iload C.1 C.2.1 d (Ll.at hl) (k p l e R s m args below meth c D ad0 Q C F ad H locs ls T Ll)
theorem ar_lload_n {k0 : Fin 4} {i : Nat} {x : Int64} (d : decode (am_b M) pc = .ok (.lload_n k0, 1)) (hi : (k0 : Nat) = i) (hl : L[i]? = some (some (.long x))) (k : am_RW M h0 P kc ks (pc + 1) L (.long x :: S) h) : am_RW M h0 P kc ks pc L S h := by
  intro p l e R s m args below meth c D ad0 Q C F ad H locs ls T Ll
  exact lv_lload_n C.1 C.2.1 d hi (Ll.at hl) (k p l e R s m args below meth c D ad0 Q C F ad H locs ls T Ll)
theorem ar_lload {i : Nat} {x : Int64} (d : decode (am_b M) pc = .ok (.lload i, 2)) (hl : L[i]? = some (some (.long x))) (k : am_RW M h0 P kc ks (pc + 2) L (.long x :: S) h) : am_RW M h0 P kc ks pc L S h := by
  intro p l e R s m args below meth c D ad0 Q C F ad H locs ls T Ll
  exact lv_lload C.1 C.2.1 d (Ll.at hl) (k p l e R s m args below meth c D ad0 Q C F ad H locs ls T Ll)
theorem ar_aload_n {k0 : Fin 4} {i : Nat} {x : Nat} (d : decode (am_b M) pc = .ok (.aload_n k0, 1)) (hi : (k0 : Nat) = i) (hl : L[i]? = some (some (.ref x))) (k : am_RW M h0 P kc ks (pc + 1) L (.ref x :: S) h) : am_RW M h0 P kc ks pc L S h := by
  intro p l e R s m args below meth c D ad0 Q C F ad H locs ls T Ll
  exact lv_aload_n C.1 C.2.1 d hi (Ll.at hl) (k p l e R s m args below meth c D ad0 Q C F ad H locs ls T Ll)
theorem ar_aload {i : Nat} {x : Nat} (d : decode (am_b M) pc = .ok (.aload i, 2)) (hl : L[i]? = some (some (.ref x))) (k : am_RW M h0 P kc ks (pc + 2) L (.ref x :: S) h) : am_RW M h0 P kc ks pc L S h := by
  intro p l e R s m args below meth c D ad0 Q C F ad H locs ls T Ll
  exact lv_aload C.1 C.2.1 d (Ll.at hl) (k p l e R s m args below meth c D ad0 Q C F ad H locs ls T Ll)
theorem ar_aload_nN {k0 : Fin 4} {i : Nat} (d : decode (am_b M) pc = .ok (.aload_n k0, 1)) (hi : (k0 : Nat) = i) (hl : L[i]? = some (some .null)) (k : am_RW M h0 P kc ks (pc + 1) L (.null :: S) h) : am_RW M h0 P kc ks pc L S h := by
  intro p l e R s m args below meth c D ad0 Q C F ad H locs ls T Ll
  exact lv_aload_nN C.1 C.2.1 d hi (Ll.at hl) (k p l e R s m args below meth c D ad0 Q C F ad H locs ls T Ll)
theorem ar_iadd {x y : Int32} (d : decode (am_b M) pc = .ok (.iadd, 1)) (k : am_RW M h0 P kc ks (pc + 1) L (.int (x + y) :: S) h) : am_RW M h0 P kc ks pc L (.int y :: .int x :: S) h := by
  intro p l e R s m args below meth c D ad0 Q C F ad H locs ls T Ll
  exact lv_iadd C.1 C.2.1 d (k p l e R s m args below meth c D ad0 Q C F ad H locs ls T Ll)
theorem ar_isub {x y : Int32} (d : decode (am_b M) pc = .ok (.isub, 1)) (k : am_RW M h0 P kc ks (pc + 1) L (.int (x - y) :: S) h) : am_RW M h0 P kc ks pc L (.int y :: .int x :: S) h := by
  intro p l e R s m args below meth c D ad0 Q C F ad H locs ls T Ll
  exact lv_isub C.1 C.2.1 d (k p l e R s m args below meth c D ad0 Q C F ad H locs ls T Ll)
theorem ar_imul {x y : Int32} (d : decode (am_b M) pc = .ok (.imul, 1)) (k : am_RW M h0 P kc ks (pc + 1) L (.int (x * y) :: S) h) : am_RW M h0 P kc ks pc L (.int y :: .int x :: S) h := by
  intro p l e R s m args below meth c D ad0 Q C F ad H locs ls T Ll
  exact lv_imul C.1 C.2.1 d (k p l e R s m args below meth c D ad0 Q C F ad H locs ls T Ll)
theorem ar_iand {x y : Int32} (d : decode (am_b M) pc = .ok (.iand, 1)) (k : am_RW M h0 P kc ks (pc + 1) L (.int (x &&& y) :: S) h) : am_RW M h0 P kc ks pc L (.int y :: .int x :: S) h := by
  intro p l e R s m args below meth c D ad0 Q C F ad H locs ls T Ll
  exact lv_iand C.1 C.2.1 d (k p l e R s m args below meth c D ad0 Q C F ad H locs ls T Ll)
theorem ar_ior {x y : Int32} (d : decode (am_b M) pc = .ok (.ior, 1)) (k : am_RW M h0 P kc ks (pc + 1) L (.int (x ||| y) :: S) h) : am_RW M h0 P kc ks pc L (.int y :: .int x :: S) h := by
  intro p l e R s m args below meth c D ad0 Q C F ad H locs ls T Ll
  exact lv_ior C.1 C.2.1 d (k p l e R s m args below meth c D ad0 Q C F ad H locs ls T Ll)
theorem ar_ixor {x y : Int32} (d : decode (am_b M) pc = .ok (.ixor, 1)) (k : am_RW M h0 P kc ks (pc + 1) L (.int (x ^^^ y) :: S) h) : am_RW M h0 P kc ks pc L (.int y :: .int x :: S) h := by
  intro p l e R s m args below meth c D ad0 Q C F ad H locs ls T Ll
  exact lv_ixor C.1 C.2.1 d (k p l e R s m args below meth c D ad0 Q C F ad H locs ls T Ll)
theorem ar_ishl {x y : Int32} (d : decode (am_b M) pc = .ok (.ishl, 1)) (k : am_RW M h0 P kc ks (pc + 1) L (.int (x <<< (y &&& 31)) :: S) h) : am_RW M h0 P kc ks pc L (.int y :: .int x :: S) h := by
  intro p l e R s m args below meth c D ad0 Q C F ad H locs ls T Ll
  exact lv_ishl C.1 C.2.1 d (k p l e R s m args below meth c D ad0 Q C F ad H locs ls T Ll)
theorem ar_ishr {x y : Int32} (d : decode (am_b M) pc = .ok (.ishr, 1)) (k : am_RW M h0 P kc ks (pc + 1) L (.int (x >>> (y &&& 31)) :: S) h) : am_RW M h0 P kc ks pc L (.int y :: .int x :: S) h := by
  intro p l e R s m args below meth c D ad0 Q C F ad H locs ls T Ll
  exact lv_ishr C.1 C.2.1 d (k p l e R s m args below meth c D ad0 Q C F ad H locs ls T Ll)
theorem ar_idiv {x y : Int32} (d : decode (am_b M) pc = .ok (.idiv, 1)) (hne : ¬ y = 0) (k : am_RW M h0 P kc ks (pc + 1) L (.int (x / y) :: S) h) : am_RW M h0 P kc ks pc L (.int y :: .int x :: S) h := by
  intro p l e R s m args below meth c D ad0 Q C F ad H locs ls T Ll
  exact lv_idiv C.1 C.2.1 d hne (k p l e R s m args below meth c D ad0 Q C F ad H locs ls T Ll)
theorem ar_irem {x y : Int32} (d : decode (am_b M) pc = .ok (.irem, 1)) (hne : ¬ y = 0) (k : am_RW M h0 P kc ks (pc + 1) L (.int (x - x / y * y) :: S) h) : am_RW M h0 P kc ks pc L (.int y :: .int x :: S) h := by
  intro p l e R s m args below meth c D ad0 Q C F ad H locs ls T Ll
  exact lv_irem C.1 C.2.1 d hne (k p l e R s m args below meth c D ad0 Q C F ad H locs ls T Ll)
theorem ar_ineg {x : Int32} (d : decode (am_b M) pc = .ok (.ineg, 1)) (k : am_RW M h0 P kc ks (pc + 1) L (.int (-x) :: S) h) : am_RW M h0 P kc ks pc L (.int x :: S) h := by
  intro p l e R s m args below meth c D ad0 Q C F ad H locs ls T Ll
  exact lv_ineg C.1 C.2.1 d (k p l e R s m args below meth c D ad0 Q C F ad H locs ls T Ll)
theorem ar_ladd {x y : Int64} (d : decode (am_b M) pc = .ok (.ladd, 1)) (k : am_RW M h0 P kc ks (pc + 1) L (.long (x + y) :: S) h) : am_RW M h0 P kc ks pc L (.long y :: .long x :: S) h := by
  intro p l e R s m args below meth c D ad0 Q C F ad H locs ls T Ll
  exact lv_ladd C.1 C.2.1 d (k p l e R s m args below meth c D ad0 Q C F ad H locs ls T Ll)
theorem ar_lsub {x y : Int64} (d : decode (am_b M) pc = .ok (.lsub, 1)) (k : am_RW M h0 P kc ks (pc + 1) L (.long (x - y) :: S) h) : am_RW M h0 P kc ks pc L (.long y :: .long x :: S) h := by
  intro p l e R s m args below meth c D ad0 Q C F ad H locs ls T Ll
  exact lv_lsub C.1 C.2.1 d (k p l e R s m args below meth c D ad0 Q C F ad H locs ls T Ll)
theorem ar_lmul {x y : Int64} (d : decode (am_b M) pc = .ok (.lmul, 1)) (k : am_RW M h0 P kc ks (pc + 1) L (.long (x * y) :: S) h) : am_RW M h0 P kc ks pc L (.long y :: .long x :: S) h := by
  intro p l e R s m args below meth c D ad0 Q C F ad H locs ls T Ll
  exact lv_lmul C.1 C.2.1 d (k p l e R s m args below meth c D ad0 Q C F ad H locs ls T Ll)
theorem ar_land {x y : Int64} (d : decode (am_b M) pc = .ok (.land, 1)) (k : am_RW M h0 P kc ks (pc + 1) L (.long (x &&& y) :: S) h) : am_RW M h0 P kc ks pc L (.long y :: .long x :: S) h := by
  intro p l e R s m args below meth c D ad0 Q C F ad H locs ls T Ll
  exact lv_land C.1 C.2.1 d (k p l e R s m args below meth c D ad0 Q C F ad H locs ls T Ll)
theorem ar_lor {x y : Int64} (d : decode (am_b M) pc = .ok (.lor, 1)) (k : am_RW M h0 P kc ks (pc + 1) L (.long (x ||| y) :: S) h) : am_RW M h0 P kc ks pc L (.long y :: .long x :: S) h := by
  intro p l e R s m args below meth c D ad0 Q C F ad H locs ls T Ll
  exact lv_lor C.1 C.2.1 d (k p l e R s m args below meth c D ad0 Q C F ad H locs ls T Ll)
theorem ar_lxor {x y : Int64} (d : decode (am_b M) pc = .ok (.lxor, 1)) (k : am_RW M h0 P kc ks (pc + 1) L (.long (x ^^^ y) :: S) h) : am_RW M h0 P kc ks pc L (.long y :: .long x :: S) h := by
  intro p l e R s m args below meth c D ad0 Q C F ad H locs ls T Ll
  exact lv_lxor C.1 C.2.1 d (k p l e R s m args below meth c D ad0 Q C F ad H locs ls T Ll)
theorem ar_ldiv {x y : Int64} (d : decode (am_b M) pc = .ok (.ldiv, 1)) (hne : ¬ y = 0) (k : am_RW M h0 P kc ks (pc + 1) L (.long (x / y) :: S) h) : am_RW M h0 P kc ks pc L (.long y :: .long x :: S) h := by
  intro p l e R s m args below meth c D ad0 Q C F ad H locs ls T Ll
  exact lv_ldiv C.1 C.2.1 d hne (k p l e R s m args below meth c D ad0 Q C F ad H locs ls T Ll)
theorem ar_lrem {x y : Int64} (d : decode (am_b M) pc = .ok (.lrem, 1)) (hne : ¬ y = 0) (k : am_RW M h0 P kc ks (pc + 1) L (.long (x - x / y * y) :: S) h) : am_RW M h0 P kc ks pc L (.long y :: .long x :: S) h := by
  intro p l e R s m args below meth c D ad0 Q C F ad H locs ls T Ll
  exact lv_lrem C.1 C.2.1 d hne (k p l e R s m args below meth c D ad0 Q C F ad H locs ls T Ll)
theorem ar_iushr {x y : Int32} (d : decode (am_b M) pc = .ok (.iushr, 1)) (k : am_RW M h0 P kc ks (pc + 1) L (.int (x.toUInt32 >>> (y.toUInt32 &&& Int32.toUInt32 31)).toInt32 :: S) h) : am_RW M h0 P kc ks pc L (.int y :: .int x :: S) h := by
  intro p l e R s m args below meth c D ad0 Q C F ad H locs ls T Ll
  exact lv_iushr C.1 C.2.1 d rfl (k p l e R s m args below meth c D ad0 Q C F ad H locs ls T Ll)
theorem ar_lushr {x : Int64} {y : Int32} (d : decode (am_b M) pc = .ok (.lushr, 1)) (k : am_RW M h0 P kc ks (pc + 1) L (.long (x.toUInt64 >>> (y.toInt64.toUInt64 &&& Int64.toUInt64 63)).toInt64 :: S) h) : am_RW M h0 P kc ks pc L (.int y :: .long x :: S) h := by
  intro p l e R s m args below meth c D ad0 Q C F ad H locs ls T Ll
  exact lv_lushr C.1 C.2.1 d rfl (k p l e R s m args below meth c D ad0 Q C F ad H locs ls T Ll)
theorem ar_lshl {x : Int64} {y : Int32} (d : decode (am_b M) pc = .ok (.lshl, 1)) (k : am_RW M h0 P kc ks (pc + 1) L (.long (x <<< (y.toInt64 &&& 63)) :: S) h) : am_RW M h0 P kc ks pc L (.int y :: .long x :: S) h := by
  intro p l e R s m args below meth c D ad0 Q C F ad H locs ls T Ll
  exact lv_lshl C.1 C.2.1 d rfl (k p l e R s m args below meth c D ad0 Q C F ad H locs ls T Ll)
theorem ar_lshr {x : Int64} {y : Int32} (d : decode (am_b M) pc = .ok (.lshr, 1)) (k : am_RW M h0 P kc ks (pc + 1) L (.long (x >>> (y.toInt64 &&& 63)) :: S) h) : am_RW M h0 P kc ks pc L (.int y :: .long x :: S) h := by
  intro p l e R s m args below meth c D ad0 Q C F ad H locs ls T Ll
  exact lv_lshr C.1 C.2.1 d rfl (k p l e R s m args below meth c D ad0 Q C F ad H locs ls T Ll)
theorem ar_i2l {x : Int32} (d : decode (am_b M) pc = .ok (.i2l, 1)) (k : am_RW M h0 P kc ks (pc + 1) L (.long x.toInt64 :: S) h) : am_RW M h0 P kc ks pc L (.int x :: S) h := by
  intro p l e R s m args below meth c D ad0 Q C F ad H locs ls T Ll
  exact lv_i2l C.1 C.2.1 d rfl (k p l e R s m args below meth c D ad0 Q C F ad H locs ls T Ll)
theorem ar_l2i {x : Int64} (d : decode (am_b M) pc = .ok (.l2i, 1)) (k : am_RW M h0 P kc ks (pc + 1) L (.int x.toInt32 :: S) h) : am_RW M h0 P kc ks pc L (.long x :: S) h := by
  intro p l e R s m args below meth c D ad0 Q C F ad H locs ls T Ll
  exact lv_l2i C.1 C.2.1 d rfl (k p l e R s m args below meth c D ad0 Q C F ad H locs ls T Ll)
theorem ar_i2c {x : Int32} (d : decode (am_b M) pc = .ok (.i2c, 1)) (k : am_RW M h0 P kc ks (pc + 1) L (.int (x.toUInt32 % 65536).toInt32 :: S) h) : am_RW M h0 P kc ks pc L (.int x :: S) h := by
  intro p l e R s m args below meth c D ad0 Q C F ad H locs ls T Ll
  exact lv_i2c C.1 C.2.1 d rfl (k p l e R s m args below meth c D ad0 Q C F ad H locs ls T Ll)
theorem ar_dup {v : Value} (d : decode (am_b M) pc = .ok (.dup, 1)) (hc : v.category = 1) (k : am_RW M h0 P kc ks (pc + 1) L (v :: v :: S) h) : am_RW M h0 P kc ks pc L (v :: S) h := by
  intro p l e R s m args below meth c D ad0 Q C F ad H locs ls T Ll
  exact lv_dup C.1 C.2.1 d ((am_vc ad v).trans hc) (k p l e R s m args below meth c D ad0 Q C F ad H locs ls T Ll)
theorem ar_pop {v : Value} (d : decode (am_b M) pc = .ok (.pop, 1)) (hc : v.category = 1) (k : am_RW M h0 P kc ks (pc + 1) L S h) : am_RW M h0 P kc ks pc L (v :: S) h := by
  intro p l e R s m args below meth c D ad0 Q C F ad H locs ls T Ll
  exact lv_pop C.1 C.2.1 d ((am_vc ad v).trans hc) (k p l e R s m args below meth c D ad0 Q C F ad H locs ls T Ll)
theorem ar_dup2 {v w : Value} (d : decode (am_b M) pc = .ok (.dup2, 1)) (hc : v.category = 1) (hd : w.category = 1) (k : am_RW M h0 P kc ks (pc + 1) L (v :: w :: v :: w :: S) h) : am_RW M h0 P kc ks pc L (v :: w :: S) h := by
  intro p l e R s m args below meth c D ad0 Q C F ad H locs ls T Ll
  exact lv_dup2_11 C.1 C.2.1 d ((am_vc ad v).trans hc) ((am_vc ad w).trans hd) (k p l e R s m args below meth c D ad0 Q C F ad H locs ls T Ll)
theorem ar_lcmp {x y : Int64} (d : decode (am_b M) pc = .ok (.lcmp, 1)) (k : am_RW M h0 P kc ks (pc + 1) L (.int (lg_cmp x y) :: S) h) : am_RW M h0 P kc ks pc L (.long y :: .long x :: S) h := by
  intro p l e R s m args below meth c D ad0 Q C F ad H locs ls T Ll
  exact W.lcmp C.1 C.2.1 d (k p l e R s m args below meth c D ad0 Q C F ad H locs ls T Ll)
theorem ar_istore_n {k0 : Fin 4} {i : Nat} {x : Int32} (d : decode (am_b M) pc = .ok (.istore_n k0, 1)) (hi : (k0 : Nat) = i) (hn : i < am_n M) (ho : am_ok1 L i = true) (k : am_RW M h0 P kc ks (pc + 1) (L.set i (some (.int x))) S h) : am_RW M h0 P kc ks pc L (.int x :: S) h := by
  intro p l e R s m args below meth c D ad0 Q C F ad H locs ls T Ll
  exact lv_istore_n C.1 C.2.1 d hi Ll hn rfl (fun ls hl => k p l e R s m args below meth c D ad0 Q C F ad H locs ls T (am_L.set (v := .int x) ho hl))
theorem ar_istore {i : Nat} {x : Int32} (d : decode (am_b M) pc = .ok (.istore i, 2)) (hn : i < am_n M) (ho : am_ok1 L i = true) (k : am_RW M h0 P kc ks (pc + 2) (L.set i (some (.int x))) S h) : am_RW M h0 P kc ks pc L (.int x :: S) h := by
  intro p l e R s m args below meth c D ad0 Q C F ad H locs ls T Ll
  exact lv_istore C.1 C.2.1 d Ll hn rfl (fun ls hl => k p l e R s m args below meth c D ad0 Q C F ad H locs ls T (am_L.set (v := .int x) ho hl))
theorem ar_astore_n {k0 : Fin 4} {i : Nat} {x : Nat} (d : decode (am_b M) pc = .ok (.astore_n k0, 1)) (hi : (k0 : Nat) = i) (hn : i < am_n M) (ho : am_ok1 L i = true) (k : am_RW M h0 P kc ks (pc + 1) (L.set i (some (.ref x))) S h) : am_RW M h0 P kc ks pc L (.ref x :: S) h := by
  intro p l e R s m args below meth c D ad0 Q C F ad H locs ls T Ll
  exact lv_astore_n C.1 C.2.1 d hi Ll hn rfl (fun ls hl => k p l e R s m args below meth c D ad0 Q C F ad H locs ls T (am_L.set (v := .ref x) ho hl))
theorem ar_astore {i : Nat} {x : Nat} (d : decode (am_b M) pc = .ok (.astore i, 2)) (hn : i < am_n M) (ho : am_ok1 L i = true) (k : am_RW M h0 P kc ks (pc + 2) (L.set i (some (.ref x))) S h) : am_RW M h0 P kc ks pc L (.ref x :: S) h := by
  intro p l e R s m args below meth c D ad0 Q C F ad H locs ls T Ll
  exact lv_astore C.1 C.2.1 d Ll hn rfl (fun ls hl => k p l e R s m args below meth c D ad0 Q C F ad H locs ls T (am_L.set (v := .ref x) ho hl))
theorem ar_astore_nN {k0 : Fin 4} {i : Nat} (d : decode (am_b M) pc = .ok (.astore_n k0, 1)) (hi : (k0 : Nat) = i) (hn : i < am_n M) (ho : am_ok1 L i = true) (k : am_RW M h0 P kc ks (pc + 1) (L.set i (some .null)) S h) : am_RW M h0 P kc ks pc L (.null :: S) h := by
  intro p l e R s m args below meth c D ad0 Q C F ad H locs ls T Ll
  exact lv_astore_nN C.1 C.2.1 d hi Ll hn rfl (fun ls hl => k p l e R s m args below meth c D ad0 Q C F ad H locs ls T (am_L.set (v := .null) ho hl))
theorem ar_lstore_n {k0 : Fin 4} {i : Nat} {x : Int64} (d : decode (am_b M) pc = .ok (.lstore_n k0, 1)) (hi : (k0 : Nat) = i) (hn : i + 1 < am_n M) (ho : am_ok1 L i = true) (k : am_RW M h0 P kc ks (pc + 1) ((L.set i (some (.long x))).set (i + 1) none) S h) : am_RW M h0 P kc ks pc L (.long x :: S) h := by
  intro p l e R s m args below meth c D ad0 Q C F ad H locs ls T Ll
  exact lv_lstore_n C.1 C.2.1 d hi Ll hn rfl (fun ls hl => k p l e R s m args below meth c D ad0 Q C F ad H locs ls T (am_L.set2 (v := .long x) ho hl))
theorem ar_lstore {i : Nat} {x : Int64} (d : decode (am_b M) pc = .ok (.lstore i, 2)) (hn : i + 1 < am_n M) (ho : am_ok1 L i = true) (k : am_RW M h0 P kc ks (pc + 2) ((L.set i (some (.long x))).set (i + 1) none) S h) : am_RW M h0 P kc ks pc L (.long x :: S) h := by
  intro p l e R s m args below meth c D ad0 Q C F ad H locs ls T Ll
  exact lv_lstore C.1 C.2.1 d Ll hn rfl (fun ls hl => k p l e R s m args below meth c D ad0 Q C F ad H locs ls T (am_L.set2 (v := .long x) ho hl))
theorem ar_iinc {i : Nat} {n : Int} {x v : Int32} (d : decode (am_b M) pc = .ok (.iinc i n, 3)) (hl : L[i]? = some (some (.int x))) (hv : x + Int32.ofInt n = v) (hn : i < am_n M) (ho : am_ok1 L i = true) (k : am_RW M h0 P kc ks (pc + 3) (L.set i (some (.int v))) S h) : am_RW M h0 P kc ks pc L S h := by
  intro p l e R s m args below meth c D ad0 Q C F ad H locs ls T Ll
  obtain ⟨j, hj⟩ := List.getElem?_of_mem (am_mem (ad := ad) (q := (i, .int x)).mpr ⟨.int x, hl, rfl⟩)
  exact lv_iinc C.1 C.2.1 d Ll hj hv hn rfl (fun ls hl => k p l e R s m args below meth c D ad0 Q C F ad H locs ls T (am_L.set (v := .int v) ho hl))
theorem ar_if_eq {x : Int32} {off : Int} {tgt : Nat} (d : decode (am_b M) pc = .ok (.ifCond .eq off, 3)) (ht : (pc : Int) + off = (tgt : Int)) (kt : x = 0 → am_RW M h0 P kc ks tgt L S h) (kf : ¬ x = 0 → am_RW M h0 P kc ks (pc + 3) L S h) : am_RW M h0 P kc ks pc L (.int x :: S) h := by
  intro p l e R s m args below meth c D ad0 Q C F ad H locs ls T Ll
  exact lv_if_eq C.1 C.2.1 d ht (fun hc => kt hc p l e R s m args below meth c D ad0 Q C F ad H locs ls T Ll) (fun hc => kf hc p l e R s m args below meth c D ad0 Q C F ad H locs ls T Ll)
theorem ar_if_ne {x : Int32} {off : Int} {tgt : Nat} (d : decode (am_b M) pc = .ok (.ifCond .ne off, 3)) (ht : (pc : Int) + off = (tgt : Int)) (kt : ¬ x = 0 → am_RW M h0 P kc ks tgt L S h) (kf : x = 0 → am_RW M h0 P kc ks (pc + 3) L S h) : am_RW M h0 P kc ks pc L (.int x :: S) h := by
  intro p l e R s m args below meth c D ad0 Q C F ad H locs ls T Ll
  exact lv_if_ne C.1 C.2.1 d ht (fun hc => kt hc p l e R s m args below meth c D ad0 Q C F ad H locs ls T Ll) (fun hc => kf hc p l e R s m args below meth c D ad0 Q C F ad H locs ls T Ll)
theorem ar_if_lt {x : Int32} {off : Int} {tgt : Nat} (d : decode (am_b M) pc = .ok (.ifCond .lt off, 3)) (ht : (pc : Int) + off = (tgt : Int)) (kt : x < 0 → am_RW M h0 P kc ks tgt L S h) (kf : ¬ x < 0 → am_RW M h0 P kc ks (pc + 3) L S h) : am_RW M h0 P kc ks pc L (.int x :: S) h := by
  intro p l e R s m args below meth c D ad0 Q C F ad H locs ls T Ll
  exact lv_if_lt C.1 C.2.1 d ht (fun hc => kt hc p l e R s m args below meth c D ad0 Q C F ad H locs ls T Ll) (fun hc => kf hc p l e R s m args below meth c D ad0 Q C F ad H locs ls T Ll)
theorem ar_if_ge {x : Int32} {off : Int} {tgt : Nat} (d : decode (am_b M) pc = .ok (.ifCond .ge off, 3)) (ht : (pc : Int) + off = (tgt : Int)) (kt : 0 ≤ x → am_RW M h0 P kc ks tgt L S h) (kf : ¬ 0 ≤ x → am_RW M h0 P kc ks (pc + 3) L S h) : am_RW M h0 P kc ks pc L (.int x :: S) h := by
  intro p l e R s m args below meth c D ad0 Q C F ad H locs ls T Ll
  exact lv_if_ge C.1 C.2.1 d ht (fun hc => kt hc p l e R s m args below meth c D ad0 Q C F ad H locs ls T Ll) (fun hc => kf hc p l e R s m args below meth c D ad0 Q C F ad H locs ls T Ll)
theorem ar_if_gt {x : Int32} {off : Int} {tgt : Nat} (d : decode (am_b M) pc = .ok (.ifCond .gt off, 3)) (ht : (pc : Int) + off = (tgt : Int)) (kt : 0 < x → am_RW M h0 P kc ks tgt L S h) (kf : ¬ 0 < x → am_RW M h0 P kc ks (pc + 3) L S h) : am_RW M h0 P kc ks pc L (.int x :: S) h := by
  intro p l e R s m args below meth c D ad0 Q C F ad H locs ls T Ll
  exact lv_if_gt C.1 C.2.1 d ht (fun hc => kt hc p l e R s m args below meth c D ad0 Q C F ad H locs ls T Ll) (fun hc => kf hc p l e R s m args below meth c D ad0 Q C F ad H locs ls T Ll)
theorem ar_if_le {x : Int32} {off : Int} {tgt : Nat} (d : decode (am_b M) pc = .ok (.ifCond .le off, 3)) (ht : (pc : Int) + off = (tgt : Int)) (kt : x ≤ 0 → am_RW M h0 P kc ks tgt L S h) (kf : ¬ x ≤ 0 → am_RW M h0 P kc ks (pc + 3) L S h) : am_RW M h0 P kc ks pc L (.int x :: S) h := by
  intro p l e R s m args below meth c D ad0 Q C F ad H locs ls T Ll
  exact lv_if_le C.1 C.2.1 d ht (fun hc => kt hc p l e R s m args below meth c D ad0 Q C F ad H locs ls T Ll) (fun hc => kf hc p l e R s m args below meth c D ad0 Q C F ad H locs ls T Ll)
theorem ar_icmp_eq {x y : Int32} {off : Int} {tgt : Nat} (d : decode (am_b M) pc = .ok (.if_icmp .eq off, 3)) (ht : (pc : Int) + off = (tgt : Int)) (kt : x = y → am_RW M h0 P kc ks tgt L S h) (kf : ¬ x = y → am_RW M h0 P kc ks (pc + 3) L S h) : am_RW M h0 P kc ks pc L (.int y :: .int x :: S) h := by
  intro p l e R s m args below meth c D ad0 Q C F ad H locs ls T Ll
  exact lv_icmp_eq C.1 C.2.1 d ht (fun hc => kt hc p l e R s m args below meth c D ad0 Q C F ad H locs ls T Ll) (fun hc => kf hc p l e R s m args below meth c D ad0 Q C F ad H locs ls T Ll)
theorem ar_icmp_ne {x y : Int32} {off : Int} {tgt : Nat} (d : decode (am_b M) pc = .ok (.if_icmp .ne off, 3)) (ht : (pc : Int) + off = (tgt : Int)) (kt : ¬ x = y → am_RW M h0 P kc ks tgt L S h) (kf : x = y → am_RW M h0 P kc ks (pc + 3) L S h) : am_RW M h0 P kc ks pc L (.int y :: .int x :: S) h := by
  intro p l e R s m args below meth c D ad0 Q C F ad H locs ls T Ll
  exact lv_icmp_ne C.1 C.2.1 d ht (fun hc => kt hc p l e R s m args below meth c D ad0 Q C F ad H locs ls T Ll) (fun hc => kf hc p l e R s m args below meth c D ad0 Q C F ad H locs ls T Ll)
theorem ar_icmp_lt {x y : Int32} {off : Int} {tgt : Nat} (d : decode (am_b M) pc = .ok (.if_icmp .lt off, 3)) (ht : (pc : Int) + off = (tgt : Int)) (kt : x < y → am_RW M h0 P kc ks tgt L S h) (kf : ¬ x < y → am_RW M h0 P kc ks (pc + 3) L S h) : am_RW M h0 P kc ks pc L (.int y :: .int x :: S) h := by
  intro p l e R s m args below meth c D ad0 Q C F ad H locs ls T Ll
  exact lv_icmp_lt C.1 C.2.1 d ht (fun hc => kt hc p l e R s m args below meth c D ad0 Q C F ad H locs ls T Ll) (fun hc => kf hc p l e R s m args below meth c D ad0 Q C F ad H locs ls T Ll)
theorem ar_icmp_ge {x y : Int32} {off : Int} {tgt : Nat} (d : decode (am_b M) pc = .ok (.if_icmp .ge off, 3)) (ht : (pc : Int) + off = (tgt : Int)) (kt : y ≤ x → am_RW M h0 P kc ks tgt L S h) (kf : ¬ y ≤ x → am_RW M h0 P kc ks (pc + 3) L S h) : am_RW M h0 P kc ks pc L (.int y :: .int x :: S) h := by
  intro p l e R s m args below meth c D ad0 Q C F ad H locs ls T Ll
  exact lv_icmp_ge C.1 C.2.1 d ht (fun hc => kt hc p l e R s m args below meth c D ad0 Q C F ad H locs ls T Ll) (fun hc => kf hc p l e R s m args below meth c D ad0 Q C F ad H locs ls T Ll)
theorem ar_icmp_gt {x y : Int32} {off : Int} {tgt : Nat} (d : decode (am_b M) pc = .ok (.if_icmp .gt off, 3)) (ht : (pc : Int) + off = (tgt : Int)) (kt : y < x → am_RW M h0 P kc ks tgt L S h) (kf : ¬ y < x → am_RW M h0 P kc ks (pc + 3) L S h) : am_RW M h0 P kc ks pc L (.int y :: .int x :: S) h := by
  intro p l e R s m args below meth c D ad0 Q C F ad H locs ls T Ll
  exact lv_icmp_gt C.1 C.2.1 d ht (fun hc => kt hc p l e R s m args below meth c D ad0 Q C F ad H locs ls T Ll) (fun hc => kf hc p l e R s m args below meth c D ad0 Q C F ad H locs ls T Ll)
theorem ar_icmp_le {x y : Int32} {off : Int} {tgt : Nat} (d : decode (am_b M) pc = .ok (.if_icmp .le off, 3)) (ht : (pc : Int) + off = (tgt : Int)) (kt : x ≤ y → am_RW M h0 P kc ks tgt L S h) (kf : ¬ x ≤ y → am_RW M h0 P kc ks (pc + 3) L S h) : am_RW M h0 P kc ks pc L (.int y :: .int x :: S) h := by
  intro p l e R s m args below meth c D ad0 Q C F ad H locs ls T Ll
  exact lv_icmp_le C.1 C.2.1 d ht (fun hc => kt hc p l e R s m args below meth c D ad0 Q C F ad H locs ls T Ll) (fun hc => kf hc p l e R s m args below meth c D ad0 Q C F ad H locs ls T Ll)
theorem ar_goto {off : Int} {tgt : Nat} (d : decode (am_b M) pc = .ok (.goto off, 3)) (ht : (pc : Int) + off = (tgt : Int)) (k : am_RW M h0 P kc ks tgt L S h) : am_RW M h0 P kc ks pc L S h := by
  intro p l e R s m args below meth c D ad0 Q C F ad H locs ls T Ll
  exact lv_goto C.1 C.2.1 d ht (k p l e R s m args below meth c D ad0 Q C F ad H locs ls T Ll)
theorem ar_ifnonnull {x : Nat} {off : Int} {tgt : Nat} (d : decode (am_b M) pc = .ok (.ifnonnull off, 3)) (ht : (pc : Int) + off = (tgt : Int)) (k : am_RW M h0 P kc ks tgt L S h) : am_RW M h0 P kc ks pc L (.ref x :: S) h := by
  intro p l e R s m args below meth c D ad0 Q C F ad H locs ls T Ll
  exact lv_ifnonnull C.1 C.2.1 d ht (k p l e R s m args below meth c D ad0 Q C F ad H locs ls T Ll)
theorem ar_ifnonnullN {off : Int} (d : decode (am_b M) pc = .ok (.ifnonnull off, 3)) (k : am_RW M h0 P kc ks (pc + 3) L S h) : am_RW M h0 P kc ks pc L (.null :: S) h := by
  intro p l e R s m args below meth c D ad0 Q C F ad H locs ls T Ll
  exact lv_ifnonnullN C.1 C.2.1 d (k p l e R s m args below meth c D ad0 Q C F ad H locs ls T Ll)
theorem ar_tsOut {dflt lo hi : Int} {offs : Array Int} {len : Nat} {x : Int32} {tgt : Nat} (d : decode (am_b M) pc = .ok (.tableswitch dflt lo hi offs, len)) (hh : x.toInt < lo ∨ hi < x.toInt) (ht : (pc : Int) + dflt = (tgt : Int)) (k : am_RW M h0 P kc ks tgt L S h) : am_RW M h0 P kc ks pc L (.int x :: S) h := by
  intro p l e R s m args below meth c D ad0 Q C F ad H locs ls T Ll
  exact lv_tableOut C.1 C.2.1 d hh ht (k p l e R s m args below meth c D ad0 Q C F ad H locs ls T Ll)
theorem ar_tsIn {dflt lo hi : Int} {offs : Array Int} {len : Nat} {x : Int32} {off : Int} {tgt : Nat} (d : decode (am_b M) pc = .ok (.tableswitch dflt lo hi offs, len)) (h1 : ¬ x.toInt < lo) (h2 : ¬ hi < x.toInt) (ho : offs[(x.toInt - lo).toNat]? = some off) (ht : (pc : Int) + off = (tgt : Int)) (k : am_RW M h0 P kc ks tgt L S h) : am_RW M h0 P kc ks pc L (.int x :: S) h := by
  intro p l e R s m args below meth c D ad0 Q C F ad H locs ls T Ll
  exact lv_tableIn C.1 C.2.1 d h1 h2 ho ht (k p l e R s m args below meth c D ad0 Q C F ad H locs ls T Ll)
theorem ar_ldc {idx : Nat} {v : Int32} (d : decode (am_b M) pc = .ok (.ldc idx, 2)) (hw : Cond.constant (am_y M).cls idx v ∈ am_ws) (k : am_RW M h0 P kc ks (pc + 2) L (.int v :: S) h) : am_RW M h0 P kc ks pc L S h := by
  intro p l e R s m args below meth c D ad0 Q C F ad H locs ls T Ll
  exact lv_ldc C.1 C.2.1 C.2.2.2.1 (C.2.2.2.2.1 _ (List.mem_cons_of_mem _ hw)) d (k p l e R s m args below meth c D ad0 Q C F ad H locs ls T Ll)
theorem ar_ldcw {idx : Nat} {v : Int32} (d : decode (am_b M) pc = .ok (.ldc_w idx, 3)) (hw : Cond.constant (am_y M).cls idx v ∈ am_ws) (k : am_RW M h0 P kc ks (pc + 3) L (.int v :: S) h) : am_RW M h0 P kc ks pc L S h := by
  intro p l e R s m args below meth c D ad0 Q C F ad H locs ls T Ll
  exact lv_ldcw C.1 C.2.1 C.2.2.2.1 (C.2.2.2.2.1 _ (List.mem_cons_of_mem _ hw)) d (k p l e R s m args below meth c D ad0 Q C F ad H locs ls T Ll)
theorem ar_ldc2 {idx : Nat} {v : Int64} (d : decode (am_b M) pc = .ok (.ldc2_w idx, 3)) (hw : Cond.constantLong (am_y M).cls idx v ∈ am_ws) (k : am_RW M h0 P kc ks (pc + 3) L (.long v :: S) h) : am_RW M h0 P kc ks pc L S h := by
  intro p l e R s m args below meth c D ad0 Q C F ad H locs ls T Ll
  exact lv_ldc2 C.1 C.2.1 C.2.2.2.1 (C.2.2.2.2.1 _ (List.mem_cons_of_mem _ hw)) d (k p l e R s m args below meth c D ad0 Q C F ad H locs ls T Ll)
theorem ar_ret {r : Option Value} (hS : S = r.toList) (hi : am_ri M pc r) (hc : kc ≤ am_nc M) (hs : ks ≤ am_ns M) (hp : P r h) : am_RW M h0 P kc ks pc L S h := by
  intro p l e R s m args below meth c D ad0 Q C F ad H locs ls T Ll
  subst hS
  exact F r h ad H locs kc ks ls pc hc hs hp T hi
end
end
section
/-! rows that read and write cells -/
theorem am_cty {ci : Nat} {C : String} {T : u_T} {N : Nat} (h : am_cl[ci]? = some (C, T, N)) : ∃ ty0 : Nat → FieldType, (∀ k, k < N → parseFieldDescriptor (T k).2.2.1 = some (ty0 k)) ∧ ∀ a, a < N → ∀ b, b < N → a ≠ b → (T a).2.1 ≠ (T b).2.1 := by
  match ci, h with
  | 0, h => cases h; exact ⟨_, tyX1_ok, nmX1⟩
  | 1, h => cases h; exact ⟨_, tyX2_ok, nmX2⟩
  | 2, h => cases h; exact ⟨_, tyX3_ok, nmX3⟩
  | 3, h => cases h; exact ⟨_, tyX4_ok, nmX4⟩
  | 4, h => cases h; exact ⟨_, tyX5_ok, nmX5⟩
  | 5, h => cases h; exact ⟨_, tyX6_ok, nmX6⟩
  | 6, h => cases h; exact ⟨_, tyX7_ok, nmX7⟩
  | k + 7, h => simp [am_cl] at h
theorem am_HR.set {D : va_G} {U : State} {ad : Nat → Nat} {h : am_H} {H H1 : Heap} {a : Nat} {c0 c1 : am_C} (hh : am_HR D U ad h H) (ha : h[a]? = some (some c0)) (hc : am_cell D U ad (ad a) H1 c1) (oq : ∀ q : Nat, q ≠ ad a → H1[q]? = H[q]?) : am_HR D U ad (h.set a (some c1)) H1 := by
  have hl := (List.getElem?_eq_some_iff.mp ha).1
  have pres : ∀ (j : Nat) (c : am_C), (h.set a (some c1))[j]? = some (some c) → ∃ c', h[j]? = some (some c') := by
    intro j c hj
    by_cases e : j = a
    · subst e; exact ⟨_, ha⟩
    · rw [List.getElem?_set_ne (Ne.symm e)] at hj; exact ⟨_, hj⟩
  refine ⟨fun k c hk => ?_, fun j k c d hj hk he => ?_⟩
  · by_cases e : k = a
    · subst e
      rw [List.getElem?_set_self hl] at hk
      cases hk
      exact hc
    · rw [List.getElem?_set_ne (Ne.symm e)] at hk
      exact (hh.1 k c hk).kept (oq _ fun z => e (hh.2 k a _ _ hk ha z))
  · obtain ⟨c', h1⟩ := pres j c hj
    obtain ⟨d', h2⟩ := pres k d hk
    exact hh.2 j k c' d' h1 h2 he
theorem am_set_pres {h : am_H} {a k : Nat} {c0 c1 : am_C} (ha : h[a]? = some (some c0)) : (∃ c, (h.set a (some c1))[k]? = some (some c)) ↔ ∃ c, h[k]? = some (some c) := by
  have hl := (List.getElem?_eq_some_iff.mp ha).1
  by_cases e : k = a
  · subst e
    rw [List.getElem?_set_self hl, ha]
    exact ⟨fun _ => ⟨_, rfl⟩, fun _ => ⟨_, rfl⟩⟩
  · rw [List.getElem?_set_ne (Ne.symm e)]
theorem am_St.set {h0 : am_H} {D : va_G} {s : State} {ad0 ad : Nat → Nat} {h : am_H} {H H1 : Heap} {locs : List Loc} {a i : Nat} {c0 c1 : am_C} (T : am_St h0 D s ad0 ad h H locs) (ha : h[a]? = some (some c0)) (hw : am_wr c0 = true) (hc : am_cell D s ad (ad a) H1 c1) (z : H1.size = H.size) (oq : ∀ q : Nat, q ≠ ad a → H1[q]? = H[q]?) : am_St h0 D s ad0 ad (h.set a (some c1)) H1 (locs ++ [⟨ad a, i⟩]) := by
  obtain ⟨t1, t2, t3, t4, t5, t6, t7, t8⟩ := T
  have hl := (List.getElem?_eq_some_iff.mp ha).1
  refine ⟨t1.set ha hc oq, fun k c hk => (am_set_pres ha).mpr (t2 k c hk), fun k hk => t3 k fun q => hk ⟨(am_set_pres ha).mpr q.1, q.2⟩, fun k hk => t4 k ⟨(am_set_pres ha).mp hk.1, hk.2⟩, fun k c hk hcw => ?_, t6.put z oq (t5 a c0 ha hw), t7, t8⟩
  by_cases e : k = a
  · subst e; exact t5 k c0 ha hw
  · rw [List.getElem?_set_ne (Ne.symm e)] at hk
    exact t5 k c hk hcw
/-- the word of a field: own class, entry, class and place of the field, its type, whether it is final -/
def am_fld (own : String) (idx ci k : Nat) (ty : FieldType) (fin : Bool) : Prop := ∃ (C : String) (T : u_T) (N : Nat), am_cl[ci]? = some (C, T, N) ∧ k < N ∧ Cond.fieldLink own idx (T k).1 (T k).2.1 (T k).2.2.1 ∈ am_ws ∧ parseFieldDescriptor (T k).2.2.1 = some ty ∧ (T k).2.2.2 = fin ∧ (fin = true → (T k).1 = C)
section
variable {M : am_M} {h0 : am_H} {P : Option Value → am_H → Prop} {kc ks pc : Nat} {L : List (Option Value)} {S : List Value} {h : am_H}
theorem am_ts {p : Program} {R : Room} {s : State} {m : MethodId} {args : Array Value} {meth : Method} {c : Code} (C : am_Cx M p R s m args meth c) {w : Cond} (hw : w ∈ am_ws) : w.before args s = true := C.2.2.2.2.1 _ (List.mem_cons_of_mem _ hw)
theorem ar_getf {idx ci k a : Nat} {ty : FieldType} {fin : Bool} {fs : List Value} {v : Value} (d : decode (am_b M) pc = .ok (.getfield idx, 3)) (hf : am_fld (am_y M).cls idx ci k ty fin) (hc : h[a]? = some (some (.inl (ci, fs)))) (hv : fs[k]? = some v) (k : am_RW M h0 P kc ks (pc + 3) L (v :: S) h) : am_RW M h0 P kc ks pc L (.ref a :: S) h := by
  intro p l e R s m args below meth c D ad0 Q C F ad H locs ls T Ll
  obtain ⟨Cn, Tn, N, q1, q2, q3, -⟩ := hf
  have hP : va_P D am_cl [(ad a, .inr (ci, fs.map (am_v ad)))] H := fun j q hj => by
    match j, hj with
    | 0, hj => cases hj; exact T.1.1 a _ hc
    | j + 1, hj => simp at hj
  refine va_get C.1 C.2.1 C.2.2.2.2.1 (fun w hw => List.mem_cons_of_mem _ (am_uws q1 w hw)) C.2.2.2.1 T.2.2.2.2.2.2.1.1 hP 0 rfl q1 _ q2 (am_ts C q3) (fun _ z => z) (v := am_v ad v) (by rw [List.getElem?_map, hv]; rfl) d ?_
  exact k p l e R s m args below meth c D ad0 Q C F ad H locs ls T Ll
theorem ar_putf {idx ci k a : Nat} {ty : FieldType} {fs : List Value} {v : Value} (d : decode (am_b M) pc = .ok (.putfield idx, 3)) (hf : am_fld (am_y M).cls idx ci k ty false) (hc : h[a]? = some (some (.inl (ci, fs)))) (hv : k < fs.length) (hn : ∀ ad, narrow ty (am_v ad v) = am_v ad v ∧ fits ty (am_v ad v) = true) (kk : am_RW M h0 P kc ks (pc + 3) L S (h.set a (some (.inl (ci, fs.set k v))))) : am_RW M h0 P kc ks pc L (v :: .ref a :: S) h := by
  intro p l e R s m args below meth c D ad0 Q C F ad H locs ls T Ll
  obtain ⟨Cn, Tn, N, q1, q2, q3, q4, q5, -⟩ := hf
  obtain ⟨ty0, hty, hnm⟩ := am_cty q1
  have hin : ∀ w ∈ u_ws Cn Tn N, w ∈ am_W M := fun w hw => List.mem_cons_of_mem _ (am_uws q1 w hw)
  have hts := C.2.2.2.2.1
  have hK : va_K D am_cl [] s := T.2.2.2.2.2.2.1.1
  have hap := va_apart (own := "") hts hin ty0 hty hnm hK q1
  obtain ⟨r, h1, cell, c1, c2, c3, c4⟩ := T.1.1 a _ hc
  have hr : r = (Cn, Tn, N) := Option.some.inj (h1.symm.trans q1)
  subst hr
  obtain ⟨hS, hfc, kC, hkC, hkind⟩ := hK.1 ci _ q1
  obtain ⟨cf, kf, fi, f, hi, hsl⟩ := hS k q2
  have hlay := hts _ (hin _ (u_in_lay q2))
  unfold u_lay at hlay
  rw [if_neg (by rw [q5]; decide)] at hlay
  have hst := (u_facts hfc hkC (u_lays hts hin q2) hi).1
  have h6 := u_store hfc hkC hkind hlay hi q4 (hn ad).1 (hn ad).2
  refine W.putK C.1 C.2.1 (f := f) ⟨C.2.2.2.1, am_ts C q3, ⟨_, _, _, hi⟩, hst⟩ (by rw [c2]; exact h6) c1 c3 (by rw [hsl]; exact k2_hasslot (c4 k q2)) rfl rfl d fun H' e1 e2 e3 => ?_
  rw [hsl] at e1 ⊢
  have hl : k < (fs.map (am_v ad)).length := by rw [List.length_map]; exact hv
  have hcell : am_cell D s ad (ad a) H' (.inl (ci, fs.set k v)) := by
    refine ⟨(Cn, Tn, N), q1, ?_⟩
    refine t_OB.to (V := updV (vp_V (fs.map (am_v ad))) k (am_v ad v)) ⟨_, e1, c2, c3, t_set c4 hap q2 (am_v ad v)⟩ (fun j _ => ?_)
    rw [vp_updV_set hl, ← List.map_set]
  exact kk p l e R s m args below meth c D ad0 Q C F ad H' _ ls (T.set hc rfl hcell e2 e3) Ll
theorem ar_putF {idx ci k a : Nat} {ty : FieldType} {fs : List Value} {v : Value} (d : decode (am_b M) pc = .ok (.putfield idx, 3)) (hf : am_fld (am_y M).cls idx ci k ty true) (hown : (am_cl[ci]?).map (fun q => q.1) = some (am_y M).cls) (hin2 : (am_y M).name = "<init>") (hc : h[a]? = some (some (.inl (ci, fs)))) (hv : k < fs.length) (hn : ∀ ad, narrow ty (am_v ad v) = am_v ad v ∧ fits ty (am_v ad v) = true) (kk : am_RW M h0 P kc ks (pc + 3) L S (h.set a (some (.inl (ci, fs.set k v))))) : am_RW M h0 P kc ks pc L (v :: .ref a :: S) h := by
  intro p l e R s m args below meth c D ad0 Q C F ad H locs ls T Ll
  obtain ⟨Cn, Tn, N, q1, q2, q3, q4, q5, q6⟩ := hf
  have hdecl : (Tn k).1 = (am_y M).cls := by
    rw [q6 rfl]
    rw [q1] at hown
    exact Option.some.inj hown
  obtain ⟨ty0, hty, hnm⟩ := am_cty q1
  have hin : ∀ w ∈ u_ws Cn Tn N, w ∈ am_W M := fun w hw => List.mem_cons_of_mem _ (am_uws q1 w hw)
  have hts := C.2.2.2.2.1
  have hK : va_K D am_cl [] s := T.2.2.2.2.2.2.1.1
  have hap := va_apart (own := "") hts hin ty0 hty hnm hK q1
  obtain ⟨r, h1, cell, c1, c2, c3, c4⟩ := T.1.1 a _ hc
  have hr : r = (Cn, Tn, N) := Option.some.inj (h1.symm.trans q1)
  subst hr
  obtain ⟨hS, hfc, kC, hkC, hkind⟩ := hK.1 ci _ q1
  obtain ⟨cf, kf, fi, f, hi, hsl⟩ := hS k q2
  have hlay := hts _ (hin _ (u_in_lay q2))
  unfold u_lay at hlay
  rw [if_pos q5] at hlay
  have hst := (u_facts hfc hkC (u_lays hts hin q2) hi).1
  have hcf : m.cls = cf := by
    obtain ⟨_, _, c', _, _, _, -, -, hf', -, -, -, hown2, -⟩ := Cond.laysFinal_spec hlay
    have e1 : c' = cf := by have := hi.symm.trans hf'; simp at this; exact this.1.symm
    rw [hdecl] at hown2
    rw [← e1]; exact Option.some.inj (C.2.2.2.1.symm.trans hown2)
  have h6 := u_fits hfc hkC hkind (Or.inr hlay) hi q4 (hn ad).1 (hn ad).2
  refine W.putFinK C.1 C.2.1 C.2.2.2.1 (am_ts C q3) hi hst hcf (C.2.2.2.2.2.1.trans hin2) (by rw [c2]; exact h6) c1 c3 (by rw [hsl]; exact k2_hasslot (c4 k q2)) rfl rfl d fun H' e1 e2 e3 => ?_
  rw [hsl] at e1 ⊢
  have hl : k < (fs.map (am_v ad)).length := by rw [List.length_map]; exact hv
  have hcell : am_cell D s ad (ad a) H' (.inl (ci, fs.set k v)) := by
    refine ⟨(Cn, Tn, N), q1, ?_⟩
    refine t_OB.to (V := updV (vp_V (fs.map (am_v ad))) k (am_v ad v)) ⟨_, e1, c2, c3, t_set c4 hap q2 (am_v ad v)⟩ (fun j _ => ?_)
    rw [vp_updV_set hl, ← List.map_set]
  exact kk p l e R s m args below meth c D ad0 Q C F ad H' _ ls (T.set hc rfl hcell e2 e3) Ll
theorem ar_inx {x : Int32} {j N : Nat} (hj : j < N) (hN : N < 2147483648) (ex : x = nI j) : ¬ (x < 0 ∨ N ≤ x.toNatClampNeg) ∧ x.toNatClampNeg = j := by
  subst ex
  have hj2 : j < 2 ^ 31 := by omega
  exact ⟨nI_in hj (by omega), nI_clamp hj2⟩
theorem ar_iald {x : Int32} {a j N : Nat} {w : Bool} {f : Nat → Int32} (d : decode (am_b M) pc = .ok (.iaload, 1)) (hc : h[a]? = some (some (.inr (.inl (.int, w, N, f))))) (hj : j < N) (ex : x = nI j) (k : am_RW M h0 P kc ks (pc + 1) L (.int (f j) :: S) h) : am_RW M h0 P kc ks pc L (.int x :: .ref a :: S) h := by
  intro p l e R s m args below meth c D ad0 Q C F ad H locs ls T Ll
  obtain ⟨cell, c1, c2, c3, c4, c5, c6⟩ := T.1.1 a _ hc
  obtain ⟨i1, i2⟩ := ar_inx hj c5 ex
  exact W.iald (v := .int (f j)) C.1 C.2.1 c1 c2 c3 (by rw [c4]; exact i1) (by rw [i2]; exact c6 j hj) rfl rfl d (k p l e R s m args below meth c D ad0 Q C F ad H locs ls T Ll)
theorem ar_cald {x : Int32} {a j N : Nat} {w : Bool} {f : Nat → Int32} (d : decode (am_b M) pc = .ok (.caload, 1)) (hc : h[a]? = some (some (.inr (.inl (.char, w, N, f))))) (hj : j < N) (ex : x = nI j) (k : am_RW M h0 P kc ks (pc + 1) L (.int (f j) :: S) h) : am_RW M h0 P kc ks pc L (.int x :: .ref a :: S) h := by
  intro p l e R s m args below meth c D ad0 Q C F ad H locs ls T Ll
  obtain ⟨cell, c1, c2, c3, c4, c5, c6⟩ := T.1.1 a _ hc
  obtain ⟨i1, i2⟩ := ar_inx hj c5 ex
  exact W.cald (v := .int (f j)) C.1 C.2.1 c1 c2 c3 (by rw [c4]; exact i1) (by rw [i2]; exact c6 j hj) rfl rfl d (k p l e R s m args below meth c D ad0 Q C F ad H locs ls T Ll)
theorem ar_zald {x : Int32} {a j N : Nat} {w : Bool} {f : Nat → Int32} (d : decode (am_b M) pc = .ok (.baload, 1)) (hc : h[a]? = some (some (.inr (.inl (.boolean, w, N, f))))) (hj : j < N) (ex : x = nI j) (k : am_RW M h0 P kc ks (pc + 1) L (.int (f j) :: S) h) : am_RW M h0 P kc ks pc L (.int x :: .ref a :: S) h := by
  intro p l e R s m args below meth c D ad0 Q C F ad H locs ls T Ll
  obtain ⟨cell, c1, c2, c3, c4, c5, c6⟩ := T.1.1 a _ hc
  obtain ⟨i1, i2⟩ := ar_inx hj c5 ex
  exact W.zald (v := .int (f j)) C.1 C.2.1 c1 c2 c3 (by rw [c4]; exact i1) (by rw [i2]; exact c6 j hj) rfl rfl d (k p l e R s m args below meth c D ad0 Q C F ad H locs ls T Ll)
theorem ar_alen {a N : Nat} {ty : FieldType} {w : Bool} {f : Nat → Int32} (d : decode (am_b M) pc = .ok (.arraylength, 1)) (hc : h[a]? = some (some (.inr (.inl (ty, w, N, f))))) (k : am_RW M h0 P kc ks (pc + 1) L (.int (nI N) :: S) h) : am_RW M h0 P kc ks pc L (.ref a :: S) h := by
  intro p l e R s m args below meth c D ad0 Q C F ad H locs ls T Ll
  obtain ⟨cell, c1, c2, c3, c4, c5, c6⟩ := T.1.1 a _ hc
  exact W.alen (n := nI N) C.1 C.2.1 c1 c2 (by rw [c4]; rfl) rfl rfl d (k p l e R s m args below meth c D ad0 Q C F ad H locs ls T Ll)
theorem ar_alenq {a ci : Nat} {gs : List (Option Nat)} (d : decode (am_b M) pc = .ok (.arraylength, 1)) (hc : h[a]? = some (some (.inr (.inr (ci, gs))))) (k : am_RW M h0 P kc ks (pc + 1) L (.int (nI gs.length) :: S) h) : am_RW M h0 P kc ks pc L (.ref a :: S) h := by
  intro p l e R s m args below meth c D ad0 Q C F ad H locs ls T Ll
  obtain ⟨cA, q, c0, c1, c2, c3, c4⟩ := T.1.1 a _ hc
  exact W.alen (n := nI gs.length) C.1 C.2.1 c2 (c3 gs.length _) (by rw [arrV_size]; rfl) rfl rfl d (k p l e R s m args below meth c D ad0 Q C F ad H locs ls T Ll)
theorem am_cset {D : va_G} {s : State} {ad : Nat → Nat} {a : Nat} {H1 : Heap} {ty : FieldType} {w : Bool} {N j : Nat} {f : Nat → Int32} {x : Int32} {cell : Cell} (c2 : s.isArrayOf cell ty) (c3 : cell.vm ≠ .unknown) (c4 : cell.slots.size = N) (c5 : N < 2147483648) (c6 : ∀ j : Nat, j < N → cell.slots[j]? = some (.int (f j))) (hj : j < N) (e : H1[a]? = some (cell.setSlot j (.int x))) : am_cell D s ad a H1 (.inr (.inl (ty, w, N, upd f j x))) := by
  refine ⟨_, e, c2, c3, ?_, c5, fun i hi => ?_⟩
  · show (cell.slots.setIfInBounds j (.int x)).size = N
    rw [Array.size_setIfInBounds]; exact c4
  · show (cell.slots.setIfInBounds j (.int x))[i]? = some (.int (upd f j x i))
    by_cases h : i = j
    · subst h
      rw [Array.getElem?_setIfInBounds_self_of_lt (by rw [c4]; exact hi)]
      simp [upd]
    · rw [Array.getElem?_setIfInBounds_ne (Ne.symm h), c6 i hi]
      simp [upd, h]
theorem ar_iast {x i : Int32} {a j N : Nat} {f : Nat → Int32} (d : decode (am_b M) pc = .ok (.iastore, 1)) (hc : h[a]? = some (some (.inr (.inl (.int, true, N, f))))) (hj : j < N) (ex : i = nI j) (k : am_RW M h0 P kc ks (pc + 1) L S (h.set a (some (.inr (.inl (.int, true, N, upd f j x)))))) : am_RW M h0 P kc ks pc L (.int x :: .int i :: .ref a :: S) h := by
  intro p l e R s m args below meth c D ad0 Q C F ad H locs ls T Ll
  obtain ⟨cell, c1, c2, c3, c4, c5, c6⟩ := T.1.1 a _ hc
  obtain ⟨i1, i2⟩ := ar_inx hj c5 ex
  refine W.iast C.1 C.2.1 c1 c2 c3 (by rw [c4]; exact i1) rfl rfl d fun H1 e1 z oq => ?_
  rw [i2] at e1
  exact k p l e R s m args below meth c D ad0 Q C F ad H1 _ ls (T.set hc rfl (am_cset c2 c3 c4 c5 c6 hj e1) z oq) Ll
theorem ar_cast {x y i : Int32} {a j N : Nat} {f : Nat → Int32} (d : decode (am_b M) pc = .ok (.castore, 1)) (hc : h[a]? = some (some (.inr (.inl (.char, true, N, f))))) (hj : j < N) (ex : i = nI j) (hy : narrow .char (.int x) = .int y) (k : am_RW M h0 P kc ks (pc + 1) L S (h.set a (some (.inr (.inl (.char, true, N, upd f j y)))))) : am_RW M h0 P kc ks pc L (.int x :: .int i :: .ref a :: S) h := by
  intro p l e R s m args below meth c D ad0 Q C F ad H locs ls T Ll
  obtain ⟨cell, c1, c2, c3, c4, c5, c6⟩ := T.1.1 a _ hc
  obtain ⟨i1, i2⟩ := ar_inx hj c5 ex
  refine W.cast C.1 C.2.1 c1 c2 c3 (by rw [c4]; exact i1) rfl rfl d fun H1 e1 z oq => ?_
  rw [i2, hy] at e1
  exact k p l e R s m args below meth c D ad0 Q C F ad H1 _ ls (T.set hc rfl (am_cset c2 c3 c4 c5 c6 hj e1) z oq) Ll
theorem ar_zast {x y i : Int32} {a j N : Nat} {f : Nat → Int32} (d : decode (am_b M) pc = .ok (.bastore, 1)) (hc : h[a]? = some (some (.inr (.inl (.boolean, true, N, f))))) (hj : j < N) (ex : i = nI j) (hy : narrow .boolean (.int x) = .int y) (k : am_RW M h0 P kc ks (pc + 1) L S (h.set a (some (.inr (.inl (.boolean, true, N, upd f j y)))))) : am_RW M h0 P kc ks pc L (.int x :: .int i :: .ref a :: S) h := by
  intro p l e R s m args below meth c D ad0 Q C F ad H locs ls T Ll
  obtain ⟨cell, c1, c2, c3, c4, c5, c6⟩ := T.1.1 a _ hc
  obtain ⟨i1, i2⟩ := ar_inx hj c5 ex
  refine W.zast C.1 C.2.1 c1 c2 c3 (by rw [c4]; exact i1) rfl rfl d fun H1 e1 z oq => ?_
  rw [i2, hy] at e1
  exact k p l e R s m args below meth c D ad0 Q C F ad H1 _ ls (T.set hc rfl (am_cset c2 c3 c4 c5 c6 hj e1) z oq) Ll
def am_rf (o : Option Nat) : Value := match o with
  | none => .null
  | some k => .ref k
theorem am_rf_v (ad : Nat → Nat) (o : Option Nat) : am_v ad (am_rf o) = va_rf (o.map ad) := by cases o <;> rfl
theorem ar_aald {x : Int32} {a j ci : Nat} {gs : List (Option Nat)} {o : Option Nat} (d : decode (am_b M) pc = .ok (.aaload, 1)) (hc : h[a]? = some (some (.inr (.inr (ci, gs))))) (hj : gs[j]? = some o) (ex : x = nI j) (k : am_RW M h0 P kc ks (pc + 1) L (am_rf o :: S) h) : am_RW M h0 P kc ks pc L (.int x :: .ref a :: S) h := by
  intro p l e R s m args below meth c D ad0 Q C F ad H locs ls T Ll
  obtain ⟨cA, q, c0, c1, c2, c3, c4⟩ := T.1.1 a _ hc
  have hl : j < gs.length := (List.getElem?_eq_some_iff.mp hj).1
  obtain ⟨i1, i2⟩ := ar_inx hl c1 ex
  refine W.aald (v := am_v ad (am_rf o)) (ty := .object q.1) C.1 C.2.1 c2 (c3 gs.length _) rfl (fun z => by cases z) (by rw [arrV_size]; exact i1) ?_ rfl rfl d (k p l e R s m args below meth c D ad0 Q C F ad H locs ls T Ll)
  rw [i2, arrV_read _ _ hl, List.getD_eq_getElem?_getD, hj, am_rf_v]
  rfl
theorem ar_aast {i : Int32} {a b j ci : Nat} {gs : List (Option Nat)} {fs : List Value} (d : decode (am_b M) pc = .ok (.aastore, 1)) (hc : h[a]? = some (some (.inr (.inr (ci, gs))))) (hb : h[b]? = some (some (.inl (ci, fs)))) (hj : j < gs.length) (ex : i = nI j) (k : am_RW M h0 P kc ks (pc + 1) L S (h.set a (some (.inr (.inr (ci, gs.set j (some b))))))) : am_RW M h0 P kc ks pc L (.ref b :: .int i :: .ref a :: S) h := by
  intro p l e R s m args below meth c D ad0 Q C F ad H locs ls T Ll
  obtain ⟨cA, q, c0, c1, c2, c3, c4⟩ := T.1.1 a _ hc
  obtain ⟨i1, i2⟩ := ar_inx hj c1 ex
  obtain ⟨r', hr', cellV, g1, g2, g3, -⟩ := T.1.1 b _ hb
  have hK : va_K D am_cl [] s := T.2.2.2.2.2.2.1.1
  have hcls := (hK.1 ci q c0).2
  obtain ⟨kA, comp, k1, k2, k3, -⟩ := id c4
  have hcomp : comp = D.1 ci := Option.some.inj (k3.symm.trans hcls.1)
  subst hcomp
  obtain ⟨kC, hkC, -⟩ := id hcls.2
  refine W.aast C.1 C.2.1 c2 (fun q h => by cases h) (fun h => by cases h) k1 k2 rfl hkC ⟨fun z => i1 (Or.inl z), by rw [arrV_size, i2]; exact hj⟩ g1 (fun q h => by rw [g3] at h; cases h) (by rw [g2]; exact hkC) (by rw [g2]; exact va_assign hcls) rfl rfl d fun H1 e1 z oq => ?_
  have hcell : am_cell D s ad (ad a) H1 (.inr (.inr (ci, gs.set j (some b)))) := by
    refine ⟨cA, q, c0, by rw [List.length_set]; exact c1, ?_, c3, c4⟩
    rw [e1, arrV_store, i2, List.length_set]
    congr 2
    funext n
    rw [List.getD_eq_getElem?_getD]
    by_cases hn : n = j
    · subst hn
      rw [List.getElem?_set_self hj]
      simp [updV, va_rf]
    · rw [List.getElem?_set_ne (Ne.symm hn)]
      simp [updV, hn, List.getD_eq_getElem?_getD]
  exact k p l e R s m args below meth c D ad0 Q C F ad H1 _ ls (T.set hc rfl hcell z oq) Ll
theorem ar_gets0 {idx : Nat} (d : decode (am_b M) pc = .ok (.getstatic idx, 3)) (hw : Cond.fieldLink (am_y M).cls idx "PuppetPitches" "FIRST_SETTINGS" "[I" ∈ am_ws) (k : am_RW M h0 P kc ks (pc + 3) L (.ref 0 :: S) h) : am_RW M h0 P kc ks pc L S h := by
  intro p l e R s m args below meth c D ad0 Q C F ad H locs ls T Ll
  refine va_gets C.1 C.2.1 T.2.2.2.2.2.2.1.2.2.1 T.2.2.2.2.2.1 C.2.2.2.1 (am_ts C hw) (fun _ z => z) d ?_
  rw [← T.2.2.2.2.2.2.2.1]
  exact k p l e R s m args below meth c D ad0 Q C F ad H locs ls T Ll
theorem ar_gets1 {idx : Nat} (d : decode (am_b M) pc = .ok (.getstatic idx, 3)) (hw : Cond.fieldLink (am_y M).cls idx "PuppetPitches" "GREATEST_SETTINGS" "[I" ∈ am_ws) (k : am_RW M h0 P kc ks (pc + 3) L (.ref 1 :: S) h) : am_RW M h0 P kc ks pc L S h := by
  intro p l e R s m args below meth c D ad0 Q C F ad H locs ls T Ll
  refine va_gets C.1 C.2.1 T.2.2.2.2.2.2.1.2.2.2 T.2.2.2.2.2.1 C.2.2.2.1 (am_ts C hw) (fun _ z => z) d ?_
  rw [← T.2.2.2.2.2.2.2.2]
  exact k p l e R s m args below meth c D ad0 Q C F ad H locs ls T Ll
theorem ar_gets0N {idx : Nat} {host : String} (d : decode (am_b M) pc = .ok (.getstatic idx, 3)) (hw : Cond.fieldLinkNest (am_y M).cls idx "PuppetPitches" "FIRST_SETTINGS" "[I" host ∈ am_nw) (k : am_RW M h0 P kc ks (pc + 3) L (.ref 0 :: S) h) : am_RW M h0 P kc ks pc L S h := by
  intro p l e R s m args below meth c D ad0 Q C F ad H locs ls T Ll
  refine va_getsN C.1 C.2.1 T.2.2.2.2.2.2.1.2.2.1 T.2.2.2.2.2.1 C.2.2.2.1 (va_Nw.use rfl (T.2.2.2.2.2.2.1.2.1 _ hw)) (fun _ z => z) d ?_
  rw [← T.2.2.2.2.2.2.2.1]
  exact k p l e R s m args below meth c D ad0 Q C F ad H locs ls T Ll
theorem ar_obj {idx a : Nat} (d : decode (am_b M) pc = .ok (.invokespecial idx, 3)) (hw : Cond.methodLink (am_y M).cls idx objectInit ∈ am_ws) (hl : 1 ≤ am_lv M) (hS : (S.map fun v => v.category).sum ≤ 8) (k : am_RW M h0 P kc ks (pc + 3) L S h) : am_RW M h0 P kc ks pc L (.ref a :: S) h := by
  intro p l e R s m args below meth c D ad0 Q C F ad H locs ls T Ll
  have hi : Cond.instanceMethod objectInit ∈ am_ws := by decide +kernel
  have hc : Cond.code objectInit ⟨#[0xb1]⟩ 1 none ∈ am_ws := by decide +kernel
  have hS2 : ((S.map (am_v ad)).map fun v => v.category).sum ≤ 8 := by
    rw [List.map_map, show ((fun v : Value => v.category) ∘ am_v ad) = (fun v : Value => v.category) from funext fun v => am_vc ad v]
    exact hS
  refine W.objInit C.1 C.2.1 C.2.2.2.1 (am_ts C hw) (am_ts C hi) (am_ts C hc) rfl (by rw [C.2.2.1]; exact Ll.1) rfl d (Nat.le_trans hl C.2.2.2.2.2.2.1) ?_ ?_
  · have h1 := C.2.2.2.2.2.2.2.1
    show 2 * 0 + _ + 12 ≤ R.locals
    omega
  · exact k p l e R s m args below meth c D ad0 Q C F ad H locs ls T Ll
end
end
section
/-! rows that make cells, and calls -/
def am_vr (v : Value) : List Nat := match v with
  | .ref k => [k]
  | _ => []
theorem am_vr_v {ad ad1 : Nat → Nat} {v : Value} (h : ∀ k ∈ am_vr v, ad1 k = ad k) : am_v ad1 v = am_v ad v := by
  cases v with
  | ref k => exact congrArg Value.ref (h k (List.mem_singleton.mpr rfl))
  | _ => rfl
/-- the place k is named nowhere in the frame and in the cells -/
def am_free (k : Nat) (L : List (Option Value)) (S : List Value) (h : am_H) : Bool :=
  (L.all fun o => match o with | none => true | some v => !(am_vr v).contains k) && ((S.all fun v => !(am_vr v).contains k) && (h.all fun o => match o with | none => true | some c => !(am_refs c).contains k))
theorem am_free_spec {k : Nat} {L : List (Option Value)} {S : List Value} {h : am_H} (hf : am_free k L S h = true) : (∀ (i : Nat) (v : Value), L[i]? = some (some v) → k ∉ am_vr v) ∧ (∀ v ∈ S, k ∉ am_vr v) ∧ ∀ (i : Nat) (c : am_C), h[i]? = some (some c) → k ∉ am_refs c := by
  simp only [am_free, Bool.and_eq_true, List.all_eq_true] at hf
  obtain ⟨f1, f2, f3⟩ := hf
  refine ⟨fun i v hi => ?_, fun v hv => ?_, fun i c hi => ?_⟩
  · have := f1 _ (List.mem_of_getElem? hi)
    simpa using this
  · have := f2 v hv
    simpa using this
  · have := f3 _ (List.mem_of_getElem? hi)
    simpa using this
theorem am_map_v {ad ad1 : Nat → Nat} {S : List Value} (h : ∀ v ∈ S, am_v ad1 v = am_v ad v) : S.map (am_v ad1) = S.map (am_v ad) := List.map_congr_left h
theorem am_St.alloc {h0 : am_H} {D : va_G} {s : State} {ad0 ad ad1 : Nat → Nat} {h : am_H} {H H1 : Heap} {locs : List Loc} {k : Nat} {c : am_C} (T : am_St h0 D s ad0 ad h H locs) (hk : h[k]? = some none) (h2 : 2 ≤ k) (hfr : ∀ (i : Nat) (d : am_C), h[i]? = some (some d) → k ∉ am_refs d)
    (e1 : ad1 k = H.size) (e2 : ∀ j, j ≠ k → ad1 j = ad j) (hc : am_cell D s ad1 H.size H1 c) (z : H1.size = H.size + 1) (oq : ∀ q : Nat, q < H.size → H1[q]? = H[q]?) : am_St h0 D s ad0 ad1 (h.set k (some c)) H1 locs := by
  obtain ⟨t1, t2, t3, t4, t5, t6, t7, t8, t9⟩ := T
  have hl := (List.getElem?_eq_some_iff.mp hk).1
  have hself : (h.set k (some c))[k]? = some (some c) := List.getElem?_set_self hl
  have hne : ∀ j, j ≠ k → (h.set k (some c))[j]? = h[j]? := fun j e => List.getElem?_set_ne (Ne.symm e)
  have np : ¬ ∃ d, h[k]? = some (some d) := by rintro ⟨d, hd⟩; rw [hk] at hd; cases hd
  have np0 : ¬ ∃ d, h0[k]? = some (some d) := fun ⟨d, hd⟩ => np (t2 k d hd)
  have hnew : ∀ j, j ≠ k → (am_new h0 (h.set k (some c)) j ↔ am_new h0 h j) := fun j e => by unfold am_new; rw [hne j e]
  refine ⟨⟨fun j d hj => ?_, fun i j d d' hi hj he => ?_⟩, fun j d hj => ?_, fun j hj => ?_, fun j hj => ?_, fun j d hj hw => ?_, ⟨?_, fun q q1 q2 => ?_, t6.2.2⟩, t7, ?_, ?_⟩
  · by_cases e : j = k
    · subst e
      rw [hself] at hj
      cases hj
      rw [e1]; exact hc
    · rw [hne j e] at hj
      rw [e2 j e]
      have hcell := t1.1 j d hj
      refine am_cell.ad (hcell.kept (oq _ hcell.lt)) fun r hr => e2 r fun er => ?_
      subst er
      exact hfr j d hj hr
  · have lt : ∀ (j : Nat) (d : am_C), h[j]? = some (some d) → ad j < H.size := fun j d hj => (t1.1 j d hj).lt
    by_cases ei : i = k
    · by_cases ej : j = k
      · rw [ei, ej]
      · rw [hne j ej] at hj
        rw [ei, e1, e2 j ej] at he
        have := lt j _ hj
        omega
    · rw [hne i ei] at hi
      by_cases ej : j = k
      · rw [ej, e1, e2 i ei] at he
        have := lt i _ hi
        omega
      · rw [hne j ej] at hj
        rw [e2 i ei, e2 j ej] at he
        exact t1.2 i j d d' hi hj he
  · by_cases e : j = k
    · subst e; exact ⟨c, hself⟩
    · rw [hne j e]; exact t2 j d hj
  · by_cases e : j = k
    · subst e; exact absurd ⟨⟨c, hself⟩, np0⟩ hj
    · rw [e2 j e]; exact t3 j fun q => hj ((hnew j e).mpr q)
  · by_cases e : j = k
    · subst e; rw [e1]; exact t6.1
    · rw [e2 j e]; exact t4 j ((hnew j e).mp hj)
  · by_cases e : j = k
    · subst e; rw [e1]; exact Or.inr t6.1
    · rw [hne j e] at hj
      rw [e2 j e]; exact t5 j d hj hw
  · have := t6.1; omega
  · rw [oq q (Nat.lt_of_lt_of_le q1 t6.1)]; exact t6.2.1 q q1 q2
  · rw [e2 0 (by omega)]; exact t8
  · rw [e2 1 (by omega)]; exact t9
def am_upd (ad : Nat → Nat) (k q : Nat) : Nat → Nat := fun j => if j = k then q else ad j
theorem am_upd_s {ad : Nat → Nat} {k q : Nat} : am_upd ad k q k = q := by simp [am_upd]
theorem am_upd_n {ad : Nat → Nat} {k q : Nat} (j : Nat) (h : j ≠ k) : am_upd ad k q j = ad j := by simp [am_upd, h]
/-- the words of a class that is made: its number, its fields' first values -/
def am_nwf (own : String) (idx ci N : Nat) (fs : List Value) : Prop := ∃ (C : String) (T : u_T), am_cl[ci]? = some (C, T, N) ∧ Cond.classLink own idx C ∈ am_ws ∧ Cond.instantiable C N ∈ am_ws ∧ Cond.initialized C ∈ am_ws ∧ (∀ j, j < N → (parseFieldDescriptor (T j).2.2.1).map defaultValue = fs[j]?) ∧ (fs.all fun v => (am_vr v).isEmpty) = true
theorem am_noref {ad : Nat → Nat} {v : Value} (h : (am_vr v).isEmpty = true) : am_v ad v = v := by
  cases v <;> first | rfl | cases h
section
variable {M : am_M} {h0 : am_H} {P : Option Value → am_H → Prop} {kc ks pc : Nat} {L : List (Option Value)} {S : List Value} {h : am_H}
theorem ar_new {idx ci N k : Nat} {fs : List Value} (d : decode (am_b M) pc = .ok (.new idx, 3)) (hw : am_nwf (am_y M).cls idx ci N fs) (hk : h[k]? = some none) (h2 : 2 ≤ k) (hf : am_free k L S h = true) (hc : kc + 1 ≤ am_nc M) (hs : ks + N ≤ am_ns M) (kk : am_RW M h0 P (kc + 1) (ks + N) (pc + 3) L (.ref k :: S) (h.set k (some (.inl (ci, fs))))) : am_RW M h0 P kc ks pc L S h := by
  intro p l e R s m args below meth c D ad0 Q C F ad H locs ls T Ll
  obtain ⟨Cn, Tn, q1, q2, q3, q4, q5, q6⟩ := hw
  obtain ⟨ty0, hty, hnm⟩ := am_cty q1
  have hin : ∀ w ∈ u_ws Cn Tn N, w ∈ am_W M := fun w hw => List.mem_cons_of_mem _ (am_uws q1 w hw)
  have hts := C.2.2.2.2.1
  have hK : va_K D am_cl [] s := T.2.2.2.2.2.2.1.1
  have hKn := hK.1 ci _ q1
  obtain ⟨r1, r2, r3⟩ := am_free_spec hf
  have hR := C.2.2.2.2.2.2
  refine W.newcK C.1 C.2.1 C.2.2.2.1 (am_ts C q2) (am_ts C q3) (am_ts C q4) rfl d (Nat.le_trans hc hR.2.2.1) (Nat.le_trans hs hR.2.2.2) hKn.2.1 rfl fun H1 kC hkC e1 z1 o1 => ?_
  have hcell : am_cell D s (am_upd ad k H.size) H.size H1 (.inl (ci, fs)) := by
    refine ⟨_, q1, (u_born ty0 hts hin hKn hkC e1 hty).to fun j hj => ?_⟩
    have h5 := q5 j hj
    rw [hty j hj] at h5
    have e : fs[j]? = some (defaultValue (ty0 j)) := h5.symm
    show defaultValue (ty0 j) = vp_V (fs.map (am_v (am_upd ad k H.size))) j
    rw [vp_V, List.getD_eq_getElem?_getD, List.getElem?_map, e]
    show _ = am_v _ (defaultValue (ty0 j))
    rw [am_noref (List.all_eq_true.mp q6 _ (List.mem_of_getElem? e))]
  have T' := T.alloc hk h2 r3 am_upd_s (fun j hj => am_upd_n j hj) hcell z1 o1
  have hl' : am_L (am_n M) (am_upd ad k H.size) ls L := Ll.ad fun i v hi => am_vr_v fun r hr => am_upd_n r fun er => by rw [er] at hr; exact r1 i v hi hr
  have := kk p l e R s m args below meth c D ad0 Q C F _ H1 locs ls T' hl'
  have eS : S.map (am_v (am_upd ad k H.size)) = S.map (am_v ad) := am_map_v (fun v hv => am_vr_v fun r hr => am_upd_n r fun er => by rw [er] at hr; exact r2 v hv hr)
  rw [List.map_cons, eS] at this
  rw [show am_v (am_upd ad k H.size) (.ref k) = .ref H.size from congrArg Value.ref am_upd_s] at this
  exact this
theorem ar_newa {atype : ArrayType} {ty : FieldType} {n : Int32} {N k : Nat} (d : decode (am_b M) pc = .ok (.newarray atype, 2)) (hty : newarray.typeOf atype = ty) (hdv : defaultValue ty = .int 0) (hw : Cond.arrayClass ty ∈ am_ws) (en : n = nI N) (hN : N < 2147483648) (hb : N * componentBytes ty ≤ 536870912) (hk : h[k]? = some none) (h2 : 2 ≤ k) (hf : am_free k L S h = true) (hc : kc + 1 ≤ am_nc M) (hs : ks + N ≤ am_ns M) (kk : am_RW M h0 P (kc + 1) (ks + N) (pc + 2) L (.ref k :: S) (h.set k (some (.inr (.inl (ty, true, N, fun _ => 0)))))) : am_RW M h0 P kc ks pc L (.int n :: S) h := by
  intro p l e R s m args below meth c D ad0 Q C F ad H locs ls T Ll
  subst hty
  subst en
  obtain ⟨r1, r2, r3⟩ := am_free_spec hf
  have hR := C.2.2.2.2.2.2
  have hN2 : N < 2 ^ 31 := by omega
  refine W.newaK C.1 C.2.1 (am_ts C hw) rfl d rfl (nI_pos hN2) (nI_clamp hN2) hb (Nat.le_trans hc hR.2.2.1) (Nat.le_trans hs hR.2.2.2) rfl fun H1 cA e1 z1 o1 hA => ?_
  have hcell : am_cell D s (am_upd ad k H.size) H.size H1 (.inr (.inl (newarray.typeOf atype, true, N, fun _ => 0))) := by
    refine ⟨_, e1, hA N _, fun q => (by cases q), arrV_size _ _ _, hN, fun j hj => ?_⟩
    rw [arrV_read _ _ hj, hdv]
  have T' := T.alloc hk h2 r3 am_upd_s (fun j hj => am_upd_n j hj) hcell z1 o1
  have hl' : am_L (am_n M) (am_upd ad k H.size) ls L := Ll.ad fun i v hi => am_vr_v fun r hr => am_upd_n r fun er => by rw [er] at hr; exact r1 i v hi hr
  have := kk p l e R s m args below meth c D ad0 Q C F _ H1 locs ls T' hl'
  have eS : S.map (am_v (am_upd ad k H.size)) = S.map (am_v ad) := am_map_v (fun v hv => am_vr_v fun r hr => am_upd_n r fun er => by rw [er] at hr; exact r2 v hv hr)
  rw [List.map_cons, eS] at this
  rw [show am_v (am_upd ad k H.size) (.ref k) = .ref H.size from congrArg Value.ref am_upd_s] at this
  exact this
theorem ar_anew {idx ci : Nat} {q : vw_C} {n : Int32} {N k : Nat} (d : decode (am_b M) pc = .ok (.anewarray idx, 3)) (hq : am_cl[ci]? = some q) (hw : Cond.classLink (am_y M).cls idx q.1 ∈ am_ws) (ho : Cond.arrayOver (.object q.1) ∈ am_nw) (en : n = nI N) (hN : N < 65536) (hk : h[k]? = some none) (h2 : 2 ≤ k) (hf : am_free k L S h = true) (hc : kc + 1 ≤ am_nc M) (hs : ks + N ≤ am_ns M) (kk : am_RW M h0 P (kc + 1) (ks + N) (pc + 3) L (.ref k :: S) (h.set k (some (.inr (.inr (ci, List.replicate N none)))))) : am_RW M h0 P kc ks pc L (.int n :: S) h := by
  intro p l e R s m args below meth c D ad0 Q C F ad H locs ls T Ll
  subst en
  obtain ⟨r1, r2, r3⟩ := am_free_spec hf
  have hR := C.2.2.2.2.2.2
  have hN2 : N < 2 ^ 31 := by omega
  have hcl : (nI N).toNatClampNeg = N := nI_clamp hN2
  refine W.anew C.1 C.2.1 C.2.2.2.1 (am_ts C hw) (va_AO.use (T.2.2.2.2.2.2.1.2.1 _ ho)) rfl d rfl (nI_pos hN2) (by rw [hcl]; omega) (Nat.le_trans hc hR.2.2.1) (by rw [hcl]; exact Nat.le_trans hs hR.2.2.2) fun cA kA comp f1 f2 f3 f4 => ?_
  rw [hcl]
  generalize hH1 : H.push ({ cls := cA, slots := Array.replicate N .null, vm := .none } : Cell) = H1
  have z1 : H1.size = H.size + 1 := by rw [← hH1, Array.size_push]
  have e1 : H1[H.size]? = some (arrV cA N (fun _ => .null)) := by rw [← hH1, Array.getElem?_push_size, ← arrV_new]
  have o1 : ∀ q : Nat, q < H.size → H1[q]? = H[q]? := fun q hq => by rw [← hH1, Array.getElem?_push, if_neg (Nat.ne_of_lt hq)]
  have hcell : am_cell D s (am_upd ad k H.size) H.size H1 (.inr (.inr (ci, List.replicate N none))) := by
    refine ⟨cA, q, hq, by rw [List.length_replicate]; omega, ?_, fun N z => ⟨(fun k h => by cases h), kA, f2, comp, f3⟩, ⟨kA, comp, f2, f3, f4, f1⟩⟩
    rw [e1, List.length_replicate]
    congr 2
    funext j
    rw [List.getD_eq_getElem?_getD, List.getElem?_replicate]
    by_cases hj : j < N
    · rw [if_pos hj]; rfl
    · rw [if_neg hj]; rfl
  have T' := T.alloc hk h2 r3 am_upd_s (fun j hj => am_upd_n j hj) hcell z1 o1
  have hl' : am_L (am_n M) (am_upd ad k H.size) ls L := Ll.ad fun i v hi => am_vr_v fun r hr => am_upd_n r fun er => by rw [er] at hr; exact r1 i v hi hr
  have := kk p l e R s m args below meth c D ad0 Q C F _ H1 locs ls T' hl'
  have eS : S.map (am_v (am_upd ad k H.size)) = S.map (am_v ad) := am_map_v (fun v hv => am_vr_v fun r hr => am_upd_n r fun er => by rw [er] at hr; exact r2 v hv hr)
  rw [List.map_cons, eS] at this
  rw [show am_v (am_upd ad k H.size) (.ref k) = .ref H.size from congrArg Value.ref am_upd_s] at this
  exact this
end
end
section
/-! calls: what comes back is laid into the caller's cells -/
def am_mrg (μ : Nat → Nat) : Nat → am_H → am_H → am_H
  | _, [], h => h
  | j, none :: t, h => am_mrg μ (j + 1) t h
  | j, some c :: t, h => am_mrg μ (j + 1) t (h.set (μ j) (some (am_rc μ c)))
theorem am_mrg_len (μ : Nat → Nat) : ∀ (t : am_H) (j : Nat) (h : am_H), (am_mrg μ j t h).length = h.length
  | [], j, h => rfl
  | none :: t, j, h => am_mrg_len μ t (j + 1) h
  | some c :: t, j, h => by rw [am_mrg, am_mrg_len μ t (j + 1), List.length_set]
theorem am_mrg_out (μ : Nat → Nat) (k : Nat) : ∀ (t : am_H) (j : Nat) (h : am_H), (∀ (i : Nat) (c : am_C), t[i]? = some (some c) → μ (j + i) ≠ k) → (am_mrg μ j t h)[k]? = h[k]?
  | [], j, h, _ => rfl
  | none :: t, j, h, hn => am_mrg_out μ k t (j + 1) h fun i c hi => by rw [Nat.add_assoc, Nat.add_comm 1 i]; exact hn (i + 1) c hi
  | some c :: t, j, h, hn => by
    rw [am_mrg, am_mrg_out μ k t (j + 1) _ (fun i c hi => by rw [Nat.add_assoc, Nat.add_comm 1 i]; exact hn (i + 1) c hi), List.getElem?_set_ne (show μ j ≠ k from hn 0 c rfl)]
theorem am_mrg_in (μ : Nat → Nat) (i : Nat) (c : am_C) : ∀ (t : am_H) (j : Nat) (h : am_H), t[i]? = some (some c) → (∀ (i' : Nat) (c' : am_C), i' ≠ i → t[i']? = some (some c') → μ (j + i') ≠ μ (j + i)) → μ (j + i) < h.length → (am_mrg μ j t h)[μ (j + i)]? = some (some (am_rc μ c))
  | [], j, h, hi, _, _ => by simp at hi
  | o :: t, j, h, hi, hn, hl => by
    cases i with
    | zero =>
      cases hi
      rw [am_mrg, am_mrg_out μ _ t (j + 1) _ (fun i' c' h' => by rw [Nat.add_assoc, Nat.add_comm 1 i']; exact hn (i' + 1) c' (Nat.succ_ne_zero _) h')]
      exact List.getElem?_set_self hl
    | succ i =>
      have e : ∀ x, j + 1 + x = j + (x + 1) := fun x => by omega
      have ih := fun h' hl' => am_mrg_in μ i c t (j + 1) h' hi (fun i' c' ne h' => by rw [e, e]; exact hn (i' + 1) c' (fun q => ne (Nat.succ.inj q)) h') hl'
      cases o with
      | none =>
        rw [am_mrg]
        have := ih h (by rw [e]; exact hl)
        rw [e] at this
        exact this
      | some d =>
        rw [am_mrg]
        have := ih (h.set (μ j) (some (am_rc μ d))) (by rw [e, List.length_set]; exact hl)
        rw [e] at this
        exact this
/-- what a call asks of the renaming: r, h1 come back to a callee that began with hl, in a caller with L, S (what stays of the stack), h -/
def am_back (μ : Nat → Nat) (hl : am_H) (r : Option Value) (h1 : am_H) (L : List (Option Value)) (S : List Value) (h : am_H) : Prop :=
  (∀ (j : Nat) (c : am_C), hl[j]? = some (some c) → ∃ c' : am_C, h1[j]? = some (some c') ∧ am_wr c' = am_wr c) ∧
  (∀ (i j : Nat) (c d : am_C), h1[i]? = some (some c) → h1[j]? = some (some d) → μ i = μ j → i = j) ∧
  ∀ j, am_new hl h1 j → h[μ j]? = some none ∧ 2 ≤ μ j ∧ am_free (μ j) L S h = true ∧ ∀ t, (t ∈ (r.toList.flatMap am_vr) ∨ ∃ (i : Nat) (c : am_C), h1[i]? = some (some c) ∧ t ∈ am_refs c) → μ t = μ j → t = j
theorem am_callC {M' : am_M} {p : Program} {l : Launch} {e : Env} {R : Room} {s : State} {m : MethodId} {args : Array Value} {below : List Frame} {meth : Method} {c : Code} {D : va_G} {ad0 ad μ : Nat → Nat} {Q : State → Prop} {h0 h hl : am_H} {H : Heap} {locs : List Loc} {kc ks pc nL : Nat} {ls : Array Slot} {st0 : List Value} {L : List (Option Value)} {S : List Value} {a : Array Value} {Pq : Option Value → am_H → Prop}
    (hr : va_Run p l e R s m args below meth c H locs kc ks (am_nc M') (am_ns M') (F0 m pc ls st0) (S.map (am_v ad)) (am_Qc D (fun k => ad (μ k)) hl Pq a) (am_FP (fun k => ad (μ k)) hl H.size))
    (T : am_St h0 D s ad0 ad h H locs) (Ll : am_L nL ad ls L) (hsub : ∀ (j : Nat) (c : am_C), hl[j]? = some (some c) → h[μ j]? = some (some (am_rc μ c)))
    (hb : ∀ r h1, Pq r h1 → am_back μ hl r h1 L S h)
    (kk : ∀ r h1, Pq r h1 → ∀ (ad1 : Nat → Nat) (H1 : Heap) (locs1 : List Loc), am_St h0 D s ad0 ad1 (am_mrg μ 0 h1 h) H1 locs1 → am_L nL ad1 ls L → W p l e R s m args below meth c H1 locs1 (kc + am_nc M') (ks + am_ns M') Q (F0 m (pc + 3) ls (((r.map (am_v μ)).toList ++ S).map (am_v ad1)))) :
    W p l e R s m args below meth c H locs kc ks Q (F0 m pc ls st0) := by
  intro T0 hT X
  obtain ⟨v, st₀, t, T', Lo, e0, X', hLo, e1, e2, ⟨⟨r, h1, adc, hp, hv, hH, had, hfresh⟩, hz, hkeep⟩, st⟩ := hr T0 hT X
  obtain ⟨b1, b2, b3⟩ := hb r h1 hp
  cases hv
  obtain ⟨t1, t2, t3, t4, t5, t6, t7, t8, t9⟩ := T
  rw [e0] at hz hfresh hkeep
  -- where a cell of the callee lies
  have old : ∀ j c, hl[j]? = some (some c) → adc j = ad (μ j) := fun j c hj => had j fun q => q.2 ⟨c, hj⟩
  have newp : ∀ j k, am_new hl h1 j → am_new hl h1 k → μ j = μ k → j = k := by
    rintro j k ⟨⟨c, hc⟩, -⟩ ⟨⟨d, hd⟩, -⟩ he
    exact b2 j k c d hc hd he
  obtain ⟨ad1, a1, a2⟩ : ∃ ad1 : Nat → Nat, (∀ j, am_new hl h1 j → ad1 (μ j) = adc j) ∧ ∀ k, (∀ j, am_new hl h1 j → μ j ≠ k) → ad1 k = ad k := by
    have hx : ∀ k, ∃ q, (∀ j, am_new hl h1 j → μ j = k → q = adc j) ∧ ((∀ j, am_new hl h1 j → μ j ≠ k) → q = ad k) := by
      intro k
      by_cases hk : ∃ j, am_new hl h1 j ∧ μ j = k
      · obtain ⟨j, hj, hjk⟩ := hk
        exact ⟨adc j, fun i hi hik => by rw [newp i j hi hj (hik.trans hjk.symm)], fun z => absurd hjk (z j hj)⟩
      · exact ⟨ad k, fun j hj hjk => absurd ⟨j, hj, hjk⟩ hk, fun _ => rfl⟩
    exact ⟨fun k => Classical.choose (hx k), fun j hj => (Classical.choose_spec (hx (μ j))).1 j hj rfl, fun k hk => (Classical.choose_spec (hx k)).2 hk⟩
  have refs : ∀ u, (u ∈ (r.toList.flatMap am_vr) ∨ ∃ (i : Nat) (c : am_C), h1[i]? = some (some c) ∧ u ∈ am_refs c) → ad1 (μ u) = adc u := by
    intro u hu
    by_cases hn : am_new hl h1 u
    · exact a1 u hn
    · rw [had u hn, a2 (μ u) fun j hj he => ?_]
      have := (b3 j hj).2.2.2 u hu he.symm
      exact hn (this ▸ hj)
  have img : ∀ j c, h1[j]? = some (some c) → ad1 (μ j) = adc j := by
    intro j c hj
    by_cases hn : am_new hl h1 j
    · exact a1 j hn
    · rw [had j hn, a2 (μ j) fun i hi he => ?_]
      obtain ⟨⟨d, hd⟩, -⟩ := id hi
      have := b2 i j d c hd hj he
      exact hn (this ▸ hi)
  have isold : ∀ j c, h1[j]? = some (some c) → ¬ am_new hl h1 j → ∃ c', hl[j]? = some (some c') ∧ am_wr c = am_wr c' := by
    intro j c hj hn
    have : ∃ c', hl[j]? = some (some c') := Classical.byContradiction fun z => hn ⟨⟨c, hj⟩, z⟩
    obtain ⟨c', hc'⟩ := this
    obtain ⟨c'', g1, g2⟩ := b1 j c' hc'
    rw [hj] at g1
    cases g1
    exact ⟨c', hc', g2⟩
  have hlt : ∀ j c, h1[j]? = some (some c) → μ j < h.length := by
    intro j c hj
    by_cases hn : am_new hl h1 j
    · exact (List.getElem?_eq_some_iff.mp (b3 j hn).1).1
    · obtain ⟨c', g, -⟩ := isold j c hj hn
      exact (List.getElem?_eq_some_iff.mp (hsub j c' g)).1
  have min : ∀ j c, h1[j]? = some (some c) → (am_mrg μ 0 h1 h)[μ j]? = some (some (am_rc μ c)) := by
    intro j c hj
    have := am_mrg_in μ j c h1 0 h hj (fun i d ne hi he => ne (b2 i j d c hi hj (by simpa using he))) (by rw [Nat.zero_add]; exact hlt j c hj)
    rw [Nat.zero_add] at this
    exact this
  have mout : ∀ k, (∀ j c, h1[j]? = some (some c) → μ j ≠ k) → (am_mrg μ 0 h1 h)[k]? = h[k]? := by
    intro k hk
    exact am_mrg_out μ k h1 0 h fun i c hi => by rw [Nat.zero_add]; exact hk i c hi
  have cases' : ∀ k c, (am_mrg μ 0 h1 h)[k]? = some (some c) → (∃ j d, h1[j]? = some (some d) ∧ μ j = k ∧ c = am_rc μ d) ∨ ((∀ j d, h1[j]? = some (some d) → μ j ≠ k) ∧ h[k]? = some (some c)) := by
    intro k c hk
    by_cases hj : ∃ j d, h1[j]? = some (some d) ∧ μ j = k
    · obtain ⟨j, d, g1, g2⟩ := hj
      have := min j d g1
      rw [g2, hk] at this
      cases this
      exact Or.inl ⟨j, d, g1, g2, rfl⟩
    · have ho : ∀ j d, h1[j]? = some (some d) → μ j ≠ k := fun j d g1 g2 => hj ⟨j, d, g1, g2⟩
      rw [mout k ho] at hk
      exact Or.inr ⟨ho, hk⟩
  have fpA : ∀ q, am_FP (fun k => ad (μ k)) hl H.size q → am_FP ad0 h0 s.heap.size q := by
    rintro q (⟨j, c, g1, g2, g3⟩ | hq)
    · rw [g3]
      exact t5 (μ j) _ (hsub j c g1) (by rw [am_wr_rc]; exact g2)
    · exact Or.inr (Nat.le_trans t6.1 hq)
  have notnew : ∀ k c, h[k]? = some (some c) → ∀ j, am_new hl h1 j → μ j ≠ k := by
    intro k c hk j hj he
    have := (b3 j hj).1
    rw [he, hk] at this
    cases this
  have outkeep : ∀ k c, (∀ j d, h1[j]? = some (some d) → μ j ≠ k) → h[k]? = some (some c) → am_cell D s ad1 (ad1 k) T'.heap c := by
    intro k c ho hk
    have hcell := t1.1 k c hk
    rw [a2 k (notnew k c hk)]
    refine am_cell.ad (hcell.kept ?_) fun u hu => a2 u fun j hj he => ?_
    · rw [e1]
      refine hkeep _ hcell.lt ?_
      rintro (⟨j, d, g1, g2, g3⟩ | hq)
      · obtain ⟨d', g4, -⟩ := b1 j d g1
        exact ho j d' g4 (t1.2 (μ j) k _ _ (hsub j d g1) hk g3.symm)
      · have := hcell.lt; omega
    · rw [← he] at hu
      exact (am_free_spec (b3 j hj).2.2.1).2.2 k c hk hu
  have hal : t.vm.Alike s.vm := by rw [← e2]; exact X'.warmed.alike.symm
  have incell : ∀ j d, h1[j]? = some (some d) → am_cell D s ad1 (ad1 (μ j)) T'.heap (am_rc μ d) := by
    intro j d hj
    rw [am_cell.ren, img j d hj, e1]
    exact ((hH.1 j d hj).moved hal).ad fun u hu => refs u (Or.inr ⟨j, d, hj, hu⟩)
  have pres : ∀ (k : Nat) (c : am_C), h[k]? = some (some c) → ∃ c' : am_C, (am_mrg μ 0 h1 h)[k]? = some (some c') := by
    intro k c hk
    by_cases hj : ∃ j d, h1[j]? = some (some d) ∧ μ j = k
    · obtain ⟨j, d, g1, g2⟩ := hj
      exact ⟨_, g2 ▸ min j d g1⟩
    · exact ⟨c, by rw [mout k fun j d g1 g2 => hj ⟨j, d, g1, g2⟩]; exact hk⟩
  have hnewk : ∀ k, am_new h0 (am_mrg μ 0 h1 h) k → (∀ j, am_new hl h1 j → μ j ≠ k) → am_new h0 h k := by
    rintro k ⟨⟨c, hc⟩, hn⟩ ho
    refine ⟨?_, hn⟩
    rcases cases' k c hc with ⟨j, d, g1, g2, -⟩ | ⟨-, g⟩
    · have nj : ¬ am_new hl h1 j := fun z => ho j z g2
      obtain ⟨c', g3, -⟩ := isold j d g1 nj
      exact ⟨_, g2 ▸ hsub j c' g3⟩
    · exact ⟨c, g⟩
  have Tn : am_St h0 D s ad0 ad1 (am_mrg μ 0 h1 h) T'.heap (locs ++ Lo) := by
    refine ⟨⟨fun k c hk => ?_, fun k k' c c' hk hk' he => ?_⟩, fun k c hk => ?_, fun k hk => ?_, fun k hk => ?_, fun k c hk hw => ?_, ⟨?_, fun q q1 q2 => ?_, fun q hq => ?_⟩, t7, ?_, ?_⟩
    · rcases cases' k c hk with ⟨j, d, g1, g2, rfl⟩ | ⟨ho, g⟩
      · rw [← g2]; exact incell j d g1
      · exact outkeep k c ho g
    · have one : ∀ k k' j d c', h1[j]? = some (some d) → μ j = k → (∀ j d, h1[j]? = some (some d) → μ j ≠ k') → h[k']? = some (some c') → ad1 k = ad1 k' → k = k' := by
        intro k k' j d c' g1 g2 ho' g' he
        rw [a2 k' (notnew k' c' g'), ← g2, img j d g1] at he
        by_cases hn : am_new hl h1 j
        · have := hfresh j hn
          have := (t1.1 k' c' g').lt
          omega
        · obtain ⟨c'', g3, -⟩ := isold j d g1 hn
          rw [old j c'' g3] at he
          rw [← g2]
          exact t1.2 (μ j) k' _ _ (hsub j c'' g3) g' he
      rcases cases' k c hk with ⟨j, d, g1, g2, -⟩ | ⟨ho, g⟩ <;> rcases cases' k' c' hk' with ⟨j', d', g1', g2', -⟩ | ⟨ho', g'⟩
      · rw [← g2, ← g2', img j d g1, img j' d' g1'] at he
        rw [← g2, ← g2', hH.2 j j' d d' g1 g1' he]
      · exact one k k' j d c' g1 g2 ho' g' he
      · exact (one k' k j' d' c g1' g2' ho g he.symm).symm
      · rw [a2 k (notnew k c g), a2 k' (notnew k' c' g')] at he
        exact t1.2 k k' c c' g g' he
    · obtain ⟨c', g⟩ := t2 k c hk
      exact pres k c' g
    · have ho : ∀ j, am_new hl h1 j → μ j ≠ k := by
        intro j hj he
        refine hk ⟨?_, ?_⟩
        · obtain ⟨⟨d, hd⟩, -⟩ := id hj
          exact ⟨_, he ▸ min j d hd⟩
        · rintro ⟨c, hc⟩
          obtain ⟨c', g⟩ := t2 k c hc
          exact notnew k c' g j hj he
      rw [a2 k ho]
      refine t3 k fun q => hk ⟨?_, q.2⟩
      obtain ⟨c, hc⟩ := q.1
      exact pres k c hc
    · by_cases ho : ∃ j, am_new hl h1 j ∧ μ j = k
      · obtain ⟨j, hj, he⟩ := ho
        rw [← he, a1 j hj]
        exact Nat.le_trans t6.1 (hfresh j hj)
      · have ho' : ∀ j, am_new hl h1 j → μ j ≠ k := fun j hj he => ho ⟨j, hj, he⟩
        rw [a2 k ho']
        exact t4 k (hnewk k hk ho')
    · rcases cases' k c hk with ⟨j, d, g1, g2, rfl⟩ | ⟨ho, g⟩
      · rw [am_wr_rc] at hw
        rw [← g2, img j d g1]
        by_cases hn : am_new hl h1 j
        · exact Or.inr (Nat.le_trans t6.1 (hfresh j hn))
        · obtain ⟨c', g3, g4⟩ := isold j d g1 hn
          rw [old j c' g3]
          exact t5 (μ j) _ (hsub j c' g3) (by rw [am_wr_rc, ← g4]; exact hw)
      · rw [a2 k (notnew k c g)]
        exact t5 k c g hw
    · rw [e1]; exact Nat.le_trans t6.1 hz
    · rw [e1, hkeep q (Nat.lt_of_lt_of_le q1 t6.1) fun z => q2 (fpA q z)]
      exact t6.2.1 q q1 q2
    · rcases List.mem_append.mp hq with z | z
      · exact t6.2.2 q z
      · exact fpA _ (hLo q z)
    · rw [a2 0 fun j hj he => by have := (b3 j hj).2.1; omega]; exact t8
    · rw [a2 1 fun j hj he => by have := (b3 j hj).2.1; omega]; exact t9
  have keepv : ∀ v, (∀ j, am_new hl h1 j → μ j ∉ am_vr v) → am_v ad1 v = am_v ad v := fun v hv => am_vr_v fun u hu => a2 u fun j hj he => hv j hj (he ▸ hu)
  have hL1 : am_L nL ad1 ls L := Ll.ad fun i v hi => keepv v fun j hj => (am_free_spec (b3 j hj).2.2.1).1 i v hi
  have hS1 : S.map (am_v ad1) = S.map (am_v ad) := am_map_v fun v hv => keepv v fun j hj => (am_free_spec (b3 j hj).2.2.1).2.1 v hv
  obtain ⟨t9, y1, y2⟩ := kk r h1 hp ad1 T'.heap (locs ++ Lo) Tn hL1 T' rfl X'
  refine ⟨t9, st t9 ?_, y2⟩
  have eS : ((r.map (am_v μ)).toList ++ S).map (am_v ad1) = (r.map (am_v adc)).toList ++ S.map (am_v ad) := by
    rw [List.map_append, hS1]
    congr 1
    cases r with
    | none => rfl
    | some w =>
      show [am_v ad1 (am_v μ w)] = [am_v adc w]
      rw [am_vv]
      congr 1
      exact am_vr_v fun u hu => refs u (Or.inl (List.mem_flatMap.mpr ⟨w, List.mem_singleton.mpr rfl, hu⟩))
  rw [eS] at y1
  exact y1
end
section
/-! calls as rows; a contract out of a body -/
def am_cal (M : am_M) (n : Nat) : Prop := Cond.code (am_y M) (am_b M) (am_n M) (am_r M) ∈ am_ws ∧ Cond.initialized (am_y M).cls ∈ am_ws ∧ ((am_y M).cls ≠ "java/lang/invoke/MethodHandle" ∧ (am_y M).cls ≠ "java/lang/invoke/VarHandle" ∧ (parseMethodDescriptor (am_y M).desc).map (fun d => d.parameters.length) = some n) ∧ am_n M ≤ 21
theorem am_gi {M M' : am_M} {n : Nat} (h : am_cal M' n) : GoodIn (am_W M) (am_W M') := by
  intro w hw
  rcases List.mem_cons.mp hw with rfl | hw
  · exact ⟨List.mem_cons_of_mem _ h.1, good_of_word (am_wsg h.1)⟩
  · exact ⟨List.mem_cons_of_mem _ hw, good_of_word (am_wsg hw)⟩
theorem am_pre {μ ad0 ad : Nat → Nat} {hl h0 h : am_H} {D : va_G} {s : State} {H : Heap} {locs : List Loc} (hm : μ 0 = 0 ∧ μ 1 = 1) (hsub : ∀ (j : Nat) (c : am_C), hl[j]? = some (some c) → h[μ j]? = some (some (am_rc μ c))) (hinj : ∀ (i j : Nat) (c d : am_C), hl[i]? = some (some c) → hl[j]? = some (some d) → μ i = μ j → i = j) (T : am_St h0 D s ad0 ad h H locs) (as : List Value) :
    ∀ U : State, U.heap = H → s.WarmedH U.vm → am_Pc D (fun k => ad (μ k)) H.size hl as ((as.map (am_v fun k => ad (μ k))).toArray) U := by
  intro U hU hW
  obtain ⟨t1, t2, t3, t4, t5, t6, ⟨t7, t7n, t70, t71⟩, t8, t9⟩ := T
  have fpA : ∀ q, am_FP (fun k => ad (μ k)) hl H.size q → am_FP ad0 h0 s.heap.size q := by
    rintro q (⟨j, c, g1, g2, g3⟩ | hq)
    · rw [g3]
      exact t5 (μ j) _ (hsub j c g1) (by rw [am_wr_rc]; exact g2)
    · exact Or.inr (Nat.le_trans t6.1 hq)
  refine ⟨rfl, by rw [hU], ⟨fun k c hk => ?_, fun i j c d hi hj he => ?_⟩, ⟨va_K.moved hW.alike t7, fun w hw => am_nwarm (List.mem_filter.mp hw).2 hW (t7n w hw), ?_, ?_⟩⟩
  · rw [hU]
    exact (am_cell.ren.mp (t1.1 (μ k) _ (hsub k c hk))).moved hW.alike
  · exact hinj i j c d hi hj (t1.2 (μ i) (μ j) _ _ (hsub i c hi) (hsub j d hj) he)
  · show va_Z _ _ _ (.ref (ad (μ 0))) _ _ _
    rw [hm.1, t8, hU]
    exact ((t70.kept fun q q1 q2 => t6.2.1 q q1 q2).narrow fpA).moved hW.alike
  · show va_Z _ _ _ (.ref (ad (μ 1))) _ _ _
    rw [hm.2, t9, hU]
    exact ((t71.kept fun q q1 q2 => t6.2.1 q q1 q2).narrow fpA).moved hW.alike
theorem am_nsame {w : Cond} (hn : am_nest w = true) {u U : State} (hvm : u.vm = U.vm) (h : va_Nw w u) : va_Nw w U := by
  cases w <;> first | (cases hn; done) | exact va_Nw.same rfl hvm h | skip
  case arrayOver t =>
    cases t <;> first | (cases hn; done) | exact va_AO.moved (by rw [hvm]; exact Vm.Alike.refl _) h
theorem am_len (ad : Nat → Nat) : ∀ as : List Value, (lg_sl (as.map (am_v ad))).length = (am_ent0 as).length
  | [] => rfl
  | v :: t => by
    have ih := am_len ad t
    have e : lg_sl ((v :: t).map (am_v ad)) = (if (am_v ad v).category = 2 then [Slot.val (am_v ad v), .second] else [Slot.val (am_v ad v)]) ++ lg_sl (t.map (am_v ad)) := rfl
    rw [e, List.length_append, ih, am_vc]
    simp only [am_ent0]
    by_cases hc : v.category = 2
    · rw [if_pos hc, if_pos hc]; simp only [List.length_cons, List.length_nil]; omega
    · rw [if_neg hc, if_neg hc]; simp only [List.length_cons, List.length_nil]; omega
theorem am_blind {D : va_G} {ad : Nat → Nat} {sz : Nat} {h : am_H} {as : List Value} : FrameBlind (am_Pc D ad sz h as) := by
  intro a U g mk q
  obtain ⟨q1, q2, q3, q4, q5, q6, q7⟩ := q
  have hA : U.vm.Alike (U.calling g mk a).vm := Vm.Alike.refl U.vm
  exact ⟨q1, q2, ⟨fun k c hk => (q3.1 k c hk).moved hA, q3.2⟩, va_K.moved hA q4, fun w hw => am_nsame (List.mem_filter.mp hw).2 (u := U) rfl (q5 w hw), q6.moved hA, q7.moved hA⟩
/-- a call of M' from M at pc, the stack st, of which S stays: it runs -/
def am_Run (M M' : am_M) (pc : Nat) (as : List Value) (hl : am_H) (Pq : Option Value → am_H → Prop) (μ : Nat → Nat) (st S : List Value) (h : am_H) : Prop :=
  ∀ (p : Program) (l : Launch) (e : Env) (R : Room) (s : State) (m : MethodId) (args : Array Value) (below : List Frame) (meth : Method) (c : Code) (D : va_G) (ad0 ad : Nat → Nat) (h0 : am_H) (H : Heap) (locs : List Loc) (ls : Array Slot) (kc ks : Nat), am_Cx M p R s m args meth c → am_St h0 D s ad0 ad h H locs → ls.size = am_n M → kc + am_nc M' ≤ am_nc M → ks + am_ns M' ≤ am_ns M →
  va_Run p l e R s m args below meth c H locs kc ks (am_nc M') (am_ns M') (F0 m pc ls (st.map (am_v ad))) (S.map (am_v ad)) (am_Qc D (fun k => ad (μ k)) hl Pq ((as.map (am_v fun k => ad (μ k))).toArray)) (am_FP (fun k => ad (μ k)) hl H.size)
theorem am_cat {ad : Nat → Nat} {S : List Value} (h : (S.map fun v => v.category).sum ≤ 8) : ((S.map (am_v ad)).map fun v => v.category).sum ≤ 8 := by
  rw [List.map_map, show ((fun v : Value => v.category) ∘ am_v ad) = (fun v : Value => v.category) from funext fun v => am_vc ad v]
  exact h
theorem am_stk {ad μ : Nat → Nat} (as S : List Value) : (((as.map (am_v μ)).reverse ++ S).map (am_v ad)) = ((as.map (am_v fun k => ad (μ k))).reverse ++ S.map (am_v ad)) := by
  rw [List.map_append, List.map_reverse, List.map_map, show (am_v ad ∘ am_v μ) = am_v (fun k => ad (μ k)) from funext fun v => am_vv ad μ v]
section
variable {M M' : am_M} {pc idx n : Nat} {as : List Value} {hl h : am_H} {Pq : Option Value → am_H → Prop} {μ : Nat → Nat} {S : List Value}
theorem am_room {R : Room} (h1 : am_lv M' + 1 ≤ am_lv M) (h2 : am_n M' ≤ 21) (h3 : am_lv M ≤ R.frames ∧ 40 * am_lv M ≤ R.locals ∧ am_nc M ≤ R.cells ∧ am_ns M ≤ R.slots) : (am_R M').frames + 1 ≤ R.frames ∧ 8 + (am_n M' + 11) + (am_R M').locals ≤ R.locals := by
  refine ⟨Nat.le_trans h1 h3.1, ?_⟩
  have := h3.2.1
  show 8 + (am_n M' + 11) + 40 * am_lv M' ≤ R.locals
  omega
theorem am_runV {b ci : Nat} {fsb : List Value} (d : decode (am_b M) pc = .ok (.invokevirtual idx, 3)) (hcal : am_cal M' n) (hlk : Cond.methodLink (am_y M).cls idx (am_y M') ∈ am_ws) (hin : Cond.instanceMethod (am_y M') ∈ am_ws) (hse : Cond.selects (am_y M').cls (am_y M') (am_y M') ∈ am_ws) (hlv : am_lv M' + 1 ≤ am_lv M) (sp : am_Sp M' (.ref b :: as) hl Pq)
    (hn : as.length = n) (hcat : (S.map fun v => v.category).sum ≤ 8) (hrc : (am_cl[ci]?).map (fun q => q.1) = some (am_y M').cls) (hb : hl[b]? = some (some (.inl (ci, fsb)))) (hm : μ 0 = 0 ∧ μ 1 = 1) (hsub : ∀ (j : Nat) (c : am_C), hl[j]? = some (some c) → h[μ j]? = some (some (am_rc μ c))) (hinj : ∀ (i j : Nat) (c d : am_C), hl[i]? = some (some c) → hl[j]? = some (some d) → μ i = μ j → i = j) :
    am_Run M M' pc (.ref b :: as) hl Pq μ (((as.map (am_v μ)).reverse ++ .ref (μ b) :: S)) S h := by
  intro p l e R s m args below meth c D ad0 ad h0 H locs ls kc ks C T hls hc hs
  have hts := C.2.2.2.2.1
  rw [am_stk]
  have hcell : am_cell D s ad (ad (μ b)) H (am_rc μ (.inl (ci, fsb))) := T.1.1 (μ b) _ (hsub b _ hb)
  obtain ⟨q', z1, cell, g1, g2, g3, -⟩ := hcell
  have hcls : s.vm.findClass (am_y M').cls = some cell.cls := by
    have hk := (T.2.2.2.2.2.2.1.1.1 ci q' z1).2.1
    rw [show am_cl[ci]? = some q' from z1] at hrc
    have : q'.1 = (am_y M').cls := Option.some.inj hrc
    rw [← this, g2]; exact hk
  have cb : CallB R s args (am_y M).cls idx (am_y M') (am_b M') (am_n M') (am_r M') (am_W M') (am_R M') (am_nc M') (am_ns M') n :=
    callB_of n hts (am_gi hcal) rfl rfl rfl (am_ts C hcal.2.1) (am_ts C hlk) hcal.2.2.1 (am_room hlv hcal.2.2.2 C.2.2.2.2.2.2)
  refine va_runV (As := as.map (am_v fun k => ad (μ k))) ⟨C.1, C.2.1, C.2.2.1, C.2.2.2.1, hts⟩ (sp l D (fun k => ad (μ k)) H.size) ⟨cb, am_ts C hin, am_ts C hse⟩ ⟨am_blind, ⟨cell, g1, by rw [g3]; rfl, hcls⟩, am_pre hm hsub hinj T (.ref b :: as)⟩ rfl (by rw [List.length_map]; exact hn) hls rfl ?_ d ⟨Nat.le_trans hc C.2.2.2.2.2.2.2.2.1, Nat.le_trans hs C.2.2.2.2.2.2.2.2.2⟩
  exact lv_room (am_cat hcat)
theorem am_runS (d : decode (am_b M) pc = .ok (.invokestatic idx, 3)) (hcal : am_cal M' n) (hlk : Cond.methodLink (am_y M).cls idx (am_y M') ∈ am_ws) (hst : Cond.static (am_y M') ∈ am_ws) (hlv : am_lv M' + 1 ≤ am_lv M) (sp : am_Sp M' as hl Pq)
    (hn : as.length = n) (hcat : (S.map fun v => v.category).sum ≤ 8) (hm : μ 0 = 0 ∧ μ 1 = 1) (hsub : ∀ (j : Nat) (c : am_C), hl[j]? = some (some c) → h[μ j]? = some (some (am_rc μ c))) (hinj : ∀ (i j : Nat) (c d : am_C), hl[i]? = some (some c) → hl[j]? = some (some d) → μ i = μ j → i = j) :
    am_Run M M' pc as hl Pq μ ((as.map (am_v μ)).reverse ++ S) S h := by
  intro p l e R s m args below meth c D ad0 ad h0 H locs ls kc ks C T hls hc hs
  have hts := C.2.2.2.2.1
  rw [am_stk]
  have cb : CallB R s args (am_y M).cls idx (am_y M') (am_b M') (am_n M') (am_r M') (am_W M') (am_R M') (am_nc M') (am_ns M') n :=
    callB_of n hts (am_gi hcal) rfl rfl rfl (am_ts C hcal.2.1) (am_ts C hlk) hcal.2.2.1 (am_room hlv hcal.2.2.2 C.2.2.2.2.2.2)
  refine va_runS (As := as.map (am_v fun k => ad (μ k))) ⟨C.1, C.2.1, C.2.2.1, C.2.2.2.1, hts⟩ (sp l D (fun k => ad (μ k)) H.size) ⟨cb, am_ts C hst⟩ ⟨am_blind, am_pre hm hsub hinj T as⟩ rfl (by rw [List.length_map]; exact hn) hls rfl ?_ d ⟨Nat.le_trans hc C.2.2.2.2.2.2.2.2.1, Nat.le_trans hs C.2.2.2.2.2.2.2.2.2⟩
  exact lv_room (am_cat hcat)
theorem am_runSN {host : String} (d : decode (am_b M) pc = .ok (.invokestatic idx, 3)) (hcal : am_cal M' n) (hlk : Cond.methodLinkNest (am_y M).cls idx (am_y M') host ∈ am_nw) (hst : Cond.static (am_y M') ∈ am_ws) (hlv : am_lv M' + 1 ≤ am_lv M) (sp : am_Sp M' as hl Pq)
    (hn : as.length = n) (hcat : (S.map fun v => v.category).sum ≤ 8) (hm : μ 0 = 0 ∧ μ 1 = 1) (hsub : ∀ (j : Nat) (c : am_C), hl[j]? = some (some c) → h[μ j]? = some (some (am_rc μ c))) (hinj : ∀ (i j : Nat) (c d : am_C), hl[i]? = some (some c) → hl[j]? = some (some d) → μ i = μ j → i = j) :
    am_Run M M' pc as hl Pq μ ((as.map (am_v μ)).reverse ++ S) S h := by
  intro p l e R s m args below meth c D ad0 ad h0 H locs ls kc ks C T hls hc hs
  have hts := C.2.2.2.2.1
  rw [am_stk]
  have cb : va_CN R s args (am_y M).cls idx (am_y M') host (am_b M') (am_n M') (am_r M') (am_W M') (am_R M') (am_nc M') (am_ns M') n :=
    va_cnB n hts (am_gi hcal) rfl rfl rfl (T.2.2.2.2.2.2.1.2.1 _ hlk) (am_ts C hcal.2.1) hcal.2.2.1 (am_room hlv hcal.2.2.2 C.2.2.2.2.2.2)
  refine va_runSN (As := as.map (am_v fun k => ad (μ k))) ⟨C.1, C.2.1, C.2.2.1, C.2.2.2.1, hts⟩ (sp l D (fun k => ad (μ k)) H.size) ⟨cb, am_ts C hst, trivial⟩ ⟨am_blind, am_pre hm hsub hinj T as⟩ rfl (by rw [List.length_map]; exact hn) hls rfl ?_ d ⟨Nat.le_trans hc C.2.2.2.2.2.2.2.2.1, Nat.le_trans hs C.2.2.2.2.2.2.2.2.2⟩
  exact lv_room (am_cat hcat)
theorem am_runI {b : Nat} (d : decode (am_b M) pc = .ok (.invokespecial idx, 3)) (hcal : am_cal M' n) (hret : am_r M' = none) (hnm : (am_y M').name = "<init>") (hlk : Cond.methodLink (am_y M).cls idx (am_y M') ∈ am_ws) (hin : Cond.instanceMethod (am_y M') ∈ am_ws) (hlv : am_lv M' + 1 ≤ am_lv M) (sp : am_Sp M' (.ref b :: as) hl Pq)
    (hn : as.length = n) (hcat : (S.map fun v => v.category).sum ≤ 8) (hm : μ 0 = 0 ∧ μ 1 = 1) (hsub : ∀ (j : Nat) (c : am_C), hl[j]? = some (some c) → h[μ j]? = some (some (am_rc μ c))) (hinj : ∀ (i j : Nat) (c d : am_C), hl[i]? = some (some c) → hl[j]? = some (some d) → μ i = μ j → i = j) :
    am_Run M M' pc (.ref b :: as) hl Pq μ (((as.map (am_v μ)).reverse ++ .ref (μ b) :: S)) S h := by
  intro p l e R s m args below meth c D ad0 ad h0 H locs ls kc ks C T hls hc hs
  have hts := C.2.2.2.2.1
  rw [am_stk]
  have cb : CallB R s args (am_y M).cls idx (am_y M') (am_b M') (am_n M') (am_r M') (am_W M') (am_R M') (am_nc M') (am_ns M') n :=
    callB_of n hts (am_gi hcal) rfl rfl rfl (am_ts C hcal.2.1) (am_ts C hlk) hcal.2.2.1 (am_room hlv hcal.2.2.2 C.2.2.2.2.2.2)
  rw [hret] at cb
  refine va_runI (As := as.map (am_v fun k => ad (μ k))) ⟨C.1, C.2.1, C.2.2.1, C.2.2.2.1, hts⟩ (sp l D (fun k => ad (μ k)) H.size) ⟨cb, hnm, am_ts C hin⟩ ⟨am_blind, am_pre hm hsub hinj T (.ref b :: as)⟩ rfl (by rw [List.length_map]; exact hn) hls rfl ?_ d ⟨Nat.le_trans hc C.2.2.2.2.2.2.2.2.1, Nat.le_trans hs C.2.2.2.2.2.2.2.2.2⟩
  exact lv_room (am_cat hcat)
theorem am_runIN {b : Nat} {host : String} (d : decode (am_b M) pc = .ok (.invokespecial idx, 3)) (hcal : am_cal M' n) (hret : am_r M' = none) (hnm : (am_y M').name = "<init>") (hlk : Cond.methodLinkNest (am_y M).cls idx (am_y M') host ∈ am_nw) (hin : Cond.instanceMethod (am_y M') ∈ am_ws) (hlv : am_lv M' + 1 ≤ am_lv M) (sp : am_Sp M' (.ref b :: as) hl Pq)
    (hn : as.length = n) (hcat : (S.map fun v => v.category).sum ≤ 8) (hm : μ 0 = 0 ∧ μ 1 = 1) (hsub : ∀ (j : Nat) (c : am_C), hl[j]? = some (some c) → h[μ j]? = some (some (am_rc μ c))) (hinj : ∀ (i j : Nat) (c d : am_C), hl[i]? = some (some c) → hl[j]? = some (some d) → μ i = μ j → i = j) :
    am_Run M M' pc (.ref b :: as) hl Pq μ (((as.map (am_v μ)).reverse ++ .ref (μ b) :: S)) S h := by
  intro p l e R s m args below meth c D ad0 ad h0 H locs ls kc ks C T hls hc hs
  have hts := C.2.2.2.2.1
  rw [am_stk]
  have cb : va_CN R s args (am_y M).cls idx (am_y M') host (am_b M') (am_n M') (am_r M') (am_W M') (am_R M') (am_nc M') (am_ns M') n :=
    va_cnB n hts (am_gi hcal) rfl rfl rfl (T.2.2.2.2.2.2.1.2.1 _ hlk) (am_ts C hcal.2.1) hcal.2.2.1 (am_room hlv hcal.2.2.2 C.2.2.2.2.2.2)
  rw [hret] at cb
  refine va_runIN (As := as.map (am_v fun k => ad (μ k))) ⟨C.1, C.2.1, C.2.2.1, C.2.2.2.1, hts⟩ (sp l D (fun k => ad (μ k)) H.size) ⟨cb, hnm, am_ts C hin⟩ ⟨am_blind, am_pre hm hsub hinj T (.ref b :: as)⟩ rfl (by rw [List.length_map]; exact hn) hls rfl ?_ d ⟨Nat.le_trans hc C.2.2.2.2.2.2.2.2.1, Nat.le_trans hs C.2.2.2.2.2.2.2.2.2⟩
  exact lv_room (am_cat hcat)
end
theorem ar_call {M M' : am_M} {h0 : am_H} {P : Option Value → am_H → Prop} {kc ks pc : Nat} {L : List (Option Value)} {st S : List Value} {h hl : am_H} {as : List Value} {Pq : Option Value → am_H → Prop} {μ : Nat → Nat} (hr : am_Run M M' pc as hl Pq μ st S h) (hc : kc + am_nc M' ≤ am_nc M) (hs : ks + am_ns M' ≤ am_ns M) (hsub : ∀ (j : Nat) (c : am_C), hl[j]? = some (some c) → h[μ j]? = some (some (am_rc μ c)))
    (k : ∀ r h1, Pq r h1 → am_back μ hl r h1 L S h ∧ am_RW M h0 P (kc + am_nc M') (ks + am_ns M') (pc + 3) L ((r.map (am_v μ)).toList ++ S) (am_mrg μ 0 h1 h)) : am_RW M h0 P kc ks pc L st h := by
  intro p l e R s m args below meth c D ad0 Q C F ad H locs ls T Ll
  exact am_callC (hr p l e R s m args below meth c D ad0 ad h0 H locs ls kc ks C T Ll.1 hc hs) T Ll hsub (fun r h1 hp => (k r h1 hp).1) fun r h1 hp ad1 H1 locs1 T1 L1 => (k r h1 hp).2 p l e R s m args below meth c D ad0 Q C F ad1 H1 locs1 ls T1 L1
/-- a contract out of the body's judgement -/
theorem am_intro {M : am_M} {as : List Value} {h : am_H} {P : Option Value → am_H → Prop} (hy : plainName (am_y M).cls = true) (hn : (am_ent0 as).length ≤ am_n M) (k : am_RW M h P 0 0 0 (am_ent as (am_n M)) [] h) : am_Sp M as h P := by
  intro l D ad sz
  refine Met.ofW (cc := am_b M) (maxL := am_n M) (ret := am_r M) hy rfl ?_
  intro p e s m args below meth c s₁ B hml hv
  obtain ⟨rfl, hsz, hH, hE⟩ := hv
  subst hsz
  have hx := B.exec
  have hb := B.bytes
  have hr := B.returns
  have hlocks := B.notSynchronized
  have hts := atoms_spec (ws := am_W M) B.pre
  have hown : s.vm.findClass (am_y M).cls = some m.cls := findClass_of_methodNamed B.named
  have hin : meth.name = (am_y M).name := (name_of_methodNamed B.named B.method).1
  have hlen := am_len ad as
  have hl0 := lv_entry (as.map (am_v ad)) (n := am_n M) (by rw [hlen]; exact hn)
  rw [lg_entry_eq]
  have T : am_St h D s ad ad h s.heap [] := ⟨hH, fun k c hk => ⟨c, hk⟩, fun _ _ => rfl, fun k hk => absurd hk.1 hk.2, fun k c hk hw => Or.inl ⟨k, c, hk, hw, rfl⟩, va_S.rf, hE, rfl, rfl⟩
  have Ll : am_L (am_n M) ad _ (am_ent as (am_n M)) := am_L.of hl0 fun i v hi => am_ent_in hi
  refine k p l e _ s m _ below meth c D ad _ ⟨hx, hb, hml, hown, hts, hin, Nat.le_refl _, Nat.le_refl _, Nat.le_refl _, Nat.le_refl _⟩ ?_ ad s.heap [] _ T Ll
  intro r h1 ad1 H locs kc ks ls pc hkc hks hp T1 hri
  obtain ⟨t1, t2, t3, t4, t5, t6, t7, t8⟩ := T1
  have post : ∀ t : State, t.heap = H → s.WarmedH t.vm → am_Qc D ad h P ((as.map (am_v ad)).toArray) s (.returned (r.map (am_v ad1))) t := by
    intro t ht hW
    refine ⟨⟨r, h1, ad1, hp, rfl, ⟨fun k c hk => ?_, t1.2⟩, t3, t4⟩, t6.F ht⟩
    rw [ht]
    exact (t1.1 k c hk).moved hW.alike
  refine W.widen hkc hks ?_
  match r, hri, post with
  | none, hri, post =>
    exact W.vret hx hb (hr.trans hri.1) post t6.2.2 hri.2
  | some (.int v), hri, post =>
    obtain ⟨⟨ty, h2, h3⟩, h4⟩ := hri
    exact W.zret hx hb (hr.trans h2) h3 post t6.2.2 h4
  | some (.ref v), hri, post =>
    obtain ⟨⟨n, h2⟩, h4⟩ := hri
    exact W.aret hx hb (hr.trans h2) (Or.inl ⟨n, rfl⟩) (Or.inr ⟨_, rfl⟩) post t6.2.2 h4
  | some (.long v), hri, post => exact hri.elim
  | some (.float v), hri, post => exact hri.elim
  | some (.double v), hri, post => exact hri.elim
  | some .null, hri, post => exact hri.elim
  | some (.retAddr v), hri, post => exact hri.elim
end
section
/-! printed: the methods as the abstract machine has them; what their instructions link -/
def mJ6_bitCount_0f7a4 : am_M := (yJ6_bitCount_0f7a4, cJ6_bitCount_0f7a4, 1, (some .int), 1, 0, 0)
def mJ9_abs_0f7a4 : am_M := (yJ9_abs_0f7a4, cJ9_abs_0f7a4, 1, (some .int), 1, 0, 0)
def mJ9_max_7cf53 : am_M := (yJ9_max_7cf53, cJ9_max_7cf53, 2, (some .int), 1, 0, 0)
def mJ9_min_7cf53 : am_M := (yJ9_min_7cf53, cJ9_min_7cf53, 2, (some .int), 1, 0, 0)
def mX1_init : am_M := (yX1_init, cX1_init, 1, none, 1, 1, 6)
def mX2_append : am_M := (yX2_append, cX2_append, 7, none, 1, 0, 0)
def mX2_countLetters : am_M := (yX2_countLetters, cX2_countLetters, 7, (some .int), 1, 0, 0)
def mX2_init : am_M := (yX2_init, cX2_init, 1, none, 1, 3, 76)
def mX2_readComma : am_M := (yX2_readComma, cX2_readComma, 2, (some .int), 1, 0, 0)
def mX2_readHeight : am_M := (yX2_readHeight, cX2_readHeight, 2, (some .int), 1, 0, 0)
def mX2_readPitch : am_M := (yX2_readPitch, cX2_readPitch, 2, (some .int), 1, 0, 0)
def mX3_addBooth : am_M := (yX3_addBooth, cX3_addBooth, 3, none, 1, 0, 0)
def mX3_changeSetting : am_M := (yX3_changeSetting, cX3_changeSetting, 3, none, 1, 0, 0)
def mX3_draw : am_M := (yX3_draw, cX3_draw, 2, (some .int), 1, 0, 0)
def mX3_forgetLots : am_M := (yX3_forgetLots, cX3_forgetLots, 2, none, 1, 0, 0)
def mX3_isBooth : am_M := (yX3_isBooth, cX3_isBooth, 2, (some .boolean), 1, 0, 0)
def mX3_setting : am_M := (yX3_setting, cX3_setting, 2, (some .int), 1, 0, 0)
def mX4_init : am_M := (yX4_init, cX4_init, 2, none, 1, 2, 24)
def mX4_walk : am_M := (yX4_walk, cX4_walk, 8, none, 1, 0, 0)
def mX5_clear : am_M := (yX5_clear, cX5_clear, 2, none, 1, 0, 0)
def mX5_streamFrom : am_M := (yX5_streamFrom, cX5_streamFrom, 2, (some (.object "PuppetPitches$Stream")), 1, 0, 0)
def mX6_copyRow : am_M := (yX6_copyRow, cX6_copyRow, 3, none, 1, 0, 0)
def mX6_isHeight : am_M := (yX6_isHeight, cX6_isHeight, 1, (some .boolean), 1, 0, 0)
def mX6_isPitch : am_M := (yX6_isPitch, cX6_isPitch, 1, (some .boolean), 1, 0, 0)
def mX6_lot : am_M := (yX6_lot, cX6_lot, 2, (some .int), 1, 0, 0)
def mX6_wipe : am_M := (yX6_wipe, cX6_wipe, 2, (some .int), 1, 0, 0)
def mX7_at : am_M := (yX7_at, cX7_at, 2, (some .int), 1, 0, 0)
def mX7_copies : am_M := (yX7_copies, cX7_copies, 2, none, 1, 0, 0)
def mX7_crowdOf : am_M := (yX7_crowdOf, cX7_crowdOf, 2, (some .int), 1, 0, 0)
def mX7_draws : am_M := (yX7_draws, cX7_draws, 3, (some .int), 1, 0, 0)
def mX7_forgets : am_M := (yX7_forgets, cX7_forgets, 2, none, 1, 0, 0)
def mX7_in : am_M := (yX7_in, cX7_in, 3, (some .boolean), 1, 0, 0)
def mX7_mostOf : am_M := (yX7_mostOf, cX7_mostOf, 1, (some .int), 1, 0, 0)
def mX7_remembers : am_M := (yX7_remembers, cX7_remembers, 2, none, 1, 0, 0)
def mX7_roofs : am_M := (yX7_roofs, cX7_roofs, 3, (some .int), 1, 0, 0)
def mX7_sign : am_M := (yX7_sign, cX7_sign, 2, (some .int), 1, 0, 0)
def mX7_undo : am_M := (yX7_undo, cX7_undo, 2, (some .int), 1, 0, 0)
def mX7_wipe : am_M := (yX7_wipe, cX7_wipe, 2, (some .int), 1, 0, 0)
def mX0_drawLots : am_M := (yX0_drawLots, cX0_drawLots, 5, none, 2, 0, 0)
def mX2_hasSharedPitch : am_M := (yX2_hasSharedPitch, cX2_hasSharedPitch, 4, (some .boolean), 2, 0, 0)
def mX2_readFirstDigit : am_M := (yX2_readFirstDigit, cX2_readFirstDigit, 2, (some .int), 2, 0, 0)
def mX3_closeUp : am_M := (yX3_closeUp, cX3_closeUp, 3, none, 2, 0, 0)
def mX3_copyFrom : am_M := (yX3_copyFrom, cX3_copyFrom, 2, none, 2, 0, 0)
def mX3_forgetBooths : am_M := (yX3_forgetBooths, cX3_forgetBooths, 1, none, 2, 0, 0)
def mX3_init : am_M := (yX3_init, cX3_init, 1, none, 2, 7, 54)
def mX3_isRoofed : am_M := (yX3_isRoofed, cX3_isRoofed, 2, (some .boolean), 2, 0, 0)
def mX3_isStanding : am_M := (yX3_isStanding, cX3_isStanding, 2, (some .boolean), 2, 0, 0)
def mX4_isSeen : am_M := (yX4_isSeen, cX4_isSeen, 3, (some .boolean), 2, 0, 0)
def mX5_init : am_M := (yX5_init, cX5_init, 1, none, 2, 7, 70)
def mX5_isOpen : am_M := (yX5_isOpen, cX5_isOpen, 4, (some .boolean), 2, 0, 0)
def mX5_letPeoplePass : am_M := (yX5_letPeoplePass, cX5_letPeoplePass, 2, none, 2, 0, 0)
def mX5_raise : am_M := (yX5_raise, cX5_raise, 3, none, 2, 0, 0)
def mX6_put : am_M := (yX6_put, cX6_put, 4, (some .int), 2, 0, 0)
def mX7_boothAt : am_M := (yX7_boothAt, cX7_boothAt, 4, (some .int), 2, 0, 0)
def mX7_comes : am_M := (yX7_comes, cX7_comes, 4, none, 2, 0, 0)
def mX7_digit : am_M := (yX7_digit, cX7_digit, 2, (some .int), 2, 0, 0)
def mX7_init : am_M := (yX7_init, cX7_init, 1, none, 2, 6, 678)
def mX7_isBooth : am_M := (yX7_isBooth, cX7_isBooth, 2, (some .boolean), 2, 0, 0)
def mX7_isFree : am_M := (yX7_isFree, cX7_isFree, 7, (some .boolean), 2, 0, 0)
def mX7_isPitch : am_M := (yX7_isPitch, cX7_isPitch, 1, (some .boolean), 2, 0, 0)
def mX7_its : am_M := (yX7_its, cX7_its, 3, (some .int), 2, 0, 0)
def mX7_lot : am_M := (yX7_lot, cX7_lot, 2, (some .int), 2, 0, 0)
def mX7_lots : am_M := (yX7_lots, cX7_lots, 6, none, 2, 0, 0)
def mX7_put : am_M := (yX7_put, cX7_put, 8, (some .int), 2, 0, 0)
def mX7_restore : am_M := (yX7_restore, cX7_restore, 3, (some .int), 2, 0, 0)
def mX7_save : am_M := (yX7_save, cX7_save, 3, (some .int), 2, 0, 0)
def mX7_set : am_M := (yX7_set, cX7_set, 4, (some .int), 2, 0, 0)
def mX7_shuffle : am_M := (yX7_shuffle, cX7_shuffle, 3, (some .int), 2, 0, 0)
def mX1_record : am_M := (yX1_record, cX1_record, 2, none, 3, 8, 67)
def mX1_takeBack : am_M := (yX1_takeBack, cX1_takeBack, 3, none, 3, 0, 0)
def mX2_stageAfter : am_M := (yX2_stageAfter, cX2_stageAfter, 3, (some .int), 3, 0, 0)
def mX3_boothAt : am_M := (yX3_boothAt, cX3_boothAt, 3, (some .int), 3, 0, 0)
def mX3_countStanding : am_M := (yX3_countStanding, cX3_countStanding, 3, (some .int), 3, 0, 0)
def mX3_hides : am_M := (yX3_hides, cX3_hides, 4, (some .boolean), 3, 0, 0)
def mX3_removeBooth : am_M := (yX3_removeBooth, cX3_removeBooth, 3, none, 3, 0, 0)
def mX4_stopping : am_M := (yX4_stopping, cX4_stopping, 3, (some .int), 3, 0, 0)
def mX5_look : am_M := (yX5_look, cX5_look, 4, none, 3, 0, 0)
def mX6_init : am_M := (yX6_init, cX6_init, 1, none, 3, 31, 299)
def mX6_save : am_M := (yX6_save, cX6_save, 2, (some .int), 3, 8, 67)
def mX7_come : am_M := (yX7_come, cX7_come, 2, (some .int), 3, 0, 0)
def mX7_go : am_M := (yX7_go, cX7_go, 4, (some .int), 3, 0, 0)
def mX7_goes : am_M := (yX7_goes, cX7_goes, 8, (some .int), 3, 0, 0)
def mX7_height : am_M := (yX7_height, cX7_height, 4, (some .int), 3, 0, 0)
def mX7_hides : am_M := (yX7_hides, cX7_hides, 6, (some .boolean), 3, 0, 0)
def mX7_highest : am_M := (yX7_highest, cX7_highest, 7, (some .int), 3, 0, 0)
def mX7_isOthers : am_M := (yX7_isOthers, cX7_isOthers, 4, (some .boolean), 3, 0, 0)
def mX7_partEnd : am_M := (yX7_partEnd, cX7_partEnd, 2, (some .int), 3, 0, 0)
def mX7_pitch : am_M := (yX7_pitch, cX7_pitch, 3, (some .int), 3, 0, 0)
def mX7_roof : am_M := (yX7_roof, cX7_roof, 3, (some .int), 3, 0, 0)
def mX7_standing : am_M := (yX7_standing, cX7_standing, 3, (some .int), 3, 0, 0)
def mX2_findFault : am_M := (yX2_findFault, cX2_findFault, 3, (some .int), 4, 0, 0)
def mX3_isHidden : am_M := (yX3_isHidden, cX3_isHidden, 4, (some .boolean), 4, 0, 0)
def mX3_isTakenByOther : am_M := (yX3_isTakenByOther, cX3_isTakenByOther, 4, (some .boolean), 4, 0, 0)
def mX5_crowdAt : am_M := (yX5_crowdAt, cX5_crowdAt, 3, (some .int), 4, 0, 0)
def mX6_come : am_M := (yX6_come, cX6_come, 2, (some .int), 4, 8, 67)
def mX6_go : am_M := (yX6_go, cX6_go, 3, (some .int), 4, 8, 67)
def mX6_height : am_M := (yX6_height, cX6_height, 4, (some .int), 4, 8, 67)
def mX6_pitch : am_M := (yX6_pitch, cX6_pitch, 3, (some .int), 4, 0, 0)
def mX6_restore : am_M := (yX6_restore, cX6_restore, 3, (some .int), 4, 8, 67)
def mX6_roof : am_M := (yX6_roof, cX6_roof, 3, (some .int), 4, 8, 67)
def mX6_set : am_M := (yX6_set, cX6_set, 4, (some .int), 4, 8, 67)
def mX6_shuffle : am_M := (yX6_shuffle, cX6_shuffle, 3, (some .int), 4, 8, 67)
def mX6_stoppingFrom : am_M := (yX6_stoppingFrom, cX6_stoppingFrom, 3, (some .int), 4, 0, 0)
def mX6_stoppingNowhere : am_M := (yX6_stoppingNowhere, cX6_stoppingNowhere, 1, (some .int), 4, 0, 0)
def mX6_undo : am_M := (yX6_undo, cX6_undo, 1, (some .int), 4, 0, 0)
def mX7_crowds : am_M := (yX7_crowds, cX7_crowds, 3, (some .int), 4, 0, 0)
def mX7_fault : am_M := (yX7_fault, cX7_fault, 4, (some .int), 4, 0, 0)
def mX7_isHidden : am_M := (yX7_isHidden, cX7_isHidden, 5, (some .boolean), 4, 0, 0)
def mX7_pitchOf : am_M := (yX7_pitchOf, cX7_pitchOf, 3, (some .int), 4, 0, 0)
def mX7_stand : am_M := (yX7_stand, cX7_stand, 4, (some .int), 4, 0, 0)
def mX0_passHats : am_M := (yX0_passHats, cX0_passHats, 9, (some .int), 5, 0, 0)
def mX5_bestOpenPitch : am_M := (yX5_bestOpenPitch, cX5_bestOpenPitch, 7, (some .int), 5, 0, 0)
def mX6_bestHeight : am_M := (yX6_bestHeight, cX6_bestHeight, 6, (some .int), 5, 0, 0)
def mX6_booth : am_M := (yX6_booth, cX6_booth, 3, (some .int), 5, 0, 0)
def mX6_count : am_M := (yX6_count, cX6_count, 2, (some .int), 5, 0, 0)
def mX6_fault : am_M := (yX6_fault, cX6_fault, 1, (some .int), 5, 0, 0)
def mX6_ifStood : am_M := (yX6_ifStood, cX6_ifStood, 3, (some .int), 5, 0, 0)
def mX6_read : am_M := (yX6_read, cX6_read, 2, (some .int), 5, 8, 67)
def mX6_seen : am_M := (yX6_seen, cX6_seen, 6, (some .int), 5, 0, 0)
def mX6_stand : am_M := (yX6_stand, cX6_stand, 4, (some .int), 5, 8, 67)
def mX7_crowd : am_M := (yX7_crowd, cX7_crowd, 4, (some .int), 5, 0, 0)
def mX7_crowdAt : am_M := (yX7_crowdAt, cX7_crowdAt, 6, (some .int), 5, 0, 0)
def mX7_crowdsNow : am_M := (yX7_crowdsNow, cX7_crowdsNow, 2, (some .int), 5, 0, 0)
def mX7_isTwice : am_M := (yX7_isTwice, cX7_isTwice, 5, (some .boolean), 5, 0, 0)
def mX7_seen : am_M := (yX7_seen, cX7_seen, 5, (some .int), 5, 0, 0)
def mX0_choosePitches : am_M := (yX0_choosePitches, cX0_choosePitches, 5, none, 6, 0, 0)
def mX6_bestPitch : am_M := (yX6_bestPitch, cX6_bestPitch, 2, (some .int), 6, 0, 0)
def mX7_bestHeight : am_M := (yX7_bestHeight, cX7_bestHeight, 7, (some .int), 6, 0, 0)
def mX7_bestPitch : am_M := (yX7_bestPitch, cX7_bestPitch, 6, (some .int), 6, 0, 0)
def mX7_booth : am_M := (yX7_booth, cX7_booth, 3, (some .int), 6, 0, 0)
def mX7_chooses : am_M := (yX7_chooses, cX7_chooses, 7, none, 6, 0, 0)
def mX7_count : am_M := (yX7_count, cX7_count, 2, (some .int), 6, 0, 0)
def mX7_ifStood : am_M := (yX7_ifStood, cX7_ifStood, 3, (some .int), 6, 0, 0)
def mX7_read : am_M := (yX7_read, cX7_read, 2, (some .int), 6, 0, 0)
def mX0_pass : am_M := (yX0_pass, cX0_pass, 3, (some .int), 7, 0, 0)
def mX7_plays : am_M := (yX7_plays, cX7_plays, 9, (some .int), 7, 0, 0)
def mX6_ifPlayed : am_M := (yX6_ifPlayed, cX6_ifPlayed, 5, (some .int), 8, 0, 0)
def mX6_play : am_M := (yX6_play, cX6_play, 1, (some .int), 8, 8, 67)
def mX7_ifPlayed : am_M := (yX7_ifPlayed, cX7_ifPlayed, 5, (some .int), 8, 0, 0)
def mX7_play : am_M := (yX7_play, cX7_play, 1, (some .int), 8, 0, 0)
def mL_law : am_M := (yL_law, cL_law, 4, (some .boolean), 9, 600000, 7302250)
theorem cal_J6_bitCount_0f7a4 : am_cal mJ6_bitCount_0f7a4 1 := ⟨(am_wsin (List.mem_of_getElem? (i := 283) (by decide +kernel)) (by decide +kernel)), (am_wsin (List.mem_of_getElem? (i := 47) (by decide +kernel)) (by decide +kernel)), by decide +kernel, by decide +kernel⟩
theorem cal_J9_abs_0f7a4 : am_cal mJ9_abs_0f7a4 1 := ⟨(am_wsin (List.mem_of_getElem? (i := 401) (by decide +kernel)) (by decide +kernel)), (am_wsin (List.mem_of_getElem? (i := 46) (by decide +kernel)) (by decide +kernel)), by decide +kernel, by decide +kernel⟩
theorem cal_J9_max_7cf53 : am_cal mJ9_max_7cf53 2 := ⟨(am_wsin (List.mem_of_getElem? (i := 316) (by decide +kernel)) (by decide +kernel)), (am_wsin (List.mem_of_getElem? (i := 46) (by decide +kernel)) (by decide +kernel)), by decide +kernel, by decide +kernel⟩
theorem cal_J9_min_7cf53 : am_cal mJ9_min_7cf53 2 := ⟨(am_wsin (List.mem_of_getElem? (i := 260) (by decide +kernel)) (by decide +kernel)), (am_wsin (List.mem_of_getElem? (i := 46) (by decide +kernel)) (by decide +kernel)), by decide +kernel, by decide +kernel⟩
theorem cal_X1_init : am_cal mX1_init 0 := ⟨(am_wsin (List.mem_of_getElem? (i := 209) (by decide +kernel)) (by decide +kernel)), (am_wsin (List.mem_of_getElem? (i := 44) (by decide +kernel)) (by decide +kernel)), by decide +kernel, by decide +kernel⟩
theorem cal_X2_append : am_cal mX2_append 2 := ⟨(am_wsin (List.mem_of_getElem? (i := 540) (by decide +kernel)) (by decide +kernel)), (am_wsin (List.mem_of_getElem? (i := 43) (by decide +kernel)) (by decide +kernel)), by decide +kernel, by decide +kernel⟩
theorem cal_X2_countLetters : am_cal mX2_countLetters 1 := ⟨(am_wsin (List.mem_of_getElem? (i := 533) (by decide +kernel)) (by decide +kernel)), (am_wsin (List.mem_of_getElem? (i := 43) (by decide +kernel)) (by decide +kernel)), by decide +kernel, by decide +kernel⟩
theorem cal_X2_init : am_cal mX2_init 0 := ⟨(am_wsin (List.mem_of_getElem? (i := 182) (by decide +kernel)) (by decide +kernel)), (am_wsin (List.mem_of_getElem? (i := 43) (by decide +kernel)) (by decide +kernel)), by decide +kernel, by decide +kernel⟩
theorem cal_X2_readComma : am_cal mX2_readComma 1 := ⟨(am_wsin (List.mem_of_getElem? (i := 432) (by decide +kernel)) (by decide +kernel)), (am_wsin (List.mem_of_getElem? (i := 43) (by decide +kernel)) (by decide +kernel)), by decide +kernel, by decide +kernel⟩
theorem cal_X2_readHeight : am_cal mX2_readHeight 1 := ⟨(am_wsin (List.mem_of_getElem? (i := 428) (by decide +kernel)) (by decide +kernel)), (am_wsin (List.mem_of_getElem? (i := 43) (by decide +kernel)) (by decide +kernel)), by decide +kernel, by decide +kernel⟩
theorem cal_X2_readPitch : am_cal mX2_readPitch 1 := ⟨(am_wsin (List.mem_of_getElem? (i := 440) (by decide +kernel)) (by decide +kernel)), (am_wsin (List.mem_of_getElem? (i := 43) (by decide +kernel)) (by decide +kernel)), by decide +kernel, by decide +kernel⟩
theorem cal_X3_addBooth : am_cal mX3_addBooth 2 := ⟨(am_wsin (List.mem_of_getElem? (i := 297) (by decide +kernel)) (by decide +kernel)), (am_wsin (List.mem_of_getElem? (i := 40) (by decide +kernel)) (by decide +kernel)), by decide +kernel, by decide +kernel⟩
theorem cal_X3_changeSetting : am_cal mX3_changeSetting 2 := ⟨(am_wsin (List.mem_of_getElem? (i := 268) (by decide +kernel)) (by decide +kernel)), (am_wsin (List.mem_of_getElem? (i := 40) (by decide +kernel)) (by decide +kernel)), by decide +kernel, by decide +kernel⟩
theorem cal_X3_draw : am_cal mX3_draw 1 := ⟨(am_wsin (List.mem_of_getElem? (i := 356) (by decide +kernel)) (by decide +kernel)), (am_wsin (List.mem_of_getElem? (i := 40) (by decide +kernel)) (by decide +kernel)), by decide +kernel, by decide +kernel⟩
theorem cal_X3_forgetLots : am_cal mX3_forgetLots 0 := ⟨(am_wsin (List.mem_of_getElem? (i := 71) (by decide +kernel)) (by decide +kernel)), (am_wsin (List.mem_of_getElem? (i := 40) (by decide +kernel)) (by decide +kernel)), by decide +kernel, by decide +kernel⟩
theorem cal_X3_isBooth : am_cal mX3_isBooth 1 := ⟨(am_wsin (List.mem_of_getElem? (i := 305) (by decide +kernel)) (by decide +kernel)), (am_wsin (List.mem_of_getElem? (i := 40) (by decide +kernel)) (by decide +kernel)), by decide +kernel, by decide +kernel⟩
theorem cal_X3_setting : am_cal mX3_setting 1 := ⟨(am_wsin (List.mem_of_getElem? (i := 264) (by decide +kernel)) (by decide +kernel)), (am_wsin (List.mem_of_getElem? (i := 40) (by decide +kernel)) (by decide +kernel)), by decide +kernel, by decide +kernel⟩
theorem cal_X4_init : am_cal mX4_init 1 := ⟨(am_wsin (List.mem_of_getElem? (i := 147) (by decide +kernel)) (by decide +kernel)), (am_wsin (List.mem_of_getElem? (i := 42) (by decide +kernel)) (by decide +kernel)), by decide +kernel, by decide +kernel⟩
theorem cal_X4_walk : am_cal mX4_walk 3 := ⟨(am_wsin (List.mem_of_getElem? (i := 376) (by decide +kernel)) (by decide +kernel)), (am_wsin (List.mem_of_getElem? (i := 42) (by decide +kernel)) (by decide +kernel)), by decide +kernel, by decide +kernel⟩
theorem cal_X5_clear : am_cal mX5_clear 0 := ⟨(am_wsin (List.mem_of_getElem? (i := 367) (by decide +kernel)) (by decide +kernel)), (am_wsin (List.mem_of_getElem? (i := 41) (by decide +kernel)) (by decide +kernel)), by decide +kernel, by decide +kernel⟩
theorem cal_X5_streamFrom : am_cal mX5_streamFrom 1 := ⟨(am_wsin (List.mem_of_getElem? (i := 470) (by decide +kernel)) (by decide +kernel)), (am_wsin (List.mem_of_getElem? (i := 41) (by decide +kernel)) (by decide +kernel)), by decide +kernel, by decide +kernel⟩
theorem cal_X6_copyRow : am_cal mX6_copyRow 2 := ⟨(am_wsin (List.mem_of_getElem? (i := 67) (by decide +kernel)) (by decide +kernel)), (am_wsin (List.mem_of_getElem? (i := 39) (by decide +kernel)) (by decide +kernel)), by decide +kernel, by decide +kernel⟩
theorem cal_X6_isHeight : am_cal mX6_isHeight 1 := ⟨(am_wsin (List.mem_of_getElem? (i := 293) (by decide +kernel)) (by decide +kernel)), (am_wsin (List.mem_of_getElem? (i := 39) (by decide +kernel)) (by decide +kernel)), by decide +kernel, by decide +kernel⟩
theorem cal_X6_isPitch : am_cal mX6_isPitch 1 := ⟨(am_wsin (List.mem_of_getElem? (i := 275) (by decide +kernel)) (by decide +kernel)), (am_wsin (List.mem_of_getElem? (i := 39) (by decide +kernel)) (by decide +kernel)), by decide +kernel, by decide +kernel⟩
theorem cal_X6_lot : am_cal mX6_lot 1 := ⟨(am_wsin (List.mem_of_getElem? (i := 508) (by decide +kernel)) (by decide +kernel)), (am_wsin (List.mem_of_getElem? (i := 39) (by decide +kernel)) (by decide +kernel)), by decide +kernel, by decide +kernel⟩
theorem cal_X6_wipe : am_cal mX6_wipe 0 := ⟨(am_wsin (List.mem_of_getElem? (i := 544) (by decide +kernel)) (by decide +kernel)), (am_wsin (List.mem_of_getElem? (i := 39) (by decide +kernel)) (by decide +kernel)), by decide +kernel, by decide +kernel⟩
theorem cal_X7_at : am_cal mX7_at 2 := ⟨(am_wsin (List.mem_of_getElem? (i := 636) (by decide +kernel)) (by decide +kernel)), (am_wsin (List.mem_of_getElem? (i := 45) (by decide +kernel)) (by decide +kernel)), by decide +kernel, by decide +kernel⟩
theorem cal_X7_copies : am_cal mX7_copies 0 := ⟨(am_wsin (List.mem_of_getElem? (i := 772) (by decide +kernel)) (by decide +kernel)), (am_wsin (List.mem_of_getElem? (i := 45) (by decide +kernel)) (by decide +kernel)), by decide +kernel, by decide +kernel⟩
theorem cal_X7_crowdOf : am_cal mX7_crowdOf 1 := ⟨(am_wsin (List.mem_of_getElem? (i := 712) (by decide +kernel)) (by decide +kernel)), (am_wsin (List.mem_of_getElem? (i := 45) (by decide +kernel)) (by decide +kernel)), by decide +kernel, by decide +kernel⟩
theorem cal_X7_draws : am_cal mX7_draws 2 := ⟨(am_wsin (List.mem_of_getElem? (i := 684) (by decide +kernel)) (by decide +kernel)), (am_wsin (List.mem_of_getElem? (i := 45) (by decide +kernel)) (by decide +kernel)), by decide +kernel, by decide +kernel⟩
theorem cal_X7_forgets : am_cal mX7_forgets 0 := ⟨(am_wsin (List.mem_of_getElem? (i := 574) (by decide +kernel)) (by decide +kernel)), (am_wsin (List.mem_of_getElem? (i := 45) (by decide +kernel)) (by decide +kernel)), by decide +kernel, by decide +kernel⟩
theorem cal_X7_in : am_cal mX7_in 3 := ⟨(am_wsin (List.mem_of_getElem? (i := 607) (by decide +kernel)) (by decide +kernel)), (am_wsin (List.mem_of_getElem? (i := 45) (by decide +kernel)) (by decide +kernel)), by decide +kernel, by decide +kernel⟩
theorem cal_X7_mostOf : am_cal mX7_mostOf 1 := ⟨(am_wsin (List.mem_of_getElem? (i := 610) (by decide +kernel)) (by decide +kernel)), (am_wsin (List.mem_of_getElem? (i := 45) (by decide +kernel)) (by decide +kernel)), by decide +kernel, by decide +kernel⟩
theorem cal_X7_remembers : am_cal mX7_remembers 0 := ⟨(am_wsin (List.mem_of_getElem? (i := 614) (by decide +kernel)) (by decide +kernel)), (am_wsin (List.mem_of_getElem? (i := 45) (by decide +kernel)) (by decide +kernel)), by decide +kernel, by decide +kernel⟩
theorem cal_X7_roofs : am_cal mX7_roofs 0 := ⟨(am_wsin (List.mem_of_getElem? (i := 625) (by decide +kernel)) (by decide +kernel)), (am_wsin (List.mem_of_getElem? (i := 45) (by decide +kernel)) (by decide +kernel)), by decide +kernel, by decide +kernel⟩
theorem cal_X7_sign : am_cal mX7_sign 1 := ⟨(am_wsin (List.mem_of_getElem? (i := 801) (by decide +kernel)) (by decide +kernel)), (am_wsin (List.mem_of_getElem? (i := 45) (by decide +kernel)) (by decide +kernel)), by decide +kernel, by decide +kernel⟩
theorem cal_X7_undo : am_cal mX7_undo 0 := ⟨(am_wsin (List.mem_of_getElem? (i := 818) (by decide +kernel)) (by decide +kernel)), (am_wsin (List.mem_of_getElem? (i := 45) (by decide +kernel)) (by decide +kernel)), by decide +kernel, by decide +kernel⟩
theorem cal_X7_wipe : am_cal mX7_wipe 0 := ⟨(am_wsin (List.mem_of_getElem? (i := 785) (by decide +kernel)) (by decide +kernel)), (am_wsin (List.mem_of_getElem? (i := 45) (by decide +kernel)) (by decide +kernel)), by decide +kernel, by decide +kernel⟩
theorem cal_X0_drawLots : am_cal mX0_drawLots 1 := ⟨(am_wsin (List.mem_of_getElem? (i := 350) (by decide +kernel)) (by decide +kernel)), (am_wsin (List.mem_of_getElem? (i := 48) (by decide +kernel)) (by decide +kernel)), by decide +kernel, by decide +kernel⟩
theorem cal_X2_hasSharedPitch : am_cal mX2_hasSharedPitch 0 := ⟨(am_wsin (List.mem_of_getElem? (i := 444) (by decide +kernel)) (by decide +kernel)), (am_wsin (List.mem_of_getElem? (i := 43) (by decide +kernel)) (by decide +kernel)), by decide +kernel, by decide +kernel⟩
theorem cal_X2_readFirstDigit : am_cal mX2_readFirstDigit 1 := ⟨(am_wsin (List.mem_of_getElem? (i := 436) (by decide +kernel)) (by decide +kernel)), (am_wsin (List.mem_of_getElem? (i := 43) (by decide +kernel)) (by decide +kernel)), by decide +kernel, by decide +kernel⟩
theorem cal_X3_closeUp : am_cal mX3_closeUp 2 := ⟨(am_wsin (List.mem_of_getElem? (i := 313) (by decide +kernel)) (by decide +kernel)), (am_wsin (List.mem_of_getElem? (i := 40) (by decide +kernel)) (by decide +kernel)), by decide +kernel, by decide +kernel⟩
theorem cal_X3_copyFrom : am_cal mX3_copyFrom 1 := ⟨(am_wsin (List.mem_of_getElem? (i := 257) (by decide +kernel)) (by decide +kernel)), (am_wsin (List.mem_of_getElem? (i := 40) (by decide +kernel)) (by decide +kernel)), by decide +kernel, by decide +kernel⟩
theorem cal_X3_forgetBooths : am_cal mX3_forgetBooths 0 := ⟨(am_wsin (List.mem_of_getElem? (i := 449) (by decide +kernel)) (by decide +kernel)), (am_wsin (List.mem_of_getElem? (i := 40) (by decide +kernel)) (by decide +kernel)), by decide +kernel, by decide +kernel⟩
theorem cal_X3_init : am_cal mX3_init 0 := ⟨(am_wsin (List.mem_of_getElem? (i := 61) (by decide +kernel)) (by decide +kernel)), (am_wsin (List.mem_of_getElem? (i := 40) (by decide +kernel)) (by decide +kernel)), by decide +kernel, by decide +kernel⟩
theorem cal_X3_isRoofed : am_cal mX3_isRoofed 1 := ⟨(am_wsin (List.mem_of_getElem? (i := 279) (by decide +kernel)) (by decide +kernel)), (am_wsin (List.mem_of_getElem? (i := 40) (by decide +kernel)) (by decide +kernel)), by decide +kernel, by decide +kernel⟩
theorem cal_X3_isStanding : am_cal mX3_isStanding 1 := ⟨(am_wsin (List.mem_of_getElem? (i := 336) (by decide +kernel)) (by decide +kernel)), (am_wsin (List.mem_of_getElem? (i := 40) (by decide +kernel)) (by decide +kernel)), by decide +kernel, by decide +kernel⟩
theorem cal_X4_isSeen : am_cal mX4_isSeen 2 := ⟨(am_wsin (List.mem_of_getElem? (i := 393) (by decide +kernel)) (by decide +kernel)), (am_wsin (List.mem_of_getElem? (i := 42) (by decide +kernel)) (by decide +kernel)), by decide +kernel, by decide +kernel⟩
theorem cal_X5_init : am_cal mX5_init 0 := ⟨(am_wsin (List.mem_of_getElem? (i := 141) (by decide +kernel)) (by decide +kernel)), (am_wsin (List.mem_of_getElem? (i := 41) (by decide +kernel)) (by decide +kernel)), by decide +kernel, by decide +kernel⟩
theorem cal_X5_isOpen : am_cal mX5_isOpen 2 := ⟨(am_wsin (List.mem_of_getElem? (i := 398) (by decide +kernel)) (by decide +kernel)), (am_wsin (List.mem_of_getElem? (i := 41) (by decide +kernel)) (by decide +kernel)), by decide +kernel, by decide +kernel⟩
theorem cal_X5_letPeoplePass : am_cal mX5_letPeoplePass 1 := ⟨(am_wsin (List.mem_of_getElem? (i := 371) (by decide +kernel)) (by decide +kernel)), (am_wsin (List.mem_of_getElem? (i := 41) (by decide +kernel)) (by decide +kernel)), by decide +kernel, by decide +kernel⟩
theorem cal_X5_raise : am_cal mX5_raise 2 := ⟨(am_wsin (List.mem_of_getElem? (i := 405) (by decide +kernel)) (by decide +kernel)), (am_wsin (List.mem_of_getElem? (i := 41) (by decide +kernel)) (by decide +kernel)), by decide +kernel, by decide +kernel⟩
theorem cal_X6_put : am_cal mX6_put 1 := ⟨(am_wsin (List.mem_of_getElem? (i := 530) (by decide +kernel)) (by decide +kernel)), (am_wsin (List.mem_of_getElem? (i := 39) (by decide +kernel)) (by decide +kernel)), by decide +kernel, by decide +kernel⟩
theorem cal_X7_boothAt : am_cal mX7_boothAt 2 := ⟨(am_wsin (List.mem_of_getElem? (i := 664) (by decide +kernel)) (by decide +kernel)), (am_wsin (List.mem_of_getElem? (i := 45) (by decide +kernel)) (by decide +kernel)), by decide +kernel, by decide +kernel⟩
theorem cal_X7_comes : am_cal mX7_comes 2 := ⟨(am_wsin (List.mem_of_getElem? (i := 633) (by decide +kernel)) (by decide +kernel)), (am_wsin (List.mem_of_getElem? (i := 45) (by decide +kernel)) (by decide +kernel)), by decide +kernel, by decide +kernel⟩
theorem cal_X7_digit : am_cal mX7_digit 1 := ⟨(am_wsin (List.mem_of_getElem? (i := 797) (by decide +kernel)) (by decide +kernel)), (am_wsin (List.mem_of_getElem? (i := 45) (by decide +kernel)) (by decide +kernel)), by decide +kernel, by decide +kernel⟩
theorem cal_X7_init : am_cal mX7_init 0 := ⟨(am_wsin (List.mem_of_getElem? (i := 569) (by decide +kernel)) (by decide +kernel)), (am_wsin (List.mem_of_getElem? (i := 45) (by decide +kernel)) (by decide +kernel)), by decide +kernel, by decide +kernel⟩
theorem cal_X7_isBooth : am_cal mX7_isBooth 1 := ⟨(am_wsin (List.mem_of_getElem? (i := 644) (by decide +kernel)) (by decide +kernel)), (am_wsin (List.mem_of_getElem? (i := 45) (by decide +kernel)) (by decide +kernel)), by decide +kernel, by decide +kernel⟩
theorem cal_X7_isFree : am_cal mX7_isFree 2 := ⟨(am_wsin (List.mem_of_getElem? (i := 696) (by decide +kernel)) (by decide +kernel)), (am_wsin (List.mem_of_getElem? (i := 45) (by decide +kernel)) (by decide +kernel)), by decide +kernel, by decide +kernel⟩
theorem cal_X7_isPitch : am_cal mX7_isPitch 1 := ⟨(am_wsin (List.mem_of_getElem? (i := 621) (by decide +kernel)) (by decide +kernel)), (am_wsin (List.mem_of_getElem? (i := 45) (by decide +kernel)) (by decide +kernel)), by decide +kernel, by decide +kernel⟩
theorem cal_X7_its : am_cal mX7_its 2 := ⟨(am_wsin (List.mem_of_getElem? (i := 648) (by decide +kernel)) (by decide +kernel)), (am_wsin (List.mem_of_getElem? (i := 45) (by decide +kernel)) (by decide +kernel)), by decide +kernel, by decide +kernel⟩
theorem cal_X7_lot : am_cal mX7_lot 1 := ⟨(am_wsin (List.mem_of_getElem? (i := 756) (by decide +kernel)) (by decide +kernel)), (am_wsin (List.mem_of_getElem? (i := 45) (by decide +kernel)) (by decide +kernel)), by decide +kernel, by decide +kernel⟩
theorem cal_X7_lots : am_cal mX7_lots 1 := ⟨(am_wsin (List.mem_of_getElem? (i := 680) (by decide +kernel)) (by decide +kernel)), (am_wsin (List.mem_of_getElem? (i := 45) (by decide +kernel)) (by decide +kernel)), by decide +kernel, by decide +kernel⟩
theorem cal_X7_put : am_cal mX7_put 1 := ⟨(am_wsin (List.mem_of_getElem? (i := 780) (by decide +kernel)) (by decide +kernel)), (am_wsin (List.mem_of_getElem? (i := 45) (by decide +kernel)) (by decide +kernel)), by decide +kernel, by decide +kernel⟩
theorem cal_X7_restore : am_cal mX7_restore 1 := ⟨(am_wsin (List.mem_of_getElem? (i := 826) (by decide +kernel)) (by decide +kernel)), (am_wsin (List.mem_of_getElem? (i := 45) (by decide +kernel)) (by decide +kernel)), by decide +kernel, by decide +kernel⟩
theorem cal_X7_save : am_cal mX7_save 1 := ⟨(am_wsin (List.mem_of_getElem? (i := 822) (by decide +kernel)) (by decide +kernel)), (am_wsin (List.mem_of_getElem? (i := 45) (by decide +kernel)) (by decide +kernel)), by decide +kernel, by decide +kernel⟩
theorem cal_X7_set : am_cal mX7_set 2 := ⟨(am_wsin (List.mem_of_getElem? (i := 604) (by decide +kernel)) (by decide +kernel)), (am_wsin (List.mem_of_getElem? (i := 45) (by decide +kernel)) (by decide +kernel)), by decide +kernel, by decide +kernel⟩
theorem cal_X7_shuffle : am_cal mX7_shuffle 1 := ⟨(am_wsin (List.mem_of_getElem? (i := 668) (by decide +kernel)) (by decide +kernel)), (am_wsin (List.mem_of_getElem? (i := 45) (by decide +kernel)) (by decide +kernel)), by decide +kernel, by decide +kernel⟩
theorem cal_X1_record : am_cal mX1_record 1 := ⟨(am_wsin (List.mem_of_getElem? (i := 252) (by decide +kernel)) (by decide +kernel)), (am_wsin (List.mem_of_getElem? (i := 44) (by decide +kernel)) (by decide +kernel)), by decide +kernel, by decide +kernel⟩
theorem cal_X1_takeBack : am_cal mX1_takeBack 1 := ⟨(am_wsin (List.mem_of_getElem? (i := 556) (by decide +kernel)) (by decide +kernel)), (am_wsin (List.mem_of_getElem? (i := 44) (by decide +kernel)) (by decide +kernel)), by decide +kernel, by decide +kernel⟩
theorem cal_X2_stageAfter : am_cal mX2_stageAfter 2 := ⟨(am_wsin (List.mem_of_getElem? (i := 424) (by decide +kernel)) (by decide +kernel)), (am_wsin (List.mem_of_getElem? (i := 43) (by decide +kernel)) (by decide +kernel)), by decide +kernel, by decide +kernel⟩
theorem cal_X3_boothAt : am_cal mX3_boothAt 1 := ⟨(am_wsin (List.mem_of_getElem? (i := 332) (by decide +kernel)) (by decide +kernel)), (am_wsin (List.mem_of_getElem? (i := 40) (by decide +kernel)) (by decide +kernel)), by decide +kernel, by decide +kernel⟩
theorem cal_X3_countStanding : am_cal mX3_countStanding 0 := ⟨(am_wsin (List.mem_of_getElem? (i := 500) (by decide +kernel)) (by decide +kernel)), (am_wsin (List.mem_of_getElem? (i := 40) (by decide +kernel)) (by decide +kernel)), by decide +kernel, by decide +kernel⟩
theorem cal_X3_hides : am_cal mX3_hides 3 := ⟨(am_wsin (List.mem_of_getElem? (i := 490) (by decide +kernel)) (by decide +kernel)), (am_wsin (List.mem_of_getElem? (i := 40) (by decide +kernel)) (by decide +kernel)), by decide +kernel, by decide +kernel⟩
theorem cal_X3_removeBooth : am_cal mX3_removeBooth 1 := ⟨(am_wsin (List.mem_of_getElem? (i := 309) (by decide +kernel)) (by decide +kernel)), (am_wsin (List.mem_of_getElem? (i := 40) (by decide +kernel)) (by decide +kernel)), by decide +kernel, by decide +kernel⟩
theorem cal_X4_stopping : am_cal mX4_stopping 2 := ⟨(am_wsin (List.mem_of_getElem? (i := 389) (by decide +kernel)) (by decide +kernel)), (am_wsin (List.mem_of_getElem? (i := 42) (by decide +kernel)) (by decide +kernel)), by decide +kernel, by decide +kernel⟩
theorem cal_X5_look : am_cal mX5_look 2 := ⟨(am_wsin (List.mem_of_getElem? (i := 457) (by decide +kernel)) (by decide +kernel)), (am_wsin (List.mem_of_getElem? (i := 41) (by decide +kernel)) (by decide +kernel)), by decide +kernel, by decide +kernel⟩
theorem cal_X6_init : am_cal mX6_init 0 := ⟨(am_wsin (List.mem_of_getElem? (i := 53) (by decide +kernel)) (by decide +kernel)), (am_wsin (List.mem_of_getElem? (i := 39) (by decide +kernel)) (by decide +kernel)), by decide +kernel, by decide +kernel⟩
theorem cal_X6_save : am_cal mX6_save 1 := ⟨(am_wsin (List.mem_of_getElem? (i := 560) (by decide +kernel)) (by decide +kernel)), (am_wsin (List.mem_of_getElem? (i := 39) (by decide +kernel)) (by decide +kernel)), by decide +kernel, by decide +kernel⟩
theorem cal_X7_come : am_cal mX7_come 1 := ⟨(am_wsin (List.mem_of_getElem? (i := 629) (by decide +kernel)) (by decide +kernel)), (am_wsin (List.mem_of_getElem? (i := 45) (by decide +kernel)) (by decide +kernel)), by decide +kernel, by decide +kernel⟩
theorem cal_X7_go : am_cal mX7_go 1 := ⟨(am_wsin (List.mem_of_getElem? (i := 640) (by decide +kernel)) (by decide +kernel)), (am_wsin (List.mem_of_getElem? (i := 45) (by decide +kernel)) (by decide +kernel)), by decide +kernel, by decide +kernel⟩
theorem cal_X7_goes : am_cal mX7_goes 2 := ⟨(am_wsin (List.mem_of_getElem? (i := 708) (by decide +kernel)) (by decide +kernel)), (am_wsin (List.mem_of_getElem? (i := 45) (by decide +kernel)) (by decide +kernel)), by decide +kernel, by decide +kernel⟩
theorem cal_X7_height : am_cal mX7_height 2 := ⟨(am_wsin (List.mem_of_getElem? (i := 652) (by decide +kernel)) (by decide +kernel)), (am_wsin (List.mem_of_getElem? (i := 45) (by decide +kernel)) (by decide +kernel)), by decide +kernel, by decide +kernel⟩
theorem cal_X7_hides : am_cal mX7_hides 3 := ⟨(am_wsin (List.mem_of_getElem? (i := 740) (by decide +kernel)) (by decide +kernel)), (am_wsin (List.mem_of_getElem? (i := 45) (by decide +kernel)) (by decide +kernel)), by decide +kernel, by decide +kernel⟩
theorem cal_X7_highest : am_cal mX7_highest 2 := ⟨(am_wsin (List.mem_of_getElem? (i := 732) (by decide +kernel)) (by decide +kernel)), (am_wsin (List.mem_of_getElem? (i := 45) (by decide +kernel)) (by decide +kernel)), by decide +kernel, by decide +kernel⟩
theorem cal_X7_isOthers : am_cal mX7_isOthers 2 := ⟨(am_wsin (List.mem_of_getElem? (i := 660) (by decide +kernel)) (by decide +kernel)), (am_wsin (List.mem_of_getElem? (i := 45) (by decide +kernel)) (by decide +kernel)), by decide +kernel, by decide +kernel⟩
theorem cal_X7_partEnd : am_cal mX7_partEnd 1 := ⟨(am_wsin (List.mem_of_getElem? (i := 793) (by decide +kernel)) (by decide +kernel)), (am_wsin (List.mem_of_getElem? (i := 45) (by decide +kernel)) (by decide +kernel)), by decide +kernel, by decide +kernel⟩
theorem cal_X7_pitch : am_cal mX7_pitch 2 := ⟨(am_wsin (List.mem_of_getElem? (i := 724) (by decide +kernel)) (by decide +kernel)), (am_wsin (List.mem_of_getElem? (i := 45) (by decide +kernel)) (by decide +kernel)), by decide +kernel, by decide +kernel⟩
theorem cal_X7_roof : am_cal mX7_roof 2 := ⟨(am_wsin (List.mem_of_getElem? (i := 618) (by decide +kernel)) (by decide +kernel)), (am_wsin (List.mem_of_getElem? (i := 45) (by decide +kernel)) (by decide +kernel)), by decide +kernel, by decide +kernel⟩
theorem cal_X7_standing : am_cal mX7_standing 0 := ⟨(am_wsin (List.mem_of_getElem? (i := 748) (by decide +kernel)) (by decide +kernel)), (am_wsin (List.mem_of_getElem? (i := 45) (by decide +kernel)) (by decide +kernel)), by decide +kernel, by decide +kernel⟩
theorem cal_X2_findFault : am_cal mX2_findFault 0 := ⟨(am_wsin (List.mem_of_getElem? (i := 420) (by decide +kernel)) (by decide +kernel)), (am_wsin (List.mem_of_getElem? (i := 43) (by decide +kernel)) (by decide +kernel)), by decide +kernel, by decide +kernel⟩
theorem cal_X3_isHidden : am_cal mX3_isHidden 2 := ⟨(am_wsin (List.mem_of_getElem? (i := 486) (by decide +kernel)) (by decide +kernel)), (am_wsin (List.mem_of_getElem? (i := 40) (by decide +kernel)) (by decide +kernel)), by decide +kernel, by decide +kernel⟩
theorem cal_X3_isTakenByOther : am_cal mX3_isTakenByOther 2 := ⟨(am_wsin (List.mem_of_getElem? (i := 328) (by decide +kernel)) (by decide +kernel)), (am_wsin (List.mem_of_getElem? (i := 40) (by decide +kernel)) (by decide +kernel)), by decide +kernel, by decide +kernel⟩
theorem cal_X5_crowdAt : am_cal mX5_crowdAt 2 := ⟨(am_wsin (List.mem_of_getElem? (i := 385) (by decide +kernel)) (by decide +kernel)), (am_wsin (List.mem_of_getElem? (i := 41) (by decide +kernel)) (by decide +kernel)), by decide +kernel, by decide +kernel⟩
theorem cal_X6_come : am_cal mX6_come 1 := ⟨(am_wsin (List.mem_of_getElem? (i := 290) (by decide +kernel)) (by decide +kernel)), (am_wsin (List.mem_of_getElem? (i := 39) (by decide +kernel)) (by decide +kernel)), by decide +kernel, by decide +kernel⟩
theorem cal_X6_go : am_cal mX6_go 1 := ⟨(am_wsin (List.mem_of_getElem? (i := 301) (by decide +kernel)) (by decide +kernel)), (am_wsin (List.mem_of_getElem? (i := 39) (by decide +kernel)) (by decide +kernel)), by decide +kernel, by decide +kernel⟩
theorem cal_X6_height : am_cal mX6_height 2 := ⟨(am_wsin (List.mem_of_getElem? (i := 320) (by decide +kernel)) (by decide +kernel)), (am_wsin (List.mem_of_getElem? (i := 39) (by decide +kernel)) (by decide +kernel)), by decide +kernel, by decide +kernel⟩
theorem cal_X6_pitch : am_cal mX6_pitch 2 := ⟨(am_wsin (List.mem_of_getElem? (i := 475) (by decide +kernel)) (by decide +kernel)), (am_wsin (List.mem_of_getElem? (i := 39) (by decide +kernel)) (by decide +kernel)), by decide +kernel, by decide +kernel⟩
theorem cal_X6_restore : am_cal mX6_restore 1 := ⟨(am_wsin (List.mem_of_getElem? (i := 564) (by decide +kernel)) (by decide +kernel)), (am_wsin (List.mem_of_getElem? (i := 39) (by decide +kernel)) (by decide +kernel)), by decide +kernel, by decide +kernel⟩
theorem cal_X6_roof : am_cal mX6_roof 2 := ⟨(am_wsin (List.mem_of_getElem? (i := 272) (by decide +kernel)) (by decide +kernel)), (am_wsin (List.mem_of_getElem? (i := 39) (by decide +kernel)) (by decide +kernel)), by decide +kernel, by decide +kernel⟩
theorem cal_X6_set : am_cal mX6_set 2 := ⟨(am_wsin (List.mem_of_getElem? (i := 246) (by decide +kernel)) (by decide +kernel)), (am_wsin (List.mem_of_getElem? (i := 39) (by decide +kernel)) (by decide +kernel)), by decide +kernel, by decide +kernel⟩
theorem cal_X6_shuffle : am_cal mX6_shuffle 1 := ⟨(am_wsin (List.mem_of_getElem? (i := 340) (by decide +kernel)) (by decide +kernel)), (am_wsin (List.mem_of_getElem? (i := 39) (by decide +kernel)) (by decide +kernel)), by decide +kernel, by decide +kernel⟩
theorem cal_X6_stoppingFrom : am_cal mX6_stoppingFrom 2 := ⟨(am_wsin (List.mem_of_getElem? (i := 466) (by decide +kernel)) (by decide +kernel)), (am_wsin (List.mem_of_getElem? (i := 39) (by decide +kernel)) (by decide +kernel)), by decide +kernel, by decide +kernel⟩
theorem cal_X6_stoppingNowhere : am_cal mX6_stoppingNowhere 0 := ⟨(am_wsin (List.mem_of_getElem? (i := 504) (by decide +kernel)) (by decide +kernel)), (am_wsin (List.mem_of_getElem? (i := 39) (by decide +kernel)) (by decide +kernel)), by decide +kernel, by decide +kernel⟩
theorem cal_X6_undo : am_cal mX6_undo 0 := ⟨(am_wsin (List.mem_of_getElem? (i := 552) (by decide +kernel)) (by decide +kernel)), (am_wsin (List.mem_of_getElem? (i := 39) (by decide +kernel)) (by decide +kernel)), by decide +kernel, by decide +kernel⟩
theorem cal_X7_crowds : am_cal mX7_crowds 1 := ⟨(am_wsin (List.mem_of_getElem? (i := 704) (by decide +kernel)) (by decide +kernel)), (am_wsin (List.mem_of_getElem? (i := 45) (by decide +kernel)) (by decide +kernel)), by decide +kernel, by decide +kernel⟩
theorem cal_X7_fault : am_cal mX7_fault 0 := ⟨(am_wsin (List.mem_of_getElem? (i := 789) (by decide +kernel)) (by decide +kernel)), (am_wsin (List.mem_of_getElem? (i := 45) (by decide +kernel)) (by decide +kernel)), by decide +kernel, by decide +kernel⟩
theorem cal_X7_isHidden : am_cal mX7_isHidden 2 := ⟨(am_wsin (List.mem_of_getElem? (i := 736) (by decide +kernel)) (by decide +kernel)), (am_wsin (List.mem_of_getElem? (i := 45) (by decide +kernel)) (by decide +kernel)), by decide +kernel, by decide +kernel⟩
theorem cal_X7_pitchOf : am_cal mX7_pitchOf 1 := ⟨(am_wsin (List.mem_of_getElem? (i := 814) (by decide +kernel)) (by decide +kernel)), (am_wsin (List.mem_of_getElem? (i := 45) (by decide +kernel)) (by decide +kernel)), by decide +kernel, by decide +kernel⟩
theorem cal_X7_stand : am_cal mX7_stand 2 := ⟨(am_wsin (List.mem_of_getElem? (i := 656) (by decide +kernel)) (by decide +kernel)), (am_wsin (List.mem_of_getElem? (i := 45) (by decide +kernel)) (by decide +kernel)), by decide +kernel, by decide +kernel⟩
theorem cal_X0_passHats : am_cal mX0_passHats 3 := ⟨(am_wsin (List.mem_of_getElem? (i := 409) (by decide +kernel)) (by decide +kernel)), (am_wsin (List.mem_of_getElem? (i := 48) (by decide +kernel)) (by decide +kernel)), by decide +kernel, by decide +kernel⟩
theorem cal_X5_bestOpenPitch : am_cal mX5_bestOpenPitch 2 := ⟨(am_wsin (List.mem_of_getElem? (i := 381) (by decide +kernel)) (by decide +kernel)), (am_wsin (List.mem_of_getElem? (i := 41) (by decide +kernel)) (by decide +kernel)), by decide +kernel, by decide +kernel⟩
theorem cal_X6_bestHeight : am_cal mX6_bestHeight 1 := ⟨(am_wsin (List.mem_of_getElem? (i := 526) (by decide +kernel)) (by decide +kernel)), (am_wsin (List.mem_of_getElem? (i := 39) (by decide +kernel)) (by decide +kernel)), by decide +kernel, by decide +kernel⟩
theorem cal_X6_booth : am_cal mX6_booth 2 := ⟨(am_wsin (List.mem_of_getElem? (i := 453) (by decide +kernel)) (by decide +kernel)), (am_wsin (List.mem_of_getElem? (i := 39) (by decide +kernel)) (by decide +kernel)), by decide +kernel, by decide +kernel⟩
theorem cal_X6_count : am_cal mX6_count 1 := ⟨(am_wsin (List.mem_of_getElem? (i := 495) (by decide +kernel)) (by decide +kernel)), (am_wsin (List.mem_of_getElem? (i := 39) (by decide +kernel)) (by decide +kernel)), by decide +kernel, by decide +kernel⟩
theorem cal_X6_fault : am_cal mX6_fault 0 := ⟨(am_wsin (List.mem_of_getElem? (i := 548) (by decide +kernel)) (by decide +kernel)), (am_wsin (List.mem_of_getElem? (i := 39) (by decide +kernel)) (by decide +kernel)), by decide +kernel, by decide +kernel⟩
theorem cal_X6_ifStood : am_cal mX6_ifStood 2 := ⟨(am_wsin (List.mem_of_getElem? (i := 512) (by decide +kernel)) (by decide +kernel)), (am_wsin (List.mem_of_getElem? (i := 39) (by decide +kernel)) (by decide +kernel)), by decide +kernel, by decide +kernel⟩
theorem cal_X6_read : am_cal mX6_read 0 := ⟨(am_wsin (List.mem_of_getElem? (i := 416) (by decide +kernel)) (by decide +kernel)), (am_wsin (List.mem_of_getElem? (i := 39) (by decide +kernel)) (by decide +kernel)), by decide +kernel, by decide +kernel⟩
theorem cal_X6_seen : am_cal mX6_seen 3 := ⟨(am_wsin (List.mem_of_getElem? (i := 481) (by decide +kernel)) (by decide +kernel)), (am_wsin (List.mem_of_getElem? (i := 39) (by decide +kernel)) (by decide +kernel)), by decide +kernel, by decide +kernel⟩
theorem cal_X6_stand : am_cal mX6_stand 2 := ⟨(am_wsin (List.mem_of_getElem? (i := 324) (by decide +kernel)) (by decide +kernel)), (am_wsin (List.mem_of_getElem? (i := 39) (by decide +kernel)) (by decide +kernel)), by decide +kernel, by decide +kernel⟩
theorem cal_X7_crowd : am_cal mX7_crowd 2 := ⟨(am_wsin (List.mem_of_getElem? (i := 720) (by decide +kernel)) (by decide +kernel)), (am_wsin (List.mem_of_getElem? (i := 45) (by decide +kernel)) (by decide +kernel)), by decide +kernel, by decide +kernel⟩
theorem cal_X7_crowdAt : am_cal mX7_crowdAt 3 := ⟨(am_wsin (List.mem_of_getElem? (i := 700) (by decide +kernel)) (by decide +kernel)), (am_wsin (List.mem_of_getElem? (i := 45) (by decide +kernel)) (by decide +kernel)), by decide +kernel, by decide +kernel⟩
theorem cal_X7_crowdsNow : am_cal mX7_crowdsNow 0 := ⟨(am_wsin (List.mem_of_getElem? (i := 752) (by decide +kernel)) (by decide +kernel)), (am_wsin (List.mem_of_getElem? (i := 45) (by decide +kernel)) (by decide +kernel)), by decide +kernel, by decide +kernel⟩
theorem cal_X7_isTwice : am_cal mX7_isTwice 0 := ⟨(am_wsin (List.mem_of_getElem? (i := 810) (by decide +kernel)) (by decide +kernel)), (am_wsin (List.mem_of_getElem? (i := 45) (by decide +kernel)) (by decide +kernel)), by decide +kernel, by decide +kernel⟩
theorem cal_X7_seen : am_cal mX7_seen 3 := ⟨(am_wsin (List.mem_of_getElem? (i := 728) (by decide +kernel)) (by decide +kernel)), (am_wsin (List.mem_of_getElem? (i := 45) (by decide +kernel)) (by decide +kernel)), by decide +kernel, by decide +kernel⟩
theorem cal_X0_choosePitches : am_cal mX0_choosePitches 2 := ⟨(am_wsin (List.mem_of_getElem? (i := 363) (by decide +kernel)) (by decide +kernel)), (am_wsin (List.mem_of_getElem? (i := 48) (by decide +kernel)) (by decide +kernel)), by decide +kernel, by decide +kernel⟩
theorem cal_X6_bestPitch : am_cal mX6_bestPitch 1 := ⟨(am_wsin (List.mem_of_getElem? (i := 516) (by decide +kernel)) (by decide +kernel)), (am_wsin (List.mem_of_getElem? (i := 39) (by decide +kernel)) (by decide +kernel)), by decide +kernel, by decide +kernel⟩
theorem cal_X7_bestHeight : am_cal mX7_bestHeight 1 := ⟨(am_wsin (List.mem_of_getElem? (i := 776) (by decide +kernel)) (by decide +kernel)), (am_wsin (List.mem_of_getElem? (i := 45) (by decide +kernel)) (by decide +kernel)), by decide +kernel, by decide +kernel⟩
theorem cal_X7_bestPitch : am_cal mX7_bestPitch 1 := ⟨(am_wsin (List.mem_of_getElem? (i := 764) (by decide +kernel)) (by decide +kernel)), (am_wsin (List.mem_of_getElem? (i := 45) (by decide +kernel)) (by decide +kernel)), by decide +kernel, by decide +kernel⟩
theorem cal_X7_booth : am_cal mX7_booth 2 := ⟨(am_wsin (List.mem_of_getElem? (i := 716) (by decide +kernel)) (by decide +kernel)), (am_wsin (List.mem_of_getElem? (i := 45) (by decide +kernel)) (by decide +kernel)), by decide +kernel, by decide +kernel⟩
theorem cal_X7_chooses : am_cal mX7_chooses 2 := ⟨(am_wsin (List.mem_of_getElem? (i := 692) (by decide +kernel)) (by decide +kernel)), (am_wsin (List.mem_of_getElem? (i := 45) (by decide +kernel)) (by decide +kernel)), by decide +kernel, by decide +kernel⟩
theorem cal_X7_count : am_cal mX7_count 1 := ⟨(am_wsin (List.mem_of_getElem? (i := 744) (by decide +kernel)) (by decide +kernel)), (am_wsin (List.mem_of_getElem? (i := 45) (by decide +kernel)) (by decide +kernel)), by decide +kernel, by decide +kernel⟩
theorem cal_X7_ifStood : am_cal mX7_ifStood 2 := ⟨(am_wsin (List.mem_of_getElem? (i := 760) (by decide +kernel)) (by decide +kernel)), (am_wsin (List.mem_of_getElem? (i := 45) (by decide +kernel)) (by decide +kernel)), by decide +kernel, by decide +kernel⟩
theorem cal_X7_read : am_cal mX7_read 0 := ⟨(am_wsin (List.mem_of_getElem? (i := 805) (by decide +kernel)) (by decide +kernel)), (am_wsin (List.mem_of_getElem? (i := 45) (by decide +kernel)) (by decide +kernel)), by decide +kernel, by decide +kernel⟩
theorem cal_X0_pass : am_cal mX0_pass 2 := ⟨(am_wsin (List.mem_of_getElem? (i := 347) (by decide +kernel)) (by decide +kernel)), (am_wsin (List.mem_of_getElem? (i := 48) (by decide +kernel)) (by decide +kernel)), by decide +kernel, by decide +kernel⟩
theorem cal_X7_plays : am_cal mX7_plays 1 := ⟨(am_wsin (List.mem_of_getElem? (i := 676) (by decide +kernel)) (by decide +kernel)), (am_wsin (List.mem_of_getElem? (i := 45) (by decide +kernel)) (by decide +kernel)), by decide +kernel, by decide +kernel⟩
theorem cal_X6_ifPlayed : am_cal mX6_ifPlayed 2 := ⟨(am_wsin (List.mem_of_getElem? (i := 521) (by decide +kernel)) (by decide +kernel)), (am_wsin (List.mem_of_getElem? (i := 39) (by decide +kernel)) (by decide +kernel)), by decide +kernel, by decide +kernel⟩
theorem cal_X6_play : am_cal mX6_play 0 := ⟨(am_wsin (List.mem_of_getElem? (i := 344) (by decide +kernel)) (by decide +kernel)), (am_wsin (List.mem_of_getElem? (i := 39) (by decide +kernel)) (by decide +kernel)), by decide +kernel, by decide +kernel⟩
theorem cal_X7_ifPlayed : am_cal mX7_ifPlayed 2 := ⟨(am_wsin (List.mem_of_getElem? (i := 768) (by decide +kernel)) (by decide +kernel)), (am_wsin (List.mem_of_getElem? (i := 45) (by decide +kernel)) (by decide +kernel)), by decide +kernel, by decide +kernel⟩
theorem cal_X7_play : am_cal mX7_play 0 := ⟨(am_wsin (List.mem_of_getElem? (i := 672) (by decide +kernel)) (by decide +kernel)), (am_wsin (List.mem_of_getElem? (i := 45) (by decide +kernel)) (by decide +kernel)), by decide +kernel, by decide +kernel⟩
theorem cJ6_265 : Cond.constant RJ6 265 (1431655765) ∈ am_ws := (am_wsin (List.mem_of_getElem? (i := 284) (by decide +kernel)) (by decide +kernel))
theorem cJ6_266 : Cond.constant RJ6 266 (858993459) ∈ am_ws := (am_wsin (List.mem_of_getElem? (i := 285) (by decide +kernel)) (by decide +kernel))
theorem cJ6_267 : Cond.constant RJ6 267 (252645135) ∈ am_ws := (am_wsin (List.mem_of_getElem? (i := 286) (by decide +kernel)) (by decide +kernel))
theorem wL_7 : am_nwf RL 7 5 6 [.null, .null, .null, .null, .null, .null] := ⟨RX6, TX6, rfl, (am_wsin (List.mem_of_getElem? (i := 49) (by decide +kernel)) (by decide +kernel)), (am_wsin (List.mem_of_getElem? (i := 50) (by decide +kernel)) (by decide +kernel)), (am_wsin (List.mem_of_getElem? (i := 39) (by decide +kernel)) (by decide +kernel)), by decide +kernel, by decide +kernel⟩
theorem kL_9 : Cond.methodLink RL 9 yX6_init ∈ am_ws ∧ Cond.instanceMethod yX6_init ∈ am_ws := ⟨(am_wsin (List.mem_of_getElem? (i := 51) (by decide +kernel)) (by decide +kernel)), (am_wsin (List.mem_of_getElem? (i := 52) (by decide +kernel)) (by decide +kernel))⟩
theorem wL_10 : am_nwf RL 10 6 8 [.null, .null, .int 0, .null, .null, .null, .int 0, .null] := ⟨RX7, TX7, rfl, (am_wsin (List.mem_of_getElem? (i := 565) (by decide +kernel)) (by decide +kernel)), (am_wsin (List.mem_of_getElem? (i := 566) (by decide +kernel)) (by decide +kernel)), (am_wsin (List.mem_of_getElem? (i := 45) (by decide +kernel)) (by decide +kernel)), by decide +kernel, by decide +kernel⟩
theorem kL_12 : Cond.methodLink RL 12 yX7_init ∈ am_ws ∧ Cond.instanceMethod yX7_init ∈ am_ws := ⟨(am_wsin (List.mem_of_getElem? (i := 567) (by decide +kernel)) (by decide +kernel)), (am_wsin (List.mem_of_getElem? (i := 568) (by decide +kernel)) (by decide +kernel))⟩
theorem kL_13 : Cond.methodLink RL 13 yX6_set ∈ am_ws ∧ Cond.instanceMethod yX6_set ∈ am_ws ∧ Cond.selects RX6 yX6_set yX6_set ∈ am_ws := ⟨(am_wsin (List.mem_of_getElem? (i := 243) (by decide +kernel)) (by decide +kernel)), (am_wsin (List.mem_of_getElem? (i := 244) (by decide +kernel)) (by decide +kernel)), (am_wsin (List.mem_of_getElem? (i := 245) (by decide +kernel)) (by decide +kernel))⟩
theorem kL_17 : Cond.methodLink RL 17 yX7_set ∈ am_ws ∧ Cond.instanceMethod yX7_set ∈ am_ws ∧ Cond.selects RX7 yX7_set yX7_set ∈ am_ws := ⟨(am_wsin (List.mem_of_getElem? (i := 601) (by decide +kernel)) (by decide +kernel)), (am_wsin (List.mem_of_getElem? (i := 602) (by decide +kernel)) (by decide +kernel)), (am_wsin (List.mem_of_getElem? (i := 603) (by decide +kernel)) (by decide +kernel))⟩
theorem kL_18 : Cond.methodLink RL 18 yX6_roof ∈ am_ws ∧ Cond.instanceMethod yX6_roof ∈ am_ws ∧ Cond.selects RX6 yX6_roof yX6_roof ∈ am_ws := ⟨(am_wsin (List.mem_of_getElem? (i := 269) (by decide +kernel)) (by decide +kernel)), (am_wsin (List.mem_of_getElem? (i := 270) (by decide +kernel)) (by decide +kernel)), (am_wsin (List.mem_of_getElem? (i := 271) (by decide +kernel)) (by decide +kernel))⟩
theorem kL_22 : Cond.methodLink RL 22 yX7_roof ∈ am_ws ∧ Cond.instanceMethod yX7_roof ∈ am_ws ∧ Cond.selects RX7 yX7_roof yX7_roof ∈ am_ws := ⟨(am_wsin (List.mem_of_getElem? (i := 615) (by decide +kernel)) (by decide +kernel)), (am_wsin (List.mem_of_getElem? (i := 616) (by decide +kernel)) (by decide +kernel)), (am_wsin (List.mem_of_getElem? (i := 617) (by decide +kernel)) (by decide +kernel))⟩
theorem kL_23 : Cond.methodLink RL 23 yX6_come ∈ am_ws ∧ Cond.instanceMethod yX6_come ∈ am_ws ∧ Cond.selects RX6 yX6_come yX6_come ∈ am_ws := ⟨(am_wsin (List.mem_of_getElem? (i := 287) (by decide +kernel)) (by decide +kernel)), (am_wsin (List.mem_of_getElem? (i := 288) (by decide +kernel)) (by decide +kernel)), (am_wsin (List.mem_of_getElem? (i := 289) (by decide +kernel)) (by decide +kernel))⟩
theorem kL_27 : Cond.methodLink RL 27 yX7_come ∈ am_ws ∧ Cond.instanceMethod yX7_come ∈ am_ws ∧ Cond.selects RX7 yX7_come yX7_come ∈ am_ws := ⟨(am_wsin (List.mem_of_getElem? (i := 626) (by decide +kernel)) (by decide +kernel)), (am_wsin (List.mem_of_getElem? (i := 627) (by decide +kernel)) (by decide +kernel)), (am_wsin (List.mem_of_getElem? (i := 628) (by decide +kernel)) (by decide +kernel))⟩
theorem kL_28 : Cond.methodLink RL 28 yX6_go ∈ am_ws ∧ Cond.instanceMethod yX6_go ∈ am_ws ∧ Cond.selects RX6 yX6_go yX6_go ∈ am_ws := ⟨(am_wsin (List.mem_of_getElem? (i := 298) (by decide +kernel)) (by decide +kernel)), (am_wsin (List.mem_of_getElem? (i := 299) (by decide +kernel)) (by decide +kernel)), (am_wsin (List.mem_of_getElem? (i := 300) (by decide +kernel)) (by decide +kernel))⟩
theorem kL_31 : Cond.methodLink RL 31 yX7_go ∈ am_ws ∧ Cond.instanceMethod yX7_go ∈ am_ws ∧ Cond.selects RX7 yX7_go yX7_go ∈ am_ws := ⟨(am_wsin (List.mem_of_getElem? (i := 637) (by decide +kernel)) (by decide +kernel)), (am_wsin (List.mem_of_getElem? (i := 638) (by decide +kernel)) (by decide +kernel)), (am_wsin (List.mem_of_getElem? (i := 639) (by decide +kernel)) (by decide +kernel))⟩
theorem kL_32 : Cond.methodLink RL 32 yX6_height ∈ am_ws ∧ Cond.instanceMethod yX6_height ∈ am_ws ∧ Cond.selects RX6 yX6_height yX6_height ∈ am_ws := ⟨(am_wsin (List.mem_of_getElem? (i := 317) (by decide +kernel)) (by decide +kernel)), (am_wsin (List.mem_of_getElem? (i := 318) (by decide +kernel)) (by decide +kernel)), (am_wsin (List.mem_of_getElem? (i := 319) (by decide +kernel)) (by decide +kernel))⟩
theorem kL_35 : Cond.methodLink RL 35 yX7_height ∈ am_ws ∧ Cond.instanceMethod yX7_height ∈ am_ws ∧ Cond.selects RX7 yX7_height yX7_height ∈ am_ws := ⟨(am_wsin (List.mem_of_getElem? (i := 649) (by decide +kernel)) (by decide +kernel)), (am_wsin (List.mem_of_getElem? (i := 650) (by decide +kernel)) (by decide +kernel)), (am_wsin (List.mem_of_getElem? (i := 651) (by decide +kernel)) (by decide +kernel))⟩
theorem kL_36 : Cond.methodLink RL 36 yX6_stand ∈ am_ws ∧ Cond.instanceMethod yX6_stand ∈ am_ws ∧ Cond.selects RX6 yX6_stand yX6_stand ∈ am_ws := ⟨(am_wsin (List.mem_of_getElem? (i := 321) (by decide +kernel)) (by decide +kernel)), (am_wsin (List.mem_of_getElem? (i := 322) (by decide +kernel)) (by decide +kernel)), (am_wsin (List.mem_of_getElem? (i := 323) (by decide +kernel)) (by decide +kernel))⟩
theorem kL_39 : Cond.methodLink RL 39 yX7_stand ∈ am_ws ∧ Cond.instanceMethod yX7_stand ∈ am_ws ∧ Cond.selects RX7 yX7_stand yX7_stand ∈ am_ws := ⟨(am_wsin (List.mem_of_getElem? (i := 653) (by decide +kernel)) (by decide +kernel)), (am_wsin (List.mem_of_getElem? (i := 654) (by decide +kernel)) (by decide +kernel)), (am_wsin (List.mem_of_getElem? (i := 655) (by decide +kernel)) (by decide +kernel))⟩
theorem kL_40 : Cond.methodLink RL 40 yX6_shuffle ∈ am_ws ∧ Cond.instanceMethod yX6_shuffle ∈ am_ws ∧ Cond.selects RX6 yX6_shuffle yX6_shuffle ∈ am_ws := ⟨(am_wsin (List.mem_of_getElem? (i := 337) (by decide +kernel)) (by decide +kernel)), (am_wsin (List.mem_of_getElem? (i := 338) (by decide +kernel)) (by decide +kernel)), (am_wsin (List.mem_of_getElem? (i := 339) (by decide +kernel)) (by decide +kernel))⟩
theorem kL_43 : Cond.methodLink RL 43 yX7_shuffle ∈ am_ws ∧ Cond.instanceMethod yX7_shuffle ∈ am_ws ∧ Cond.selects RX7 yX7_shuffle yX7_shuffle ∈ am_ws := ⟨(am_wsin (List.mem_of_getElem? (i := 665) (by decide +kernel)) (by decide +kernel)), (am_wsin (List.mem_of_getElem? (i := 666) (by decide +kernel)) (by decide +kernel)), (am_wsin (List.mem_of_getElem? (i := 667) (by decide +kernel)) (by decide +kernel))⟩
theorem kL_44 : Cond.methodLink RL 44 yX6_play ∈ am_ws ∧ Cond.instanceMethod yX6_play ∈ am_ws ∧ Cond.selects RX6 yX6_play yX6_play ∈ am_ws := ⟨(am_wsin (List.mem_of_getElem? (i := 341) (by decide +kernel)) (by decide +kernel)), (am_wsin (List.mem_of_getElem? (i := 342) (by decide +kernel)) (by decide +kernel)), (am_wsin (List.mem_of_getElem? (i := 343) (by decide +kernel)) (by decide +kernel))⟩
theorem kL_48 : Cond.methodLink RL 48 yX7_play ∈ am_ws ∧ Cond.instanceMethod yX7_play ∈ am_ws ∧ Cond.selects RX7 yX7_play yX7_play ∈ am_ws := ⟨(am_wsin (List.mem_of_getElem? (i := 669) (by decide +kernel)) (by decide +kernel)), (am_wsin (List.mem_of_getElem? (i := 670) (by decide +kernel)) (by decide +kernel)), (am_wsin (List.mem_of_getElem? (i := 671) (by decide +kernel)) (by decide +kernel))⟩
theorem kL_49 : Cond.methodLink RL 49 yX6_read ∈ am_ws ∧ Cond.instanceMethod yX6_read ∈ am_ws ∧ Cond.selects RX6 yX6_read yX6_read ∈ am_ws := ⟨(am_wsin (List.mem_of_getElem? (i := 413) (by decide +kernel)) (by decide +kernel)), (am_wsin (List.mem_of_getElem? (i := 414) (by decide +kernel)) (by decide +kernel)), (am_wsin (List.mem_of_getElem? (i := 415) (by decide +kernel)) (by decide +kernel))⟩
theorem kL_52 : Cond.methodLink RL 52 yX7_read ∈ am_ws ∧ Cond.instanceMethod yX7_read ∈ am_ws ∧ Cond.selects RX7 yX7_read yX7_read ∈ am_ws := ⟨(am_wsin (List.mem_of_getElem? (i := 802) (by decide +kernel)) (by decide +kernel)), (am_wsin (List.mem_of_getElem? (i := 803) (by decide +kernel)) (by decide +kernel)), (am_wsin (List.mem_of_getElem? (i := 804) (by decide +kernel)) (by decide +kernel))⟩
theorem kL_53 : Cond.methodLink RL 53 yX6_booth ∈ am_ws ∧ Cond.instanceMethod yX6_booth ∈ am_ws ∧ Cond.selects RX6 yX6_booth yX6_booth ∈ am_ws := ⟨(am_wsin (List.mem_of_getElem? (i := 450) (by decide +kernel)) (by decide +kernel)), (am_wsin (List.mem_of_getElem? (i := 451) (by decide +kernel)) (by decide +kernel)), (am_wsin (List.mem_of_getElem? (i := 452) (by decide +kernel)) (by decide +kernel))⟩
theorem kL_56 : Cond.methodLink RL 56 yX7_booth ∈ am_ws ∧ Cond.instanceMethod yX7_booth ∈ am_ws ∧ Cond.selects RX7 yX7_booth yX7_booth ∈ am_ws := ⟨(am_wsin (List.mem_of_getElem? (i := 713) (by decide +kernel)) (by decide +kernel)), (am_wsin (List.mem_of_getElem? (i := 714) (by decide +kernel)) (by decide +kernel)), (am_wsin (List.mem_of_getElem? (i := 715) (by decide +kernel)) (by decide +kernel))⟩
theorem kL_57 : Cond.methodLink RL 57 yX6_pitch ∈ am_ws ∧ Cond.instanceMethod yX6_pitch ∈ am_ws ∧ Cond.selects RX6 yX6_pitch yX6_pitch ∈ am_ws := ⟨(am_wsin (List.mem_of_getElem? (i := 472) (by decide +kernel)) (by decide +kernel)), (am_wsin (List.mem_of_getElem? (i := 473) (by decide +kernel)) (by decide +kernel)), (am_wsin (List.mem_of_getElem? (i := 474) (by decide +kernel)) (by decide +kernel))⟩
theorem kL_60 : Cond.methodLink RL 60 yX7_pitch ∈ am_ws ∧ Cond.instanceMethod yX7_pitch ∈ am_ws ∧ Cond.selects RX7 yX7_pitch yX7_pitch ∈ am_ws := ⟨(am_wsin (List.mem_of_getElem? (i := 721) (by decide +kernel)) (by decide +kernel)), (am_wsin (List.mem_of_getElem? (i := 722) (by decide +kernel)) (by decide +kernel)), (am_wsin (List.mem_of_getElem? (i := 723) (by decide +kernel)) (by decide +kernel))⟩
theorem kL_61 : Cond.methodLink RL 61 yX6_seen ∈ am_ws ∧ Cond.instanceMethod yX6_seen ∈ am_ws ∧ Cond.selects RX6 yX6_seen yX6_seen ∈ am_ws := ⟨(am_wsin (List.mem_of_getElem? (i := 478) (by decide +kernel)) (by decide +kernel)), (am_wsin (List.mem_of_getElem? (i := 479) (by decide +kernel)) (by decide +kernel)), (am_wsin (List.mem_of_getElem? (i := 480) (by decide +kernel)) (by decide +kernel))⟩
theorem kL_65 : Cond.methodLink RL 65 yX7_seen ∈ am_ws ∧ Cond.instanceMethod yX7_seen ∈ am_ws ∧ Cond.selects RX7 yX7_seen yX7_seen ∈ am_ws := ⟨(am_wsin (List.mem_of_getElem? (i := 725) (by decide +kernel)) (by decide +kernel)), (am_wsin (List.mem_of_getElem? (i := 726) (by decide +kernel)) (by decide +kernel)), (am_wsin (List.mem_of_getElem? (i := 727) (by decide +kernel)) (by decide +kernel))⟩
theorem kL_66 : Cond.methodLink RL 66 yX6_count ∈ am_ws ∧ Cond.instanceMethod yX6_count ∈ am_ws ∧ Cond.selects RX6 yX6_count yX6_count ∈ am_ws := ⟨(am_wsin (List.mem_of_getElem? (i := 492) (by decide +kernel)) (by decide +kernel)), (am_wsin (List.mem_of_getElem? (i := 493) (by decide +kernel)) (by decide +kernel)), (am_wsin (List.mem_of_getElem? (i := 494) (by decide +kernel)) (by decide +kernel))⟩
theorem kL_69 : Cond.methodLink RL 69 yX7_count ∈ am_ws ∧ Cond.instanceMethod yX7_count ∈ am_ws ∧ Cond.selects RX7 yX7_count yX7_count ∈ am_ws := ⟨(am_wsin (List.mem_of_getElem? (i := 741) (by decide +kernel)) (by decide +kernel)), (am_wsin (List.mem_of_getElem? (i := 742) (by decide +kernel)) (by decide +kernel)), (am_wsin (List.mem_of_getElem? (i := 743) (by decide +kernel)) (by decide +kernel))⟩
theorem kL_70 : Cond.methodLink RL 70 yX6_lot ∈ am_ws ∧ Cond.instanceMethod yX6_lot ∈ am_ws ∧ Cond.selects RX6 yX6_lot yX6_lot ∈ am_ws := ⟨(am_wsin (List.mem_of_getElem? (i := 505) (by decide +kernel)) (by decide +kernel)), (am_wsin (List.mem_of_getElem? (i := 506) (by decide +kernel)) (by decide +kernel)), (am_wsin (List.mem_of_getElem? (i := 507) (by decide +kernel)) (by decide +kernel))⟩
theorem kL_73 : Cond.methodLink RL 73 yX7_lot ∈ am_ws ∧ Cond.instanceMethod yX7_lot ∈ am_ws ∧ Cond.selects RX7 yX7_lot yX7_lot ∈ am_ws := ⟨(am_wsin (List.mem_of_getElem? (i := 753) (by decide +kernel)) (by decide +kernel)), (am_wsin (List.mem_of_getElem? (i := 754) (by decide +kernel)) (by decide +kernel)), (am_wsin (List.mem_of_getElem? (i := 755) (by decide +kernel)) (by decide +kernel))⟩
theorem kL_74 : Cond.methodLink RL 74 yX6_ifStood ∈ am_ws ∧ Cond.instanceMethod yX6_ifStood ∈ am_ws ∧ Cond.selects RX6 yX6_ifStood yX6_ifStood ∈ am_ws := ⟨(am_wsin (List.mem_of_getElem? (i := 509) (by decide +kernel)) (by decide +kernel)), (am_wsin (List.mem_of_getElem? (i := 510) (by decide +kernel)) (by decide +kernel)), (am_wsin (List.mem_of_getElem? (i := 511) (by decide +kernel)) (by decide +kernel))⟩
theorem kL_77 : Cond.methodLink RL 77 yX7_ifStood ∈ am_ws ∧ Cond.instanceMethod yX7_ifStood ∈ am_ws ∧ Cond.selects RX7 yX7_ifStood yX7_ifStood ∈ am_ws := ⟨(am_wsin (List.mem_of_getElem? (i := 757) (by decide +kernel)) (by decide +kernel)), (am_wsin (List.mem_of_getElem? (i := 758) (by decide +kernel)) (by decide +kernel)), (am_wsin (List.mem_of_getElem? (i := 759) (by decide +kernel)) (by decide +kernel))⟩
theorem kL_78 : Cond.methodLink RL 78 yX6_bestPitch ∈ am_ws ∧ Cond.instanceMethod yX6_bestPitch ∈ am_ws ∧ Cond.selects RX6 yX6_bestPitch yX6_bestPitch ∈ am_ws := ⟨(am_wsin (List.mem_of_getElem? (i := 513) (by decide +kernel)) (by decide +kernel)), (am_wsin (List.mem_of_getElem? (i := 514) (by decide +kernel)) (by decide +kernel)), (am_wsin (List.mem_of_getElem? (i := 515) (by decide +kernel)) (by decide +kernel))⟩
theorem kL_81 : Cond.methodLink RL 81 yX7_bestPitch ∈ am_ws ∧ Cond.instanceMethod yX7_bestPitch ∈ am_ws ∧ Cond.selects RX7 yX7_bestPitch yX7_bestPitch ∈ am_ws := ⟨(am_wsin (List.mem_of_getElem? (i := 761) (by decide +kernel)) (by decide +kernel)), (am_wsin (List.mem_of_getElem? (i := 762) (by decide +kernel)) (by decide +kernel)), (am_wsin (List.mem_of_getElem? (i := 763) (by decide +kernel)) (by decide +kernel))⟩
theorem kL_82 : Cond.methodLink RL 82 yX6_ifPlayed ∈ am_ws ∧ Cond.instanceMethod yX6_ifPlayed ∈ am_ws ∧ Cond.selects RX6 yX6_ifPlayed yX6_ifPlayed ∈ am_ws := ⟨(am_wsin (List.mem_of_getElem? (i := 518) (by decide +kernel)) (by decide +kernel)), (am_wsin (List.mem_of_getElem? (i := 519) (by decide +kernel)) (by decide +kernel)), (am_wsin (List.mem_of_getElem? (i := 520) (by decide +kernel)) (by decide +kernel))⟩
theorem kL_85 : Cond.methodLink RL 85 yX7_ifPlayed ∈ am_ws ∧ Cond.instanceMethod yX7_ifPlayed ∈ am_ws ∧ Cond.selects RX7 yX7_ifPlayed yX7_ifPlayed ∈ am_ws := ⟨(am_wsin (List.mem_of_getElem? (i := 765) (by decide +kernel)) (by decide +kernel)), (am_wsin (List.mem_of_getElem? (i := 766) (by decide +kernel)) (by decide +kernel)), (am_wsin (List.mem_of_getElem? (i := 767) (by decide +kernel)) (by decide +kernel))⟩
theorem kL_86 : Cond.methodLink RL 86 yX6_bestHeight ∈ am_ws ∧ Cond.instanceMethod yX6_bestHeight ∈ am_ws ∧ Cond.selects RX6 yX6_bestHeight yX6_bestHeight ∈ am_ws := ⟨(am_wsin (List.mem_of_getElem? (i := 523) (by decide +kernel)) (by decide +kernel)), (am_wsin (List.mem_of_getElem? (i := 524) (by decide +kernel)) (by decide +kernel)), (am_wsin (List.mem_of_getElem? (i := 525) (by decide +kernel)) (by decide +kernel))⟩
theorem kL_89 : Cond.methodLink RL 89 yX7_bestHeight ∈ am_ws ∧ Cond.instanceMethod yX7_bestHeight ∈ am_ws ∧ Cond.selects RX7 yX7_bestHeight yX7_bestHeight ∈ am_ws := ⟨(am_wsin (List.mem_of_getElem? (i := 773) (by decide +kernel)) (by decide +kernel)), (am_wsin (List.mem_of_getElem? (i := 774) (by decide +kernel)) (by decide +kernel)), (am_wsin (List.mem_of_getElem? (i := 775) (by decide +kernel)) (by decide +kernel))⟩
theorem cL_90 : Cond.constantLong RL 90 (4294967295) ∈ am_ws := (am_wsin (List.mem_of_getElem? (i := 827) (by decide +kernel)) (by decide +kernel))
theorem kL_92 : Cond.methodLink RL 92 yX6_put ∈ am_ws ∧ Cond.instanceMethod yX6_put ∈ am_ws ∧ Cond.selects RX6 yX6_put yX6_put ∈ am_ws := ⟨(am_wsin (List.mem_of_getElem? (i := 527) (by decide +kernel)) (by decide +kernel)), (am_wsin (List.mem_of_getElem? (i := 528) (by decide +kernel)) (by decide +kernel)), (am_wsin (List.mem_of_getElem? (i := 529) (by decide +kernel)) (by decide +kernel))⟩
theorem kL_96 : Cond.methodLink RL 96 yX7_put ∈ am_ws ∧ Cond.instanceMethod yX7_put ∈ am_ws ∧ Cond.selects RX7 yX7_put yX7_put ∈ am_ws := ⟨(am_wsin (List.mem_of_getElem? (i := 777) (by decide +kernel)) (by decide +kernel)), (am_wsin (List.mem_of_getElem? (i := 778) (by decide +kernel)) (by decide +kernel)), (am_wsin (List.mem_of_getElem? (i := 779) (by decide +kernel)) (by decide +kernel))⟩
theorem kL_97 : Cond.methodLink RL 97 yX6_wipe ∈ am_ws ∧ Cond.instanceMethod yX6_wipe ∈ am_ws ∧ Cond.selects RX6 yX6_wipe yX6_wipe ∈ am_ws := ⟨(am_wsin (List.mem_of_getElem? (i := 541) (by decide +kernel)) (by decide +kernel)), (am_wsin (List.mem_of_getElem? (i := 542) (by decide +kernel)) (by decide +kernel)), (am_wsin (List.mem_of_getElem? (i := 543) (by decide +kernel)) (by decide +kernel))⟩
theorem kL_100 : Cond.methodLink RL 100 yX7_wipe ∈ am_ws ∧ Cond.instanceMethod yX7_wipe ∈ am_ws ∧ Cond.selects RX7 yX7_wipe yX7_wipe ∈ am_ws := ⟨(am_wsin (List.mem_of_getElem? (i := 782) (by decide +kernel)) (by decide +kernel)), (am_wsin (List.mem_of_getElem? (i := 783) (by decide +kernel)) (by decide +kernel)), (am_wsin (List.mem_of_getElem? (i := 784) (by decide +kernel)) (by decide +kernel))⟩
theorem kL_101 : Cond.methodLink RL 101 yX6_fault ∈ am_ws ∧ Cond.instanceMethod yX6_fault ∈ am_ws ∧ Cond.selects RX6 yX6_fault yX6_fault ∈ am_ws := ⟨(am_wsin (List.mem_of_getElem? (i := 545) (by decide +kernel)) (by decide +kernel)), (am_wsin (List.mem_of_getElem? (i := 546) (by decide +kernel)) (by decide +kernel)), (am_wsin (List.mem_of_getElem? (i := 547) (by decide +kernel)) (by decide +kernel))⟩
theorem kL_104 : Cond.methodLink RL 104 yX7_fault ∈ am_ws ∧ Cond.instanceMethod yX7_fault ∈ am_ws ∧ Cond.selects RX7 yX7_fault yX7_fault ∈ am_ws := ⟨(am_wsin (List.mem_of_getElem? (i := 786) (by decide +kernel)) (by decide +kernel)), (am_wsin (List.mem_of_getElem? (i := 787) (by decide +kernel)) (by decide +kernel)), (am_wsin (List.mem_of_getElem? (i := 788) (by decide +kernel)) (by decide +kernel))⟩
theorem kL_105 : Cond.methodLink RL 105 yX6_undo ∈ am_ws ∧ Cond.instanceMethod yX6_undo ∈ am_ws ∧ Cond.selects RX6 yX6_undo yX6_undo ∈ am_ws := ⟨(am_wsin (List.mem_of_getElem? (i := 549) (by decide +kernel)) (by decide +kernel)), (am_wsin (List.mem_of_getElem? (i := 550) (by decide +kernel)) (by decide +kernel)), (am_wsin (List.mem_of_getElem? (i := 551) (by decide +kernel)) (by decide +kernel))⟩
theorem kL_108 : Cond.methodLink RL 108 yX7_undo ∈ am_ws ∧ Cond.instanceMethod yX7_undo ∈ am_ws ∧ Cond.selects RX7 yX7_undo yX7_undo ∈ am_ws := ⟨(am_wsin (List.mem_of_getElem? (i := 815) (by decide +kernel)) (by decide +kernel)), (am_wsin (List.mem_of_getElem? (i := 816) (by decide +kernel)) (by decide +kernel)), (am_wsin (List.mem_of_getElem? (i := 817) (by decide +kernel)) (by decide +kernel))⟩
theorem kL_109 : Cond.methodLink RL 109 yX6_save ∈ am_ws ∧ Cond.instanceMethod yX6_save ∈ am_ws ∧ Cond.selects RX6 yX6_save yX6_save ∈ am_ws := ⟨(am_wsin (List.mem_of_getElem? (i := 557) (by decide +kernel)) (by decide +kernel)), (am_wsin (List.mem_of_getElem? (i := 558) (by decide +kernel)) (by decide +kernel)), (am_wsin (List.mem_of_getElem? (i := 559) (by decide +kernel)) (by decide +kernel))⟩
theorem kL_112 : Cond.methodLink RL 112 yX7_save ∈ am_ws ∧ Cond.instanceMethod yX7_save ∈ am_ws ∧ Cond.selects RX7 yX7_save yX7_save ∈ am_ws := ⟨(am_wsin (List.mem_of_getElem? (i := 819) (by decide +kernel)) (by decide +kernel)), (am_wsin (List.mem_of_getElem? (i := 820) (by decide +kernel)) (by decide +kernel)), (am_wsin (List.mem_of_getElem? (i := 821) (by decide +kernel)) (by decide +kernel))⟩
theorem kL_113 : Cond.methodLink RL 113 yX6_restore ∈ am_ws ∧ Cond.instanceMethod yX6_restore ∈ am_ws ∧ Cond.selects RX6 yX6_restore yX6_restore ∈ am_ws := ⟨(am_wsin (List.mem_of_getElem? (i := 561) (by decide +kernel)) (by decide +kernel)), (am_wsin (List.mem_of_getElem? (i := 562) (by decide +kernel)) (by decide +kernel)), (am_wsin (List.mem_of_getElem? (i := 563) (by decide +kernel)) (by decide +kernel))⟩
theorem kL_116 : Cond.methodLink RL 116 yX7_restore ∈ am_ws ∧ Cond.instanceMethod yX7_restore ∈ am_ws ∧ Cond.selects RX7 yX7_restore yX7_restore ∈ am_ws := ⟨(am_wsin (List.mem_of_getElem? (i := 823) (by decide +kernel)) (by decide +kernel)), (am_wsin (List.mem_of_getElem? (i := 824) (by decide +kernel)) (by decide +kernel)), (am_wsin (List.mem_of_getElem? (i := 825) (by decide +kernel)) (by decide +kernel))⟩
theorem kX0_59 : Cond.methodLink RX0 59 yX5_clear ∈ am_ws ∧ Cond.instanceMethod yX5_clear ∈ am_ws ∧ Cond.selects RX5 yX5_clear yX5_clear ∈ am_ws := ⟨(am_wsin (List.mem_of_getElem? (i := 364) (by decide +kernel)) (by decide +kernel)), (am_wsin (List.mem_of_getElem? (i := 365) (by decide +kernel)) (by decide +kernel)), (am_wsin (List.mem_of_getElem? (i := 366) (by decide +kernel)) (by decide +kernel))⟩
theorem kX0_64 : Cond.methodLink RX0 64 yX5_letPeoplePass ∈ am_ws ∧ Cond.instanceMethod yX5_letPeoplePass ∈ am_ws ∧ Cond.selects RX5 yX5_letPeoplePass yX5_letPeoplePass ∈ am_ws := ⟨(am_wsin (List.mem_of_getElem? (i := 368) (by decide +kernel)) (by decide +kernel)), (am_wsin (List.mem_of_getElem? (i := 369) (by decide +kernel)) (by decide +kernel)), (am_wsin (List.mem_of_getElem? (i := 370) (by decide +kernel)) (by decide +kernel))⟩
theorem fX0_39 : am_fld RX0 39 2 12 (.array .int) true := ⟨RX3, TX3, 13, rfl, by decide, (am_wsin (List.mem_of_getElem? (i := 107) (by decide +kernel)) (by decide +kernel)), by decide +kernel, rfl, fun _ => rfl⟩
theorem kX0_43 : Cond.methodLink RX0 43 yX3_isBooth ∈ am_ws ∧ Cond.instanceMethod yX3_isBooth ∈ am_ws ∧ Cond.selects RX3 yX3_isBooth yX3_isBooth ∈ am_ws := ⟨(am_wsin (List.mem_of_getElem? (i := 351) (by decide +kernel)) (by decide +kernel)), (am_wsin (List.mem_of_getElem? (i := 303) (by decide +kernel)) (by decide +kernel)), (am_wsin (List.mem_of_getElem? (i := 304) (by decide +kernel)) (by decide +kernel))⟩
theorem fX0_67 : am_fld RX0 67 2 7 (.array .int) true := ⟨RX3, TX3, 13, rfl, by decide, (am_wsin (List.mem_of_getElem? (i := 91) (by decide +kernel)) (by decide +kernel)), by decide +kernel, rfl, fun _ => rfl⟩
theorem kX0_25 : Cond.methodLink RX0 25 yX3_setting ∈ am_ws ∧ Cond.instanceMethod yX3_setting ∈ am_ws ∧ Cond.selects RX3 yX3_setting yX3_setting ∈ am_ws := ⟨(am_wsin (List.mem_of_getElem? (i := 377) (by decide +kernel)) (by decide +kernel)), (am_wsin (List.mem_of_getElem? (i := 262) (by decide +kernel)) (by decide +kernel)), (am_wsin (List.mem_of_getElem? (i := 263) (by decide +kernel)) (by decide +kernel))⟩
theorem kX0_70 : Cond.methodLink RX0 70 yX5_bestOpenPitch ∈ am_ws ∧ Cond.instanceMethod yX5_bestOpenPitch ∈ am_ws ∧ Cond.selects RX5 yX5_bestOpenPitch yX5_bestOpenPitch ∈ am_ws := ⟨(am_wsin (List.mem_of_getElem? (i := 378) (by decide +kernel)) (by decide +kernel)), (am_wsin (List.mem_of_getElem? (i := 379) (by decide +kernel)) (by decide +kernel)), (am_wsin (List.mem_of_getElem? (i := 380) (by decide +kernel)) (by decide +kernel))⟩
theorem fX0_73 : am_fld RX0 73 2 8 (.array .int) true := ⟨RX3, TX3, 13, rfl, by decide, (am_wsin (List.mem_of_getElem? (i := 95) (by decide +kernel)) (by decide +kernel)), by decide +kernel, rfl, fun _ => rfl⟩
theorem kX0_76 : Cond.methodLink RX0 76 yX5_raise ∈ am_ws ∧ Cond.instanceMethod yX5_raise ∈ am_ws ∧ Cond.selects RX5 yX5_raise yX5_raise ∈ am_ws := ⟨(am_wsin (List.mem_of_getElem? (i := 402) (by decide +kernel)) (by decide +kernel)), (am_wsin (List.mem_of_getElem? (i := 403) (by decide +kernel)) (by decide +kernel)), (am_wsin (List.mem_of_getElem? (i := 404) (by decide +kernel)) (by decide +kernel))⟩
theorem fX0_47 : am_fld RX0 47 2 6 (.int) false := ⟨RX3, TX3, 13, rfl, by decide, (am_wsin (List.mem_of_getElem? (i := 87) (by decide +kernel)) (by decide +kernel)), by decide +kernel, rfl, fun _ => rfl⟩
theorem kX0_50 : Cond.methodLink RX0 50 yJ9_min_7cf53 ∈ am_ws ∧ Cond.static yJ9_min_7cf53 ∈ am_ws := ⟨(am_wsin (List.mem_of_getElem? (i := 352) (by decide +kernel)) (by decide +kernel)), (am_wsin (List.mem_of_getElem? (i := 259) (by decide +kernel)) (by decide +kernel))⟩
theorem kX0_19 : Cond.methodLink RX0 19 yX3_draw ∈ am_ws ∧ Cond.instanceMethod yX3_draw ∈ am_ws ∧ Cond.selects RX3 yX3_draw yX3_draw ∈ am_ws := ⟨(am_wsin (List.mem_of_getElem? (i := 353) (by decide +kernel)) (by decide +kernel)), (am_wsin (List.mem_of_getElem? (i := 354) (by decide +kernel)) (by decide +kernel)), (am_wsin (List.mem_of_getElem? (i := 355) (by decide +kernel)) (by decide +kernel))⟩
theorem fX0_56 : am_fld RX0 56 2 10 (.array .int) true := ⟨RX3, TX3, 13, rfl, by decide, (am_wsin (List.mem_of_getElem? (i := 101) (by decide +kernel)) (by decide +kernel)), by decide +kernel, rfl, fun _ => rfl⟩
theorem kX0_9 : Cond.methodLink RX0 9 yX0_drawLots ∈ am_ws ∧ Cond.static yX0_drawLots ∈ am_ws := ⟨(am_wsin (List.mem_of_getElem? (i := 348) (by decide +kernel)) (by decide +kernel)), (am_wsin (List.mem_of_getElem? (i := 349) (by decide +kernel)) (by decide +kernel))⟩
theorem kX0_15 : Cond.methodLink RX0 15 yX0_choosePitches ∈ am_ws ∧ Cond.static yX0_choosePitches ∈ am_ws := ⟨(am_wsin (List.mem_of_getElem? (i := 361) (by decide +kernel)) (by decide +kernel)), (am_wsin (List.mem_of_getElem? (i := 362) (by decide +kernel)) (by decide +kernel))⟩
theorem fX0_28 : am_fld RX0 28 2 3 (.int) false := ⟨RX3, TX3, 13, rfl, by decide, (am_wsin (List.mem_of_getElem? (i := 78) (by decide +kernel)) (by decide +kernel)), by decide +kernel, rfl, fun _ => rfl⟩
theorem fX0_32 : am_fld RX0 32 2 4 (.int) false := ⟨RX3, TX3, 13, rfl, by decide, (am_wsin (List.mem_of_getElem? (i := 81) (by decide +kernel)) (by decide +kernel)), by decide +kernel, rfl, fun _ => rfl⟩
theorem kX0_35 : Cond.methodLink RX0 35 yX0_passHats ∈ am_ws ∧ Cond.static yX0_passHats ∈ am_ws := ⟨(am_wsin (List.mem_of_getElem? (i := 407) (by decide +kernel)) (by decide +kernel)), (am_wsin (List.mem_of_getElem? (i := 408) (by decide +kernel)) (by decide +kernel))⟩
theorem kX0_80 : Cond.methodLink RX0 80 yX3_isStanding ∈ am_ws ∧ Cond.instanceMethod yX3_isStanding ∈ am_ws ∧ Cond.selects RX3 yX3_isStanding yX3_isStanding ∈ am_ws := ⟨(am_wsin (List.mem_of_getElem? (i := 410) (by decide +kernel)) (by decide +kernel)), (am_wsin (List.mem_of_getElem? (i := 334) (by decide +kernel)) (by decide +kernel)), (am_wsin (List.mem_of_getElem? (i := 335) (by decide +kernel)) (by decide +kernel))⟩
theorem kX0_83 : Cond.methodLink RX0 83 yX3_isRoofed ∈ am_ws ∧ Cond.instanceMethod yX3_isRoofed ∈ am_ws ∧ Cond.selects RX3 yX3_isRoofed yX3_isRoofed ∈ am_ws := ⟨(am_wsin (List.mem_of_getElem? (i := 411) (by decide +kernel)) (by decide +kernel)), (am_wsin (List.mem_of_getElem? (i := 277) (by decide +kernel)) (by decide +kernel)), (am_wsin (List.mem_of_getElem? (i := 278) (by decide +kernel)) (by decide +kernel))⟩
theorem kX0_86 : Cond.methodLink RX0 86 yX5_crowdAt ∈ am_ws ∧ Cond.instanceMethod yX5_crowdAt ∈ am_ws ∧ Cond.selects RX5 yX5_crowdAt yX5_crowdAt ∈ am_ws := ⟨(am_wsin (List.mem_of_getElem? (i := 412) (by decide +kernel)) (by decide +kernel)), (am_wsin (List.mem_of_getElem? (i := 383) (by decide +kernel)) (by decide +kernel)), (am_wsin (List.mem_of_getElem? (i := 384) (by decide +kernel)) (by decide +kernel))⟩
theorem fX0_89 : am_fld RX0 89 2 9 (.array .int) true := ⟨RX3, TX3, 13, rfl, by decide, (am_wsin (List.mem_of_getElem? (i := 99) (by decide +kernel)) (by decide +kernel)), by decide +kernel, rfl, fun _ => rfl⟩
theorem fX0_92 : am_fld RX0 92 2 11 (.array .int) true := ⟨RX3, TX3, 13, rfl, by decide, (am_wsin (List.mem_of_getElem? (i := 104) (by decide +kernel)) (by decide +kernel)), by decide +kernel, rfl, fun _ => rfl⟩
theorem fX0_95 : am_fld RX0 95 2 5 (.int) false := ⟨RX3, TX3, 13, rfl, by decide, (am_wsin (List.mem_of_getElem? (i := 84) (by decide +kernel)) (by decide +kernel)), by decide +kernel, rfl, fun _ => rfl⟩
theorem oX1_3 : Cond.methodLink RX1 3 objectInit ∈ am_ws := (am_wsin (List.mem_of_getElem? (i := 210) (by decide +kernel)) (by decide +kernel))
theorem waX1_9 : Cond.classLink RX1 9 RX3 ∈ am_ws ∧ Cond.arrayOver (.object RX3) ∈ am_nw := ⟨(am_wsin (List.mem_of_getElem? (i := 211) (by decide +kernel)) (by decide +kernel)), (List.mem_filter.mpr ⟨List.mem_of_getElem? (i := 212) (by decide +kernel), by decide +kernel⟩)⟩
theorem fX1_11 : am_fld RX1 11 0 0 (.array (.object "PuppetPitches$State")) true := ⟨RX1, TX1, 3, rfl, by decide, (am_wsin (List.mem_of_getElem? (i := 213) (by decide +kernel)) (by decide +kernel)), by decide +kernel, rfl, fun _ => rfl⟩
theorem fX1_17 : am_fld RX1 17 0 1 (.int) false := ⟨RX1, TX1, 3, rfl, by decide, (am_wsin (List.mem_of_getElem? (i := 214) (by decide +kernel)) (by decide +kernel)), by decide +kernel, rfl, fun _ => rfl⟩
theorem wX1_9 : am_nwf RX1 9 2 13 [.null, .long 0, .int 0, .int 0, .int 0, .int 0, .int 0, .null, .null, .null, .null, .null, .null] := ⟨RX3, TX3, rfl, (am_wsin (List.mem_of_getElem? (i := 211) (by decide +kernel)) (by decide +kernel)), (am_wsin (List.mem_of_getElem? (i := 58) (by decide +kernel)) (by decide +kernel)), (am_wsin (List.mem_of_getElem? (i := 40) (by decide +kernel)) (by decide +kernel)), by decide +kernel, by decide +kernel⟩
theorem kX1_21 : Cond.methodLink RX1 21 yX3_init ∈ am_ws ∧ Cond.instanceMethod yX3_init ∈ am_ws := ⟨(am_wsin (List.mem_of_getElem? (i := 253) (by decide +kernel)) (by decide +kernel)), (am_wsin (List.mem_of_getElem? (i := 60) (by decide +kernel)) (by decide +kernel))⟩
theorem kX1_22 : Cond.methodLink RX1 22 yX3_copyFrom ∈ am_ws ∧ Cond.instanceMethod yX3_copyFrom ∈ am_ws ∧ Cond.selects RX3 yX3_copyFrom yX3_copyFrom ∈ am_ws := ⟨(am_wsin (List.mem_of_getElem? (i := 254) (by decide +kernel)) (by decide +kernel)), (am_wsin (List.mem_of_getElem? (i := 255) (by decide +kernel)) (by decide +kernel)), (am_wsin (List.mem_of_getElem? (i := 256) (by decide +kernel)) (by decide +kernel))⟩
theorem fX1_26 : am_fld RX1 26 0 2 (.int) false := ⟨RX1, TX1, 3, rfl, by decide, (am_wsin (List.mem_of_getElem? (i := 215) (by decide +kernel)) (by decide +kernel)), by decide +kernel, rfl, fun _ => rfl⟩
theorem kX1_29 : Cond.methodLink RX1 29 yJ9_min_7cf53 ∈ am_ws ∧ Cond.static yJ9_min_7cf53 ∈ am_ws := ⟨(am_wsin (List.mem_of_getElem? (i := 258) (by decide +kernel)) (by decide +kernel)), (am_wsin (List.mem_of_getElem? (i := 259) (by decide +kernel)) (by decide +kernel))⟩
theorem fX2_28 : am_fld RX2 28 1 1 (.int) false := ⟨RX2, TX2, 5, rfl, by decide, (am_wsin (List.mem_of_getElem? (i := 185) (by decide +kernel)) (by decide +kernel)), by decide +kernel, rfl, fun _ => rfl⟩
theorem fX2_9 : am_fld RX2 9 1 0 (.array .char) true := ⟨RX2, TX2, 5, rfl, by decide, (am_wsin (List.mem_of_getElem? (i := 184) (by decide +kernel)) (by decide +kernel)), by decide +kernel, rfl, fun _ => rfl⟩
theorem cX2_22 : Cond.constantLong RX2 22 (255) ∈ am_ws := (am_wsin (List.mem_of_getElem? (i := 534) (by decide +kernel)) (by decide +kernel))
theorem cX2_24 : Cond.constantLong RX2 24 (33) ∈ am_ws := (am_wsin (List.mem_of_getElem? (i := 535) (by decide +kernel)) (by decide +kernel))
theorem cX2_26 : Cond.constantLong RX2 26 (126) ∈ am_ws := (am_wsin (List.mem_of_getElem? (i := 536) (by decide +kernel)) (by decide +kernel))
theorem fX2_32 : am_fld RX2 32 1 2 (.int) false := ⟨RX2, TX2, 5, rfl, by decide, (am_wsin (List.mem_of_getElem? (i := 187) (by decide +kernel)) (by decide +kernel)), by decide +kernel, rfl, fun _ => rfl⟩
theorem kX2_35 : Cond.methodLink RX2 35 yX2_stageAfter ∈ am_ws ∧ Cond.instanceMethod yX2_stageAfter ∈ am_ws ∧ Cond.selects RX2 yX2_stageAfter yX2_stageAfter ∈ am_ws := ⟨(am_wsin (List.mem_of_getElem? (i := 421) (by decide +kernel)) (by decide +kernel)), (am_wsin (List.mem_of_getElem? (i := 423) (by decide +kernel)) (by decide +kernel)), (am_wsin (List.mem_of_getElem? (i := 1) (by decide +kernel)) (by decide +kernel))⟩
theorem fX2_19 : am_fld RX2 19 1 4 (.array .int) true := ⟨RX2, TX2, 5, rfl, by decide, (am_wsin (List.mem_of_getElem? (i := 191) (by decide +kernel)) (by decide +kernel)), by decide +kernel, rfl, fun _ => rfl⟩
theorem kX2_53 : Cond.methodLinkNest RX2 53 yX6_isPitch "PuppetPitches" ∈ am_nw ∧ Cond.static yX6_isPitch ∈ am_ws := ⟨(List.mem_filter.mpr ⟨List.mem_of_getElem? (i := 445) (by decide +kernel), by decide +kernel⟩), (am_wsin (List.mem_of_getElem? (i := 274) (by decide +kernel)) (by decide +kernel))⟩
theorem oX2_3 : Cond.methodLink RX2 3 objectInit ∈ am_ws := (am_wsin (List.mem_of_getElem? (i := 183) (by decide +kernel)) (by decide +kernel))
theorem fX2_15 : am_fld RX2 15 1 3 (.array .int) true := ⟨RX2, TX2, 5, rfl, by decide, (am_wsin (List.mem_of_getElem? (i := 189) (by decide +kernel)) (by decide +kernel)), by decide +kernel, rfl, fun _ => rfl⟩
theorem kX2_49 : Cond.methodLink RX2 49 yX2_readPitch ∈ am_ws ∧ Cond.instanceMethod yX2_readPitch ∈ am_ws ∧ Cond.selects RX2 yX2_readPitch yX2_readPitch ∈ am_ws := ⟨(am_wsin (List.mem_of_getElem? (i := 437) (by decide +kernel)) (by decide +kernel)), (am_wsin (List.mem_of_getElem? (i := 439) (by decide +kernel)) (by decide +kernel)), (am_wsin (List.mem_of_getElem? (i := 5) (by decide +kernel)) (by decide +kernel))⟩
theorem kX2_39 : Cond.methodLink RX2 39 yX2_readHeight ∈ am_ws ∧ Cond.instanceMethod yX2_readHeight ∈ am_ws ∧ Cond.selects RX2 yX2_readHeight yX2_readHeight ∈ am_ws := ⟨(am_wsin (List.mem_of_getElem? (i := 425) (by decide +kernel)) (by decide +kernel)), (am_wsin (List.mem_of_getElem? (i := 427) (by decide +kernel)) (by decide +kernel)), (am_wsin (List.mem_of_getElem? (i := 2) (by decide +kernel)) (by decide +kernel))⟩
theorem kX2_43 : Cond.methodLink RX2 43 yX2_readComma ∈ am_ws ∧ Cond.instanceMethod yX2_readComma ∈ am_ws ∧ Cond.selects RX2 yX2_readComma yX2_readComma ∈ am_ws := ⟨(am_wsin (List.mem_of_getElem? (i := 429) (by decide +kernel)) (by decide +kernel)), (am_wsin (List.mem_of_getElem? (i := 431) (by decide +kernel)) (by decide +kernel)), (am_wsin (List.mem_of_getElem? (i := 3) (by decide +kernel)) (by decide +kernel))⟩
theorem kX2_46 : Cond.methodLink RX2 46 yX2_readFirstDigit ∈ am_ws ∧ Cond.instanceMethod yX2_readFirstDigit ∈ am_ws ∧ Cond.selects RX2 yX2_readFirstDigit yX2_readFirstDigit ∈ am_ws := ⟨(am_wsin (List.mem_of_getElem? (i := 433) (by decide +kernel)) (by decide +kernel)), (am_wsin (List.mem_of_getElem? (i := 435) (by decide +kernel)) (by decide +kernel)), (am_wsin (List.mem_of_getElem? (i := 4) (by decide +kernel)) (by decide +kernel))⟩
theorem fX3_60 : am_fld RX3 60 2 6 (.int) false := ⟨RX3, TX3, 13, rfl, by decide, (am_wsin (List.mem_of_getElem? (i := 86) (by decide +kernel)) (by decide +kernel)), by decide +kernel, rfl, fun _ => rfl⟩
theorem fX3_26 : am_fld RX3 26 2 7 (.array .int) true := ⟨RX3, TX3, 13, rfl, by decide, (am_wsin (List.mem_of_getElem? (i := 89) (by decide +kernel)) (by decide +kernel)), by decide +kernel, rfl, fun _ => rfl⟩
theorem fX3_29 : am_fld RX3 29 2 8 (.array .int) true := ⟨RX3, TX3, 13, rfl, by decide, (am_wsin (List.mem_of_getElem? (i := 93) (by decide +kernel)) (by decide +kernel)), by decide +kernel, rfl, fun _ => rfl⟩
theorem fX3_32 : am_fld RX3 32 2 9 (.array .int) true := ⟨RX3, TX3, 13, rfl, by decide, (am_wsin (List.mem_of_getElem? (i := 97) (by decide +kernel)) (by decide +kernel)), by decide +kernel, rfl, fun _ => rfl⟩
theorem fX3_35 : am_fld RX3 35 2 10 (.array .int) true := ⟨RX3, TX3, 13, rfl, by decide, (am_wsin (List.mem_of_getElem? (i := 100) (by decide +kernel)) (by decide +kernel)), by decide +kernel, rfl, fun _ => rfl⟩
theorem fX3_38 : am_fld RX3 38 2 11 (.array .int) true := ⟨RX3, TX3, 13, rfl, by decide, (am_wsin (List.mem_of_getElem? (i := 103) (by decide +kernel)) (by decide +kernel)), by decide +kernel, rfl, fun _ => rfl⟩
theorem kX3_70 : Cond.methodLink RX3 70 yX3_isStanding ∈ am_ws ∧ Cond.instanceMethod yX3_isStanding ∈ am_ws ∧ Cond.selects RX3 yX3_isStanding yX3_isStanding ∈ am_ws := ⟨(am_wsin (List.mem_of_getElem? (i := 333) (by decide +kernel)) (by decide +kernel)), (am_wsin (List.mem_of_getElem? (i := 334) (by decide +kernel)) (by decide +kernel)), (am_wsin (List.mem_of_getElem? (i := 335) (by decide +kernel)) (by decide +kernel))⟩
theorem fX3_13 : am_fld RX3 13 2 0 (.array .int) true := ⟨RX3, TX3, 13, rfl, by decide, (am_wsin (List.mem_of_getElem? (i := 72) (by decide +kernel)) (by decide +kernel)), by decide +kernel, rfl, fun _ => rfl⟩
theorem kX3_85 : Cond.methodLink RX3 85 yJ9_max_7cf53 ∈ am_ws ∧ Cond.static yJ9_max_7cf53 ∈ am_ws := ⟨(am_wsin (List.mem_of_getElem? (i := 314) (by decide +kernel)) (by decide +kernel)), (am_wsin (List.mem_of_getElem? (i := 315) (by decide +kernel)) (by decide +kernel))⟩
theorem kX3_44 : Cond.methodLinkNest RX3 44 yX6_copyRow "PuppetPitches" ∈ am_nw ∧ Cond.static yX6_copyRow ∈ am_ws := ⟨(List.mem_filter.mpr ⟨List.mem_of_getElem? (i := 65) (by decide +kernel), by decide +kernel⟩), (am_wsin (List.mem_of_getElem? (i := 66) (by decide +kernel)) (by decide +kernel))⟩
theorem fX3_18 : am_fld RX3 18 2 1 (.long) false := ⟨RX3, TX3, 13, rfl, by decide, (am_wsin (List.mem_of_getElem? (i := 73) (by decide +kernel)) (by decide +kernel)), by decide +kernel, rfl, fun _ => rfl⟩
theorem fX3_22 : am_fld RX3 22 2 2 (.int) false := ⟨RX3, TX3, 13, rfl, by decide, (am_wsin (List.mem_of_getElem? (i := 75) (by decide +kernel)) (by decide +kernel)), by decide +kernel, rfl, fun _ => rfl⟩
theorem fX3_51 : am_fld RX3 51 2 3 (.int) false := ⟨RX3, TX3, 13, rfl, by decide, (am_wsin (List.mem_of_getElem? (i := 77) (by decide +kernel)) (by decide +kernel)), by decide +kernel, rfl, fun _ => rfl⟩
theorem fX3_54 : am_fld RX3 54 2 4 (.int) false := ⟨RX3, TX3, 13, rfl, by decide, (am_wsin (List.mem_of_getElem? (i := 80) (by decide +kernel)) (by decide +kernel)), by decide +kernel, rfl, fun _ => rfl⟩
theorem fX3_57 : am_fld RX3 57 2 5 (.int) false := ⟨RX3, TX3, 13, rfl, by decide, (am_wsin (List.mem_of_getElem? (i := 83) (by decide +kernel)) (by decide +kernel)), by decide +kernel, rfl, fun _ => rfl⟩
theorem fX3_41 : am_fld RX3 41 2 12 (.array .int) true := ⟨RX3, TX3, 13, rfl, by decide, (am_wsin (List.mem_of_getElem? (i := 106) (by decide +kernel)) (by decide +kernel)), by decide +kernel, rfl, fun _ => rfl⟩
theorem cX3_91 : Cond.constantLong RX3 91 (1103515245) ∈ am_ws := (am_wsin (List.mem_of_getElem? (i := 357) (by decide +kernel)) (by decide +kernel))
theorem cX3_93 : Cond.constantLong RX3 93 (12345) ∈ am_ws := (am_wsin (List.mem_of_getElem? (i := 358) (by decide +kernel)) (by decide +kernel))
theorem cX3_95 : Cond.constantLong RX3 95 (2147483648) ∈ am_ws := (am_wsin (List.mem_of_getElem? (i := 359) (by decide +kernel)) (by decide +kernel))
theorem cX3_97 : Cond.constantLong RX3 97 (65536) ∈ am_ws := (am_wsin (List.mem_of_getElem? (i := 360) (by decide +kernel)) (by decide +kernel))
theorem kX3_48 : Cond.methodLink RX3 48 yX3_forgetLots ∈ am_ws ∧ Cond.instanceMethod yX3_forgetLots ∈ am_ws ∧ Cond.selects RX3 yX3_forgetLots yX3_forgetLots ∈ am_ws := ⟨(am_wsin (List.mem_of_getElem? (i := 68) (by decide +kernel)) (by decide +kernel)), (am_wsin (List.mem_of_getElem? (i := 70) (by decide +kernel)) (by decide +kernel)), (am_wsin (List.mem_of_getElem? (i := 0) (by decide +kernel)) (by decide +kernel))⟩
theorem oX3_3 : Cond.methodLink RX3 3 objectInit ∈ am_ws := (am_wsin (List.mem_of_getElem? (i := 62) (by decide +kernel)) (by decide +kernel))
theorem sX3_9 : Cond.fieldLinkNest RX3 9 "PuppetPitches" "FIRST_SETTINGS" "[I" "PuppetPitches" ∈ am_nw := (List.mem_filter.mpr ⟨List.mem_of_getElem? (i := 63) (by decide +kernel), by decide +kernel⟩)
theorem kX3_77 : Cond.methodLink RX3 77 yX3_hides ∈ am_ws ∧ Cond.instanceMethod yX3_hides ∈ am_ws ∧ Cond.selects RX3 yX3_hides yX3_hides ∈ am_ws := ⟨(am_wsin (List.mem_of_getElem? (i := 487) (by decide +kernel)) (by decide +kernel)), (am_wsin (List.mem_of_getElem? (i := 489) (by decide +kernel)) (by decide +kernel)), (am_wsin (List.mem_of_getElem? (i := 7) (by decide +kernel)) (by decide +kernel))⟩
theorem kX3_63 : Cond.methodLinkNest RX3 63 yX6_isPitch "PuppetPitches" ∈ am_nw ∧ Cond.static yX6_isPitch ∈ am_ws := ⟨(List.mem_filter.mpr ⟨List.mem_of_getElem? (i := 280) (by decide +kernel), by decide +kernel⟩), (am_wsin (List.mem_of_getElem? (i := 274) (by decide +kernel)) (by decide +kernel))⟩
theorem kX3_67 : Cond.methodLink RX3 67 yX3_isBooth ∈ am_ws ∧ Cond.instanceMethod yX3_isBooth ∈ am_ws ∧ Cond.selects RX3 yX3_isBooth yX3_isBooth ∈ am_ws := ⟨(am_wsin (List.mem_of_getElem? (i := 310) (by decide +kernel)) (by decide +kernel)), (am_wsin (List.mem_of_getElem? (i := 303) (by decide +kernel)) (by decide +kernel)), (am_wsin (List.mem_of_getElem? (i := 304) (by decide +kernel)) (by decide +kernel))⟩
theorem kX3_73 : Cond.methodLink RX3 73 yX3_boothAt ∈ am_ws ∧ Cond.instanceMethod yX3_boothAt ∈ am_ws ∧ Cond.selects RX3 yX3_boothAt yX3_boothAt ∈ am_ws := ⟨(am_wsin (List.mem_of_getElem? (i := 329) (by decide +kernel)) (by decide +kernel)), (am_wsin (List.mem_of_getElem? (i := 330) (by decide +kernel)) (by decide +kernel)), (am_wsin (List.mem_of_getElem? (i := 331) (by decide +kernel)) (by decide +kernel))⟩
theorem kX3_81 : Cond.methodLink RX3 81 yX3_closeUp ∈ am_ws ∧ Cond.static yX3_closeUp ∈ am_ws := ⟨(am_wsin (List.mem_of_getElem? (i := 311) (by decide +kernel)) (by decide +kernel)), (am_wsin (List.mem_of_getElem? (i := 312) (by decide +kernel)) (by decide +kernel))⟩
theorem oX4_3 : Cond.methodLink RX4 3 objectInit ∈ am_ws := (am_wsin (List.mem_of_getElem? (i := 148) (by decide +kernel)) (by decide +kernel))
theorem fX4_9 : am_fld RX4 9 3 1 (.array .int) true := ⟨RX4, TX4, 5, rfl, by decide, (am_wsin (List.mem_of_getElem? (i := 150) (by decide +kernel)) (by decide +kernel)), by decide +kernel, rfl, fun _ => rfl⟩
theorem fX4_15 : am_fld RX4 15 3 2 (.array .int) true := ⟨RX4, TX4, 5, rfl, by decide, (am_wsin (List.mem_of_getElem? (i := 151) (by decide +kernel)) (by decide +kernel)), by decide +kernel, rfl, fun _ => rfl⟩
theorem fX4_18 : am_fld RX4 18 3 0 (.boolean) true := ⟨RX4, TX4, 5, rfl, by decide, (am_wsin (List.mem_of_getElem? (i := 149) (by decide +kernel)) (by decide +kernel)), by decide +kernel, rfl, fun _ => rfl⟩
theorem kX4_29 : Cond.methodLinkNest RX4 29 yX6_isPitch "PuppetPitches" ∈ am_nw ∧ Cond.static yX6_isPitch ∈ am_ws := ⟨(List.mem_filter.mpr ⟨List.mem_of_getElem? (i := 394) (by decide +kernel), by decide +kernel⟩), (am_wsin (List.mem_of_getElem? (i := 274) (by decide +kernel)) (by decide +kernel))⟩
theorem kX4_33 : Cond.methodLink RX4 33 yX4_isSeen ∈ am_ws ∧ Cond.instanceMethod yX4_isSeen ∈ am_ws ∧ Cond.selects RX4 yX4_isSeen yX4_isSeen ∈ am_ws := ⟨(am_wsin (List.mem_of_getElem? (i := 390) (by decide +kernel)) (by decide +kernel)), (am_wsin (List.mem_of_getElem? (i := 391) (by decide +kernel)) (by decide +kernel)), (am_wsin (List.mem_of_getElem? (i := 392) (by decide +kernel)) (by decide +kernel))⟩
theorem fX4_22 : am_fld RX4 22 3 3 (.int) false := ⟨RX4, TX4, 5, rfl, by decide, (am_wsin (List.mem_of_getElem? (i := 152) (by decide +kernel)) (by decide +kernel)), by decide +kernel, rfl, fun _ => rfl⟩
theorem fX4_26 : am_fld RX4 26 3 4 (.int) false := ⟨RX4, TX4, 5, rfl, by decide, (am_wsin (List.mem_of_getElem? (i := 153) (by decide +kernel)) (by decide +kernel)), by decide +kernel, rfl, fun _ => rfl⟩
theorem kX5_70 : Cond.methodLink RX5 70 yX5_crowdAt ∈ am_ws ∧ Cond.instanceMethod yX5_crowdAt ∈ am_ws ∧ Cond.selects RX5 yX5_crowdAt yX5_crowdAt ∈ am_ws := ⟨(am_wsin (List.mem_of_getElem? (i := 382) (by decide +kernel)) (by decide +kernel)), (am_wsin (List.mem_of_getElem? (i := 383) (by decide +kernel)) (by decide +kernel)), (am_wsin (List.mem_of_getElem? (i := 384) (by decide +kernel)) (by decide +kernel))⟩
theorem kX5_73 : Cond.methodLink RX5 73 yX5_isOpen ∈ am_ws ∧ Cond.instanceMethod yX5_isOpen ∈ am_ws ∧ Cond.selects RX5 yX5_isOpen yX5_isOpen ∈ am_ws := ⟨(am_wsin (List.mem_of_getElem? (i := 395) (by decide +kernel)) (by decide +kernel)), (am_wsin (List.mem_of_getElem? (i := 396) (by decide +kernel)) (by decide +kernel)), (am_wsin (List.mem_of_getElem? (i := 397) (by decide +kernel)) (by decide +kernel))⟩
theorem fX5_9 : am_fld RX5 9 4 0 (.array .int) true := ⟨RX5, TX5, 3, rfl, by decide, (am_wsin (List.mem_of_getElem? (i := 166) (by decide +kernel)) (by decide +kernel)), by decide +kernel, rfl, fun _ => rfl⟩
theorem fX5_20 : am_fld RX5 20 4 1 (.object "PuppetPitches$Stream") true := ⟨RX5, TX5, 3, rfl, by decide, (am_wsin (List.mem_of_getElem? (i := 167) (by decide +kernel)) (by decide +kernel)), by decide +kernel, rfl, fun _ => rfl⟩
theorem kX5_61 : Cond.methodLink RX5 61 yX4_stopping ∈ am_ws ∧ Cond.instanceMethod yX4_stopping ∈ am_ws ∧ Cond.selects RX4 yX4_stopping yX4_stopping ∈ am_ws := ⟨(am_wsin (List.mem_of_getElem? (i := 386) (by decide +kernel)) (by decide +kernel)), (am_wsin (List.mem_of_getElem? (i := 387) (by decide +kernel)) (by decide +kernel)), (am_wsin (List.mem_of_getElem? (i := 388) (by decide +kernel)) (by decide +kernel))⟩
theorem fX5_24 : am_fld RX5 24 4 2 (.object "PuppetPitches$Stream") true := ⟨RX5, TX5, 3, rfl, by decide, (am_wsin (List.mem_of_getElem? (i := 169) (by decide +kernel)) (by decide +kernel)), by decide +kernel, rfl, fun _ => rfl⟩
theorem oX5_3 : Cond.methodLink RX5 3 objectInit ∈ am_ws := (am_wsin (List.mem_of_getElem? (i := 142) (by decide +kernel)) (by decide +kernel))
theorem wX5_15 : am_nwf RX5 15 3 5 [.int 0, .null, .null, .int 0, .int 0] := ⟨RX4, TX4, rfl, (am_wsin (List.mem_of_getElem? (i := 143) (by decide +kernel)) (by decide +kernel)), (am_wsin (List.mem_of_getElem? (i := 144) (by decide +kernel)) (by decide +kernel)), (am_wsin (List.mem_of_getElem? (i := 42) (by decide +kernel)) (by decide +kernel)), by decide +kernel, by decide +kernel⟩
theorem kX5_17 : Cond.methodLink RX5 17 yX4_init ∈ am_ws ∧ Cond.instanceMethod yX4_init ∈ am_ws := ⟨(am_wsin (List.mem_of_getElem? (i := 145) (by decide +kernel)) (by decide +kernel)), (am_wsin (List.mem_of_getElem? (i := 146) (by decide +kernel)) (by decide +kernel))⟩
theorem kX5_65 : Cond.methodLink RX5 65 yJ9_abs_0f7a4 ∈ am_ws ∧ Cond.static yJ9_abs_0f7a4 ∈ am_ws := ⟨(am_wsin (List.mem_of_getElem? (i := 399) (by decide +kernel)) (by decide +kernel)), (am_wsin (List.mem_of_getElem? (i := 400) (by decide +kernel)) (by decide +kernel))⟩
theorem kX5_53 : Cond.methodLink RX5 53 yX3_setting ∈ am_ws ∧ Cond.instanceMethod yX3_setting ∈ am_ws ∧ Cond.selects RX3 yX3_setting yX3_setting ∈ am_ws := ⟨(am_wsin (List.mem_of_getElem? (i := 372) (by decide +kernel)) (by decide +kernel)), (am_wsin (List.mem_of_getElem? (i := 262) (by decide +kernel)) (by decide +kernel)), (am_wsin (List.mem_of_getElem? (i := 263) (by decide +kernel)) (by decide +kernel))⟩
theorem kX5_57 : Cond.methodLink RX5 57 yX4_walk ∈ am_ws ∧ Cond.instanceMethod yX4_walk ∈ am_ws ∧ Cond.selects RX4 yX4_walk yX4_walk ∈ am_ws := ⟨(am_wsin (List.mem_of_getElem? (i := 373) (by decide +kernel)) (by decide +kernel)), (am_wsin (List.mem_of_getElem? (i := 374) (by decide +kernel)) (by decide +kernel)), (am_wsin (List.mem_of_getElem? (i := 375) (by decide +kernel)) (by decide +kernel))⟩
theorem kX5_27 : Cond.methodLink RX5 27 yX5_clear ∈ am_ws ∧ Cond.instanceMethod yX5_clear ∈ am_ws ∧ Cond.selects RX5 yX5_clear yX5_clear ∈ am_ws := ⟨(am_wsin (List.mem_of_getElem? (i := 458) (by decide +kernel)) (by decide +kernel)), (am_wsin (List.mem_of_getElem? (i := 365) (by decide +kernel)) (by decide +kernel)), (am_wsin (List.mem_of_getElem? (i := 366) (by decide +kernel)) (by decide +kernel))⟩
theorem kX5_30 : Cond.methodLink RX5 30 yX3_isStanding ∈ am_ws ∧ Cond.instanceMethod yX3_isStanding ∈ am_ws ∧ Cond.selects RX3 yX3_isStanding yX3_isStanding ∈ am_ws := ⟨(am_wsin (List.mem_of_getElem? (i := 459) (by decide +kernel)) (by decide +kernel)), (am_wsin (List.mem_of_getElem? (i := 334) (by decide +kernel)) (by decide +kernel)), (am_wsin (List.mem_of_getElem? (i := 335) (by decide +kernel)) (by decide +kernel))⟩
theorem fX5_36 : am_fld RX5 36 2 8 (.array .int) true := ⟨RX3, TX3, 13, rfl, by decide, (am_wsin (List.mem_of_getElem? (i := 94) (by decide +kernel)) (by decide +kernel)), by decide +kernel, rfl, fun _ => rfl⟩
theorem fX5_39 : am_fld RX5 39 2 7 (.array .int) true := ⟨RX3, TX3, 13, rfl, by decide, (am_wsin (List.mem_of_getElem? (i := 90) (by decide +kernel)) (by decide +kernel)), by decide +kernel, rfl, fun _ => rfl⟩
theorem kX5_42 : Cond.methodLink RX5 42 yX5_raise ∈ am_ws ∧ Cond.instanceMethod yX5_raise ∈ am_ws ∧ Cond.selects RX5 yX5_raise yX5_raise ∈ am_ws := ⟨(am_wsin (List.mem_of_getElem? (i := 460) (by decide +kernel)) (by decide +kernel)), (am_wsin (List.mem_of_getElem? (i := 403) (by decide +kernel)) (by decide +kernel)), (am_wsin (List.mem_of_getElem? (i := 404) (by decide +kernel)) (by decide +kernel))⟩
theorem kX5_46 : Cond.methodLink RX5 46 yX5_letPeoplePass ∈ am_ws ∧ Cond.instanceMethod yX5_letPeoplePass ∈ am_ws ∧ Cond.selects RX5 yX5_letPeoplePass yX5_letPeoplePass ∈ am_ws := ⟨(am_wsin (List.mem_of_getElem? (i := 461) (by decide +kernel)) (by decide +kernel)), (am_wsin (List.mem_of_getElem? (i := 369) (by decide +kernel)) (by decide +kernel)), (am_wsin (List.mem_of_getElem? (i := 370) (by decide +kernel)) (by decide +kernel))⟩
theorem kX5_50 : Cond.methodLinkNest RX5 50 yX6_isPitch "PuppetPitches" ∈ am_nw ∧ Cond.static yX6_isPitch ∈ am_ws := ⟨(List.mem_filter.mpr ⟨List.mem_of_getElem? (i := 406) (by decide +kernel), by decide +kernel⟩), (am_wsin (List.mem_of_getElem? (i := 274) (by decide +kernel)) (by decide +kernel))⟩
theorem fX6_10 : am_fld RX6 10 5 0 (.object "PuppetPitches$State") true := ⟨RX6, TX6, 6, rfl, by decide, (am_wsin (List.mem_of_getElem? (i := 224) (by decide +kernel)) (by decide +kernel)), by decide +kernel, rfl, fun _ => rfl⟩
theorem kX6_85 : Cond.methodLink RX6 85 yX3_isBooth ∈ am_ws ∧ Cond.instanceMethod yX3_isBooth ∈ am_ws ∧ Cond.selects RX3 yX3_isBooth yX3_isBooth ∈ am_ws := ⟨(am_wsin (List.mem_of_getElem? (i := 302) (by decide +kernel)) (by decide +kernel)), (am_wsin (List.mem_of_getElem? (i := 303) (by decide +kernel)) (by decide +kernel)), (am_wsin (List.mem_of_getElem? (i := 304) (by decide +kernel)) (by decide +kernel))⟩
theorem kX6_161 : Cond.methodLink RX6 161 yX3_isStanding ∈ am_ws ∧ Cond.instanceMethod yX3_isStanding ∈ am_ws ∧ Cond.selects RX3 yX3_isStanding yX3_isStanding ∈ am_ws := ⟨(am_wsin (List.mem_of_getElem? (i := 482) (by decide +kernel)) (by decide +kernel)), (am_wsin (List.mem_of_getElem? (i := 334) (by decide +kernel)) (by decide +kernel)), (am_wsin (List.mem_of_getElem? (i := 335) (by decide +kernel)) (by decide +kernel))⟩
theorem fX6_22 : am_fld RX6 22 5 2 (.object "PuppetPitches$View") true := ⟨RX6, TX6, 6, rfl, by decide, (am_wsin (List.mem_of_getElem? (i := 226) (by decide +kernel)) (by decide +kernel)), by decide +kernel, rfl, fun _ => rfl⟩
theorem kX6_137 : Cond.methodLink RX6 137 yX5_look ∈ am_ws ∧ Cond.instanceMethod yX5_look ∈ am_ws ∧ Cond.selects RX5 yX5_look yX5_look ∈ am_ws := ⟨(am_wsin (List.mem_of_getElem? (i := 454) (by decide +kernel)) (by decide +kernel)), (am_wsin (List.mem_of_getElem? (i := 455) (by decide +kernel)) (by decide +kernel)), (am_wsin (List.mem_of_getElem? (i := 456) (by decide +kernel)) (by decide +kernel))⟩
theorem fX6_102 : am_fld RX6 102 2 8 (.array .int) true := ⟨RX3, TX3, 13, rfl, by decide, (am_wsin (List.mem_of_getElem? (i := 96) (by decide +kernel)) (by decide +kernel)), by decide +kernel, rfl, fun _ => rfl⟩
theorem kX6_141 : Cond.methodLink RX6 141 yX5_crowdAt ∈ am_ws ∧ Cond.instanceMethod yX5_crowdAt ∈ am_ws ∧ Cond.selects RX5 yX5_crowdAt yX5_crowdAt ∈ am_ws := ⟨(am_wsin (List.mem_of_getElem? (i := 462) (by decide +kernel)) (by decide +kernel)), (am_wsin (List.mem_of_getElem? (i := 383) (by decide +kernel)) (by decide +kernel)), (am_wsin (List.mem_of_getElem? (i := 384) (by decide +kernel)) (by decide +kernel))⟩
theorem fX6_95 : am_fld RX6 95 2 7 (.array .int) true := ⟨RX3, TX3, 13, rfl, by decide, (am_wsin (List.mem_of_getElem? (i := 92) (by decide +kernel)) (by decide +kernel)), by decide +kernel, rfl, fun _ => rfl⟩
theorem kX6_198 : Cond.methodLink RX6 198 yX5_bestOpenPitch ∈ am_ws ∧ Cond.instanceMethod yX5_bestOpenPitch ∈ am_ws ∧ Cond.selects RX5 yX5_bestOpenPitch yX5_bestOpenPitch ∈ am_ws := ⟨(am_wsin (List.mem_of_getElem? (i := 517) (by decide +kernel)) (by decide +kernel)), (am_wsin (List.mem_of_getElem? (i := 379) (by decide +kernel)) (by decide +kernel)), (am_wsin (List.mem_of_getElem? (i := 380) (by decide +kernel)) (by decide +kernel))⟩
theorem kX6_145 : Cond.methodLink RX6 145 yX6_stoppingFrom ∈ am_ws ∧ Cond.instanceMethod yX6_stoppingFrom ∈ am_ws ∧ Cond.selects RX6 yX6_stoppingFrom yX6_stoppingFrom ∈ am_ws := ⟨(am_wsin (List.mem_of_getElem? (i := 463) (by decide +kernel)) (by decide +kernel)), (am_wsin (List.mem_of_getElem? (i := 465) (by decide +kernel)) (by decide +kernel)), (am_wsin (List.mem_of_getElem? (i := 6) (by decide +kernel)) (by decide +kernel))⟩
theorem fX6_88 : am_fld RX6 88 2 9 (.array .int) true := ⟨RX3, TX3, 13, rfl, by decide, (am_wsin (List.mem_of_getElem? (i := 98) (by decide +kernel)) (by decide +kernel)), by decide +kernel, rfl, fun _ => rfl⟩
theorem fX6_149 : am_fld RX6 149 2 10 (.array .int) true := ⟨RX3, TX3, 13, rfl, by decide, (am_wsin (List.mem_of_getElem? (i := 102) (by decide +kernel)) (by decide +kernel)), by decide +kernel, rfl, fun _ => rfl⟩
theorem fX6_152 : am_fld RX6 152 2 11 (.array .int) true := ⟨RX3, TX3, 13, rfl, by decide, (am_wsin (List.mem_of_getElem? (i := 105) (by decide +kernel)) (by decide +kernel)), by decide +kernel, rfl, fun _ => rfl⟩
theorem kX6_76 : Cond.methodLink RX6 76 yX6_isHeight ∈ am_ws ∧ Cond.static yX6_isHeight ∈ am_ws := ⟨(am_wsin (List.mem_of_getElem? (i := 291) (by decide +kernel)) (by decide +kernel)), (am_wsin (List.mem_of_getElem? (i := 292) (by decide +kernel)) (by decide +kernel))⟩
theorem fX6_79 : am_fld RX6 79 2 6 (.int) false := ⟨RX3, TX3, 13, rfl, by decide, (am_wsin (List.mem_of_getElem? (i := 88) (by decide +kernel)) (by decide +kernel)), by decide +kernel, rfl, fun _ => rfl⟩
theorem fX6_36 : am_fld RX6 36 5 4 (.object "PuppetPitches$History") true := ⟨RX6, TX6, 6, rfl, by decide, (am_wsin (List.mem_of_getElem? (i := 228) (by decide +kernel)) (by decide +kernel)), by decide +kernel, rfl, fun _ => rfl⟩
theorem kX6_48 : Cond.methodLink RX6 48 yX1_record ∈ am_ws ∧ Cond.instanceMethod yX1_record ∈ am_ws ∧ Cond.selects RX1 yX1_record yX1_record ∈ am_ws := ⟨(am_wsin (List.mem_of_getElem? (i := 249) (by decide +kernel)) (by decide +kernel)), (am_wsin (List.mem_of_getElem? (i := 250) (by decide +kernel)) (by decide +kernel)), (am_wsin (List.mem_of_getElem? (i := 251) (by decide +kernel)) (by decide +kernel))⟩
theorem kX6_82 : Cond.methodLink RX6 82 yX3_addBooth ∈ am_ws ∧ Cond.instanceMethod yX3_addBooth ∈ am_ws ∧ Cond.selects RX3 yX3_addBooth yX3_addBooth ∈ am_ws := ⟨(am_wsin (List.mem_of_getElem? (i := 294) (by decide +kernel)) (by decide +kernel)), (am_wsin (List.mem_of_getElem? (i := 295) (by decide +kernel)) (by decide +kernel)), (am_wsin (List.mem_of_getElem? (i := 296) (by decide +kernel)) (by decide +kernel))⟩
theorem sX6_177 : Cond.fieldLink RX6 177 "PuppetPitches" "FIRST_SETTINGS" "[I" ∈ am_ws := (am_wsin (List.mem_of_getElem? (i := 496) (by decide +kernel)) (by decide +kernel))
theorem kX6_52 : Cond.methodLink RX6 52 yX3_setting ∈ am_ws ∧ Cond.instanceMethod yX3_setting ∈ am_ws ∧ Cond.selects RX3 yX3_setting yX3_setting ∈ am_ws := ⟨(am_wsin (List.mem_of_getElem? (i := 261) (by decide +kernel)) (by decide +kernel)), (am_wsin (List.mem_of_getElem? (i := 262) (by decide +kernel)) (by decide +kernel)), (am_wsin (List.mem_of_getElem? (i := 263) (by decide +kernel)) (by decide +kernel))⟩
theorem fX6_105 : am_fld RX6 105 2 1 (.long) false := ⟨RX3, TX3, 13, rfl, by decide, (am_wsin (List.mem_of_getElem? (i := 74) (by decide +kernel)) (by decide +kernel)), by decide +kernel, rfl, fun _ => rfl⟩
theorem kX6_180 : Cond.methodLink RX6 180 yX3_countStanding ∈ am_ws ∧ Cond.instanceMethod yX3_countStanding ∈ am_ws ∧ Cond.selects RX3 yX3_countStanding yX3_countStanding ∈ am_ws := ⟨(am_wsin (List.mem_of_getElem? (i := 497) (by decide +kernel)) (by decide +kernel)), (am_wsin (List.mem_of_getElem? (i := 498) (by decide +kernel)) (by decide +kernel)), (am_wsin (List.mem_of_getElem? (i := 499) (by decide +kernel)) (by decide +kernel))⟩
theorem fX6_67 : am_fld RX6 67 2 2 (.int) false := ⟨RX3, TX3, 13, rfl, by decide, (am_wsin (List.mem_of_getElem? (i := 76) (by decide +kernel)) (by decide +kernel)), by decide +kernel, rfl, fun _ => rfl⟩
theorem kX6_183 : Cond.methodLink RX6 183 yX6_stoppingNowhere ∈ am_ws ∧ Cond.instanceMethod yX6_stoppingNowhere ∈ am_ws ∧ Cond.selects RX6 yX6_stoppingNowhere yX6_stoppingNowhere ∈ am_ws := ⟨(am_wsin (List.mem_of_getElem? (i := 501) (by decide +kernel)) (by decide +kernel)), (am_wsin (List.mem_of_getElem? (i := 503) (by decide +kernel)) (by decide +kernel)), (am_wsin (List.mem_of_getElem? (i := 8) (by decide +kernel)) (by decide +kernel))⟩
theorem fX6_109 : am_fld RX6 109 2 3 (.int) false := ⟨RX3, TX3, 13, rfl, by decide, (am_wsin (List.mem_of_getElem? (i := 79) (by decide +kernel)) (by decide +kernel)), by decide +kernel, rfl, fun _ => rfl⟩
theorem fX6_186 : am_fld RX6 186 2 4 (.int) false := ⟨RX3, TX3, 13, rfl, by decide, (am_wsin (List.mem_of_getElem? (i := 82) (by decide +kernel)) (by decide +kernel)), by decide +kernel, rfl, fun _ => rfl⟩
theorem fX6_189 : am_fld RX6 189 2 5 (.int) false := ⟨RX3, TX3, 13, rfl, by decide, (am_wsin (List.mem_of_getElem? (i := 85) (by decide +kernel)) (by decide +kernel)), by decide +kernel, rfl, fun _ => rfl⟩
theorem fX6_29 : am_fld RX6 29 5 3 (.object "PuppetPitches$Pad") true := ⟨RX6, TX6, 6, rfl, by decide, (am_wsin (List.mem_of_getElem? (i := 227) (by decide +kernel)) (by decide +kernel)), by decide +kernel, rfl, fun _ => rfl⟩
theorem fX6_134 : am_fld RX6 134 1 1 (.int) false := ⟨RX2, TX2, 5, rfl, by decide, (am_wsin (List.mem_of_getElem? (i := 186) (by decide +kernel)) (by decide +kernel)), by decide +kernel, rfl, fun _ => rfl⟩
theorem fX6_192 : am_fld RX6 192 0 2 (.int) false := ⟨RX1, TX1, 3, rfl, by decide, (am_wsin (List.mem_of_getElem? (i := 216) (by decide +kernel)) (by decide +kernel)), by decide +kernel, rfl, fun _ => rfl⟩
theorem kX6_118 : Cond.methodLink RX6 118 yX2_findFault ∈ am_ws ∧ Cond.instanceMethod yX2_findFault ∈ am_ws ∧ Cond.selects RX2 yX2_findFault yX2_findFault ∈ am_ws := ⟨(am_wsin (List.mem_of_getElem? (i := 417) (by decide +kernel)) (by decide +kernel)), (am_wsin (List.mem_of_getElem? (i := 418) (by decide +kernel)) (by decide +kernel)), (am_wsin (List.mem_of_getElem? (i := 419) (by decide +kernel)) (by decide +kernel))⟩
theorem kX6_91 : Cond.methodLink RX6 91 yX3_removeBooth ∈ am_ws ∧ Cond.instanceMethod yX3_removeBooth ∈ am_ws ∧ Cond.selects RX3 yX3_removeBooth yX3_removeBooth ∈ am_ws := ⟨(am_wsin (List.mem_of_getElem? (i := 306) (by decide +kernel)) (by decide +kernel)), (am_wsin (List.mem_of_getElem? (i := 307) (by decide +kernel)) (by decide +kernel)), (am_wsin (List.mem_of_getElem? (i := 308) (by decide +kernel)) (by decide +kernel))⟩
theorem fX6_16 : am_fld RX6 16 5 1 (.object "PuppetPitches$State") true := ⟨RX6, TX6, 6, rfl, by decide, (am_wsin (List.mem_of_getElem? (i := 225) (by decide +kernel)) (by decide +kernel)), by decide +kernel, rfl, fun _ => rfl⟩
theorem kX6_201 : Cond.methodLink RX6 201 yX3_copyFrom ∈ am_ws ∧ Cond.instanceMethod yX3_copyFrom ∈ am_ws ∧ Cond.selects RX3 yX3_copyFrom yX3_copyFrom ∈ am_ws := ⟨(am_wsin (List.mem_of_getElem? (i := 522) (by decide +kernel)) (by decide +kernel)), (am_wsin (List.mem_of_getElem? (i := 255) (by decide +kernel)) (by decide +kernel)), (am_wsin (List.mem_of_getElem? (i := 256) (by decide +kernel)) (by decide +kernel))⟩
theorem kX6_112 : Cond.methodLink RX6 112 yX0_pass ∈ am_ws ∧ Cond.static yX0_pass ∈ am_ws := ⟨(am_wsin (List.mem_of_getElem? (i := 345) (by decide +kernel)) (by decide +kernel)), (am_wsin (List.mem_of_getElem? (i := 346) (by decide +kernel)) (by decide +kernel))⟩
theorem kX6_60 : Cond.methodLink RX6 60 yX6_isPitch ∈ am_ws ∧ Cond.static yX6_isPitch ∈ am_ws := ⟨(am_wsin (List.mem_of_getElem? (i := 273) (by decide +kernel)) (by decide +kernel)), (am_wsin (List.mem_of_getElem? (i := 274) (by decide +kernel)) (by decide +kernel))⟩
theorem kX6_98 : Cond.methodLink RX6 98 yX3_isTakenByOther ∈ am_ws ∧ Cond.instanceMethod yX3_isTakenByOther ∈ am_ws ∧ Cond.selects RX3 yX3_isTakenByOther yX3_isTakenByOther ∈ am_ws := ⟨(am_wsin (List.mem_of_getElem? (i := 325) (by decide +kernel)) (by decide +kernel)), (am_wsin (List.mem_of_getElem? (i := 326) (by decide +kernel)) (by decide +kernel)), (am_wsin (List.mem_of_getElem? (i := 327) (by decide +kernel)) (by decide +kernel))⟩
theorem oX6_1 : Cond.methodLink RX6 1 objectInit ∈ am_ws := (am_wsin (List.mem_of_getElem? (i := 54) (by decide +kernel)) (by decide +kernel))
theorem wX6_7 : am_nwf RX6 7 2 13 [.null, .long 0, .int 0, .int 0, .int 0, .int 0, .int 0, .null, .null, .null, .null, .null, .null] := ⟨RX3, TX3, rfl, (am_wsin (List.mem_of_getElem? (i := 57) (by decide +kernel)) (by decide +kernel)), (am_wsin (List.mem_of_getElem? (i := 58) (by decide +kernel)) (by decide +kernel)), (am_wsin (List.mem_of_getElem? (i := 40) (by decide +kernel)) (by decide +kernel)), by decide +kernel, by decide +kernel⟩
theorem kX6_9 : Cond.methodLink RX6 9 yX3_init ∈ am_ws ∧ Cond.instanceMethod yX3_init ∈ am_ws := ⟨(am_wsin (List.mem_of_getElem? (i := 59) (by decide +kernel)) (by decide +kernel)), (am_wsin (List.mem_of_getElem? (i := 60) (by decide +kernel)) (by decide +kernel))⟩
theorem wX6_19 : am_nwf RX6 19 4 3 [.null, .null, .null] := ⟨RX5, TX5, rfl, (am_wsin (List.mem_of_getElem? (i := 137) (by decide +kernel)) (by decide +kernel)), (am_wsin (List.mem_of_getElem? (i := 138) (by decide +kernel)) (by decide +kernel)), (am_wsin (List.mem_of_getElem? (i := 41) (by decide +kernel)) (by decide +kernel)), by decide +kernel, by decide +kernel⟩
theorem kX6_21 : Cond.methodLinkNest RX6 21 yX5_init "PuppetPitches" ∈ am_nw ∧ Cond.instanceMethod yX5_init ∈ am_ws := ⟨(List.mem_filter.mpr ⟨List.mem_of_getElem? (i := 139) (by decide +kernel), by decide +kernel⟩), (am_wsin (List.mem_of_getElem? (i := 140) (by decide +kernel)) (by decide +kernel))⟩
theorem wX6_26 : am_nwf RX6 26 1 5 [.null, .int 0, .int 0, .null, .null] := ⟨RX2, TX2, rfl, (am_wsin (List.mem_of_getElem? (i := 178) (by decide +kernel)) (by decide +kernel)), (am_wsin (List.mem_of_getElem? (i := 179) (by decide +kernel)) (by decide +kernel)), (am_wsin (List.mem_of_getElem? (i := 43) (by decide +kernel)) (by decide +kernel)), by decide +kernel, by decide +kernel⟩
theorem kX6_28 : Cond.methodLinkNest RX6 28 yX2_init "PuppetPitches" ∈ am_nw ∧ Cond.instanceMethod yX2_init ∈ am_ws := ⟨(List.mem_filter.mpr ⟨List.mem_of_getElem? (i := 180) (by decide +kernel), by decide +kernel⟩), (am_wsin (List.mem_of_getElem? (i := 181) (by decide +kernel)) (by decide +kernel))⟩
theorem wX6_33 : am_nwf RX6 33 0 3 [.null, .int 0, .int 0] := ⟨RX1, TX1, rfl, (am_wsin (List.mem_of_getElem? (i := 205) (by decide +kernel)) (by decide +kernel)), (am_wsin (List.mem_of_getElem? (i := 206) (by decide +kernel)) (by decide +kernel)), (am_wsin (List.mem_of_getElem? (i := 44) (by decide +kernel)) (by decide +kernel)), by decide +kernel, by decide +kernel⟩
theorem kX6_35 : Cond.methodLinkNest RX6 35 yX1_init "PuppetPitches" ∈ am_nw ∧ Cond.instanceMethod yX1_init ∈ am_ws := ⟨(List.mem_filter.mpr ⟨List.mem_of_getElem? (i := 207) (by decide +kernel), by decide +kernel⟩), (am_wsin (List.mem_of_getElem? (i := 208) (by decide +kernel)) (by decide +kernel))⟩
theorem waX6_7 : Cond.classLink RX6 7 RX3 ∈ am_ws ∧ Cond.arrayOver (.object RX3) ∈ am_nw := ⟨(am_wsin (List.mem_of_getElem? (i := 57) (by decide +kernel)) (by decide +kernel)), (List.mem_filter.mpr ⟨List.mem_of_getElem? (i := 212) (by decide +kernel), by decide +kernel⟩)⟩
theorem fX6_40 : am_fld RX6 40 5 5 (.array (.object "PuppetPitches$State")) true := ⟨RX6, TX6, 6, rfl, by decide, (am_wsin (List.mem_of_getElem? (i := 229) (by decide +kernel)) (by decide +kernel)), by decide +kernel, rfl, fun _ => rfl⟩
theorem fX6_195 : am_fld RX6 195 2 12 (.array .int) true := ⟨RX3, TX3, 13, rfl, by decide, (am_wsin (List.mem_of_getElem? (i := 108) (by decide +kernel)) (by decide +kernel)), by decide +kernel, rfl, fun _ => rfl⟩
theorem kX6_64 : Cond.methodLink RX6 64 yX3_isRoofed ∈ am_ws ∧ Cond.instanceMethod yX3_isRoofed ∈ am_ws ∧ Cond.selects RX3 yX3_isRoofed yX3_isRoofed ∈ am_ws := ⟨(am_wsin (List.mem_of_getElem? (i := 276) (by decide +kernel)) (by decide +kernel)), (am_wsin (List.mem_of_getElem? (i := 277) (by decide +kernel)) (by decide +kernel)), (am_wsin (List.mem_of_getElem? (i := 278) (by decide +kernel)) (by decide +kernel))⟩
theorem kX6_155 : Cond.methodLink RX6 155 yX3_boothAt ∈ am_ws ∧ Cond.instanceMethod yX3_boothAt ∈ am_ws ∧ Cond.selects RX3 yX3_boothAt yX3_boothAt ∈ am_ws := ⟨(am_wsin (List.mem_of_getElem? (i := 476) (by decide +kernel)) (by decide +kernel)), (am_wsin (List.mem_of_getElem? (i := 330) (by decide +kernel)) (by decide +kernel)), (am_wsin (List.mem_of_getElem? (i := 331) (by decide +kernel)) (by decide +kernel))⟩
theorem kX6_158 : Cond.methodLink RX6 158 yX5_isOpen ∈ am_ws ∧ Cond.instanceMethod yX5_isOpen ∈ am_ws ∧ Cond.selects RX5 yX5_isOpen yX5_isOpen ∈ am_ws := ⟨(am_wsin (List.mem_of_getElem? (i := 477) (by decide +kernel)) (by decide +kernel)), (am_wsin (List.mem_of_getElem? (i := 396) (by decide +kernel)) (by decide +kernel)), (am_wsin (List.mem_of_getElem? (i := 397) (by decide +kernel)) (by decide +kernel))⟩
theorem kX6_204 : Cond.methodLink RX6 204 yX2_countLetters ∈ am_ws ∧ Cond.static yX2_countLetters ∈ am_ws := ⟨(am_wsin (List.mem_of_getElem? (i := 531) (by decide +kernel)) (by decide +kernel)), (am_wsin (List.mem_of_getElem? (i := 532) (by decide +kernel)) (by decide +kernel))⟩
theorem kX6_208 : Cond.methodLink RX6 208 yX2_append ∈ am_ws ∧ Cond.instanceMethod yX2_append ∈ am_ws ∧ Cond.selects RX2 yX2_append yX2_append ∈ am_ws := ⟨(am_wsin (List.mem_of_getElem? (i := 537) (by decide +kernel)) (by decide +kernel)), (am_wsin (List.mem_of_getElem? (i := 538) (by decide +kernel)) (by decide +kernel)), (am_wsin (List.mem_of_getElem? (i := 539) (by decide +kernel)) (by decide +kernel))⟩
theorem kX6_122 : Cond.methodLink RX6 122 yX2_hasSharedPitch ∈ am_ws ∧ Cond.instanceMethod yX2_hasSharedPitch ∈ am_ws ∧ Cond.selects RX2 yX2_hasSharedPitch yX2_hasSharedPitch ∈ am_ws := ⟨(am_wsin (List.mem_of_getElem? (i := 441) (by decide +kernel)) (by decide +kernel)), (am_wsin (List.mem_of_getElem? (i := 442) (by decide +kernel)) (by decide +kernel)), (am_wsin (List.mem_of_getElem? (i := 443) (by decide +kernel)) (by decide +kernel))⟩
theorem kX6_126 : Cond.methodLink RX6 126 yX3_forgetBooths ∈ am_ws ∧ Cond.instanceMethod yX3_forgetBooths ∈ am_ws ∧ Cond.selects RX3 yX3_forgetBooths yX3_forgetBooths ∈ am_ws := ⟨(am_wsin (List.mem_of_getElem? (i := 446) (by decide +kernel)) (by decide +kernel)), (am_wsin (List.mem_of_getElem? (i := 447) (by decide +kernel)) (by decide +kernel)), (am_wsin (List.mem_of_getElem? (i := 448) (by decide +kernel)) (by decide +kernel))⟩
theorem fX6_129 : am_fld RX6 129 1 2 (.int) false := ⟨RX2, TX2, 5, rfl, by decide, (am_wsin (List.mem_of_getElem? (i := 188) (by decide +kernel)) (by decide +kernel)), by decide +kernel, rfl, fun _ => rfl⟩
theorem fX6_132 : am_fld RX6 132 1 3 (.array .int) true := ⟨RX2, TX2, 5, rfl, by decide, (am_wsin (List.mem_of_getElem? (i := 190) (by decide +kernel)) (by decide +kernel)), by decide +kernel, rfl, fun _ => rfl⟩
theorem fX6_133 : am_fld RX6 133 1 4 (.array .int) true := ⟨RX2, TX2, 5, rfl, by decide, (am_wsin (List.mem_of_getElem? (i := 192) (by decide +kernel)) (by decide +kernel)), by decide +kernel, rfl, fun _ => rfl⟩
theorem kX6_71 : Cond.methodLink RX6 71 yJ6_bitCount_0f7a4 ∈ am_ws ∧ Cond.static yJ6_bitCount_0f7a4 ∈ am_ws := ⟨(am_wsin (List.mem_of_getElem? (i := 281) (by decide +kernel)) (by decide +kernel)), (am_wsin (List.mem_of_getElem? (i := 282) (by decide +kernel)) (by decide +kernel))⟩
theorem kX6_164 : Cond.methodLink RX6 164 yX3_isHidden ∈ am_ws ∧ Cond.instanceMethod yX3_isHidden ∈ am_ws ∧ Cond.selects RX3 yX3_isHidden yX3_isHidden ∈ am_ws := ⟨(am_wsin (List.mem_of_getElem? (i := 483) (by decide +kernel)) (by decide +kernel)), (am_wsin (List.mem_of_getElem? (i := 484) (by decide +kernel)) (by decide +kernel)), (am_wsin (List.mem_of_getElem? (i := 485) (by decide +kernel)) (by decide +kernel))⟩
theorem kX6_168 : Cond.methodLink RX6 168 yX5_streamFrom ∈ am_ws ∧ Cond.instanceMethod yX5_streamFrom ∈ am_ws ∧ Cond.selects RX5 yX5_streamFrom yX5_streamFrom ∈ am_ws := ⟨(am_wsin (List.mem_of_getElem? (i := 467) (by decide +kernel)) (by decide +kernel)), (am_wsin (List.mem_of_getElem? (i := 468) (by decide +kernel)) (by decide +kernel)), (am_wsin (List.mem_of_getElem? (i := 469) (by decide +kernel)) (by decide +kernel))⟩
theorem kX6_172 : Cond.methodLink RX6 172 yX4_isSeen ∈ am_ws ∧ Cond.instanceMethod yX4_isSeen ∈ am_ws ∧ Cond.selects RX4 yX4_isSeen yX4_isSeen ∈ am_ws := ⟨(am_wsin (List.mem_of_getElem? (i := 491) (by decide +kernel)) (by decide +kernel)), (am_wsin (List.mem_of_getElem? (i := 391) (by decide +kernel)) (by decide +kernel)), (am_wsin (List.mem_of_getElem? (i := 392) (by decide +kernel)) (by decide +kernel))⟩
theorem sX6_44 : Cond.fieldLink RX6 44 "PuppetPitches" "GREATEST_SETTINGS" "[I" ∈ am_ws := (am_wsin (List.mem_of_getElem? (i := 247) (by decide +kernel)) (by decide +kernel))
theorem kX6_56 : Cond.methodLink RX6 56 yX3_changeSetting ∈ am_ws ∧ Cond.instanceMethod yX3_changeSetting ∈ am_ws ∧ Cond.selects RX3 yX3_changeSetting yX3_changeSetting ∈ am_ws := ⟨(am_wsin (List.mem_of_getElem? (i := 265) (by decide +kernel)) (by decide +kernel)), (am_wsin (List.mem_of_getElem? (i := 266) (by decide +kernel)) (by decide +kernel)), (am_wsin (List.mem_of_getElem? (i := 267) (by decide +kernel)) (by decide +kernel))⟩
theorem kX6_215 : Cond.methodLink RX6 215 yX4_stopping ∈ am_ws ∧ Cond.instanceMethod yX4_stopping ∈ am_ws ∧ Cond.selects RX4 yX4_stopping yX4_stopping ∈ am_ws := ⟨(am_wsin (List.mem_of_getElem? (i := 471) (by decide +kernel)) (by decide +kernel)), (am_wsin (List.mem_of_getElem? (i := 387) (by decide +kernel)) (by decide +kernel)), (am_wsin (List.mem_of_getElem? (i := 388) (by decide +kernel)) (by decide +kernel))⟩
theorem fX6_218 : am_fld RX6 218 4 1 (.object "PuppetPitches$Stream") true := ⟨RX5, TX5, 3, rfl, by decide, (am_wsin (List.mem_of_getElem? (i := 168) (by decide +kernel)) (by decide +kernel)), by decide +kernel, rfl, fun _ => rfl⟩
theorem fX6_222 : am_fld RX6 222 3 4 (.int) false := ⟨RX4, TX4, 5, rfl, by decide, (am_wsin (List.mem_of_getElem? (i := 154) (by decide +kernel)) (by decide +kernel)), by decide +kernel, rfl, fun _ => rfl⟩
theorem fX6_225 : am_fld RX6 225 4 2 (.object "PuppetPitches$Stream") true := ⟨RX5, TX5, 3, rfl, by decide, (am_wsin (List.mem_of_getElem? (i := 170) (by decide +kernel)) (by decide +kernel)), by decide +kernel, rfl, fun _ => rfl⟩
theorem kX6_212 : Cond.methodLink RX6 212 yX1_takeBack ∈ am_ws ∧ Cond.instanceMethod yX1_takeBack ∈ am_ws ∧ Cond.selects RX1 yX1_takeBack yX1_takeBack ∈ am_ws := ⟨(am_wsin (List.mem_of_getElem? (i := 553) (by decide +kernel)) (by decide +kernel)), (am_wsin (List.mem_of_getElem? (i := 554) (by decide +kernel)) (by decide +kernel)), (am_wsin (List.mem_of_getElem? (i := 555) (by decide +kernel)) (by decide +kernel))⟩
theorem kX7_100 : Cond.methodLink RX7 100 yX7_isBooth ∈ am_ws ∧ Cond.instanceMethod yX7_isBooth ∈ am_ws ∧ Cond.selects RX7 yX7_isBooth yX7_isBooth ∈ am_ws := ⟨(am_wsin (List.mem_of_getElem? (i := 641) (by decide +kernel)) (by decide +kernel)), (am_wsin (List.mem_of_getElem? (i := 643) (by decide +kernel)) (by decide +kernel)), (am_wsin (List.mem_of_getElem? (i := 13) (by decide +kernel)) (by decide +kernel))⟩
theorem kX7_103 : Cond.methodLink RX7 103 yX7_its ∈ am_ws ∧ Cond.instanceMethod yX7_its ∈ am_ws ∧ Cond.selects RX7 yX7_its yX7_its ∈ am_ws := ⟨(am_wsin (List.mem_of_getElem? (i := 645) (by decide +kernel)) (by decide +kernel)), (am_wsin (List.mem_of_getElem? (i := 647) (by decide +kernel)) (by decide +kernel)), (am_wsin (List.mem_of_getElem? (i := 14) (by decide +kernel)) (by decide +kernel))⟩
theorem fX7_7 : am_fld RX7 7 6 0 (.array .int) true := ⟨RX7, TX7, 8, rfl, by decide, (am_wsin (List.mem_of_getElem? (i := 575) (by decide +kernel)) (by decide +kernel)), by decide +kernel, rfl, fun _ => rfl⟩
theorem kX7_36 : Cond.methodLink RX7 36 yX7_at ∈ am_ws ∧ Cond.static yX7_at ∈ am_ws := ⟨(am_wsin (List.mem_of_getElem? (i := 634) (by decide +kernel)) (by decide +kernel)), (am_wsin (List.mem_of_getElem? (i := 635) (by decide +kernel)) (by decide +kernel))⟩
theorem kX7_112 : Cond.methodLink RX7 112 yX7_crowd ∈ am_ws ∧ Cond.instanceMethod yX7_crowd ∈ am_ws ∧ Cond.selects RX7 yX7_crowd yX7_crowd ∈ am_ws := ⟨(am_wsin (List.mem_of_getElem? (i := 717) (by decide +kernel)) (by decide +kernel)), (am_wsin (List.mem_of_getElem? (i := 719) (by decide +kernel)) (by decide +kernel)), (am_wsin (List.mem_of_getElem? (i := 26) (by decide +kernel)) (by decide +kernel))⟩
theorem kX7_106 : Cond.methodLink RX7 106 yX7_isOthers ∈ am_ws ∧ Cond.instanceMethod yX7_isOthers ∈ am_ws ∧ Cond.selects RX7 yX7_isOthers yX7_isOthers ∈ am_ws := ⟨(am_wsin (List.mem_of_getElem? (i := 657) (by decide +kernel)) (by decide +kernel)), (am_wsin (List.mem_of_getElem? (i := 659) (by decide +kernel)) (by decide +kernel)), (am_wsin (List.mem_of_getElem? (i := 15) (by decide +kernel)) (by decide +kernel))⟩
theorem kX7_71 : Cond.methodLink RX7 71 yX7_crowdAt ∈ am_ws ∧ Cond.instanceMethod yX7_crowdAt ∈ am_ws ∧ Cond.selects RX7 yX7_crowdAt yX7_crowdAt ∈ am_ws := ⟨(am_wsin (List.mem_of_getElem? (i := 697) (by decide +kernel)) (by decide +kernel)), (am_wsin (List.mem_of_getElem? (i := 699) (by decide +kernel)) (by decide +kernel)), (am_wsin (List.mem_of_getElem? (i := 22) (by decide +kernel)) (by decide +kernel))⟩
theorem kX7_67 : Cond.methodLink RX7 67 yX7_isFree ∈ am_ws ∧ Cond.instanceMethod yX7_isFree ∈ am_ws ∧ Cond.selects RX7 yX7_isFree yX7_isFree ∈ am_ws := ⟨(am_wsin (List.mem_of_getElem? (i := 693) (by decide +kernel)) (by decide +kernel)), (am_wsin (List.mem_of_getElem? (i := 695) (by decide +kernel)) (by decide +kernel)), (am_wsin (List.mem_of_getElem? (i := 21) (by decide +kernel)) (by decide +kernel))⟩
theorem kX7_32 : Cond.methodLink RX7 32 yX7_in ∈ am_ws ∧ Cond.static yX7_in ∈ am_ws := ⟨(am_wsin (List.mem_of_getElem? (i := 605) (by decide +kernel)) (by decide +kernel)), (am_wsin (List.mem_of_getElem? (i := 606) (by decide +kernel)) (by decide +kernel))⟩
theorem kX7_86 : Cond.methodLink RX7 86 yX7_remembers ∈ am_ws ∧ Cond.instanceMethod yX7_remembers ∈ am_ws ∧ Cond.selects RX7 yX7_remembers yX7_remembers ∈ am_ws := ⟨(am_wsin (List.mem_of_getElem? (i := 611) (by decide +kernel)) (by decide +kernel)), (am_wsin (List.mem_of_getElem? (i := 613) (by decide +kernel)) (by decide +kernel)), (am_wsin (List.mem_of_getElem? (i := 10) (by decide +kernel)) (by decide +kernel))⟩
theorem kX7_97 : Cond.methodLink RX7 97 yX7_comes ∈ am_ws ∧ Cond.instanceMethod yX7_comes ∈ am_ws ∧ Cond.selects RX7 yX7_comes yX7_comes ∈ am_ws := ⟨(am_wsin (List.mem_of_getElem? (i := 630) (by decide +kernel)) (by decide +kernel)), (am_wsin (List.mem_of_getElem? (i := 632) (by decide +kernel)) (by decide +kernel)), (am_wsin (List.mem_of_getElem? (i := 12) (by decide +kernel)) (by decide +kernel))⟩
theorem kX7_124 : Cond.methodLink RX7 124 yX7_standing ∈ am_ws ∧ Cond.instanceMethod yX7_standing ∈ am_ws ∧ Cond.selects RX7 yX7_standing yX7_standing ∈ am_ws := ⟨(am_wsin (List.mem_of_getElem? (i := 745) (by decide +kernel)) (by decide +kernel)), (am_wsin (List.mem_of_getElem? (i := 747) (by decide +kernel)) (by decide +kernel)), (am_wsin (List.mem_of_getElem? (i := 30) (by decide +kernel)) (by decide +kernel))⟩
theorem kX7_127 : Cond.methodLink RX7 127 yX7_crowdsNow ∈ am_ws ∧ Cond.instanceMethod yX7_crowdsNow ∈ am_ws ∧ Cond.selects RX7 yX7_crowdsNow yX7_crowdsNow ∈ am_ws := ⟨(am_wsin (List.mem_of_getElem? (i := 749) (by decide +kernel)) (by decide +kernel)), (am_wsin (List.mem_of_getElem? (i := 751) (by decide +kernel)) (by decide +kernel)), (am_wsin (List.mem_of_getElem? (i := 31) (by decide +kernel)) (by decide +kernel))⟩
theorem kX7_50 : Cond.methodLink RX7 50 yX7_crowds ∈ am_ws ∧ Cond.instanceMethod yX7_crowds ∈ am_ws ∧ Cond.selects RX7 yX7_crowds yX7_crowds ∈ am_ws := ⟨(am_wsin (List.mem_of_getElem? (i := 701) (by decide +kernel)) (by decide +kernel)), (am_wsin (List.mem_of_getElem? (i := 703) (by decide +kernel)) (by decide +kernel)), (am_wsin (List.mem_of_getElem? (i := 23) (by decide +kernel)) (by decide +kernel))⟩
theorem fX7_130 : am_fld RX7 130 6 6 (.int) false := ⟨RX7, TX7, 8, rfl, by decide, (am_wsin (List.mem_of_getElem? (i := 581) (by decide +kernel)) (by decide +kernel)), by decide +kernel, rfl, fun _ => rfl⟩
theorem fX7_40 : am_fld RX7 40 6 2 (.int) false := ⟨RX7, TX7, 8, rfl, by decide, (am_wsin (List.mem_of_getElem? (i := 577) (by decide +kernel)) (by decide +kernel)), by decide +kernel, rfl, fun _ => rfl⟩
theorem kX7_54 : Cond.methodLink RX7 54 yX7_crowdOf ∈ am_ws ∧ Cond.instanceMethod yX7_crowdOf ∈ am_ws ∧ Cond.selects RX7 yX7_crowdOf yX7_crowdOf ∈ am_ws := ⟨(am_wsin (List.mem_of_getElem? (i := 709) (by decide +kernel)) (by decide +kernel)), (am_wsin (List.mem_of_getElem? (i := 711) (by decide +kernel)) (by decide +kernel)), (am_wsin (List.mem_of_getElem? (i := 25) (by decide +kernel)) (by decide +kernel))⟩
theorem fX7_26 : am_fld RX7 26 6 7 (.array .int) true := ⟨RX7, TX7, 8, rfl, by decide, (am_wsin (List.mem_of_getElem? (i := 582) (by decide +kernel)) (by decide +kernel)), by decide +kernel, rfl, fun _ => rfl⟩
theorem kX7_47 : Cond.methodLink RX7 47 yX7_goes ∈ am_ws ∧ Cond.instanceMethod yX7_goes ∈ am_ws ∧ Cond.selects RX7 yX7_goes yX7_goes ∈ am_ws := ⟨(am_wsin (List.mem_of_getElem? (i := 705) (by decide +kernel)) (by decide +kernel)), (am_wsin (List.mem_of_getElem? (i := 707) (by decide +kernel)) (by decide +kernel)), (am_wsin (List.mem_of_getElem? (i := 24) (by decide +kernel)) (by decide +kernel))⟩
theorem kX7_138 : Cond.methodLink RX7 138 yX7_sign ∈ am_ws ∧ Cond.instanceMethod yX7_sign ∈ am_ws ∧ Cond.selects RX7 yX7_sign yX7_sign ∈ am_ws := ⟨(am_wsin (List.mem_of_getElem? (i := 798) (by decide +kernel)) (by decide +kernel)), (am_wsin (List.mem_of_getElem? (i := 800) (by decide +kernel)) (by decide +kernel)), (am_wsin (List.mem_of_getElem? (i := 35) (by decide +kernel)) (by decide +kernel))⟩
theorem cX7_57 : Cond.constantLong RX7 57 (1103515245) ∈ am_ws := (am_wsin (List.mem_of_getElem? (i := 685) (by decide +kernel)) (by decide +kernel))
theorem cX7_59 : Cond.constantLong RX7 59 (12345) ∈ am_ws := (am_wsin (List.mem_of_getElem? (i := 686) (by decide +kernel)) (by decide +kernel))
theorem cX7_61 : Cond.constantLong RX7 61 (2147483648) ∈ am_ws := (am_wsin (List.mem_of_getElem? (i := 687) (by decide +kernel)) (by decide +kernel))
theorem cX7_63 : Cond.constant RX7 63 (65536) ∈ am_ws := (am_wsin (List.mem_of_getElem? (i := 688) (by decide +kernel)) (by decide +kernel))
theorem kX7_144 : Cond.methodLink RX7 144 yX7_partEnd ∈ am_ws ∧ Cond.instanceMethod yX7_partEnd ∈ am_ws ∧ Cond.selects RX7 yX7_partEnd yX7_partEnd ∈ am_ws := ⟨(am_wsin (List.mem_of_getElem? (i := 790) (by decide +kernel)) (by decide +kernel)), (am_wsin (List.mem_of_getElem? (i := 792) (by decide +kernel)) (by decide +kernel)), (am_wsin (List.mem_of_getElem? (i := 33) (by decide +kernel)) (by decide +kernel))⟩
theorem kX7_44 : Cond.methodLink RX7 44 yX7_boothAt ∈ am_ws ∧ Cond.instanceMethod yX7_boothAt ∈ am_ws ∧ Cond.selects RX7 yX7_boothAt yX7_boothAt ∈ am_ws := ⟨(am_wsin (List.mem_of_getElem? (i := 661) (by decide +kernel)) (by decide +kernel)), (am_wsin (List.mem_of_getElem? (i := 663) (by decide +kernel)) (by decide +kernel)), (am_wsin (List.mem_of_getElem? (i := 16) (by decide +kernel)) (by decide +kernel))⟩
theorem kX7_133 : Cond.methodLink RX7 133 yX7_copies ∈ am_ws ∧ Cond.instanceMethod yX7_copies ∈ am_ws ∧ Cond.selects RX7 yX7_copies yX7_copies ∈ am_ws := ⟨(am_wsin (List.mem_of_getElem? (i := 769) (by decide +kernel)) (by decide +kernel)), (am_wsin (List.mem_of_getElem? (i := 771) (by decide +kernel)) (by decide +kernel)), (am_wsin (List.mem_of_getElem? (i := 32) (by decide +kernel)) (by decide +kernel))⟩
theorem kX7_109 : Cond.methodLink RX7 109 yX7_plays ∈ am_ws ∧ Cond.instanceMethod yX7_plays ∈ am_ws ∧ Cond.selects RX7 yX7_plays yX7_plays ∈ am_ws := ⟨(am_wsin (List.mem_of_getElem? (i := 673) (by decide +kernel)) (by decide +kernel)), (am_wsin (List.mem_of_getElem? (i := 675) (by decide +kernel)) (by decide +kernel)), (am_wsin (List.mem_of_getElem? (i := 17) (by decide +kernel)) (by decide +kernel))⟩
theorem kX7_89 : Cond.methodLink RX7 89 yX7_isPitch ∈ am_ws ∧ Cond.static yX7_isPitch ∈ am_ws := ⟨(am_wsin (List.mem_of_getElem? (i := 619) (by decide +kernel)) (by decide +kernel)), (am_wsin (List.mem_of_getElem? (i := 620) (by decide +kernel)) (by decide +kernel))⟩
theorem oX7_1 : Cond.methodLink RX7 1 objectInit ∈ am_ws := (am_wsin (List.mem_of_getElem? (i := 570) (by decide +kernel)) (by decide +kernel))
theorem fX7_13 : am_fld RX7 13 6 1 (.array .int) true := ⟨RX7, TX7, 8, rfl, by decide, (am_wsin (List.mem_of_getElem? (i := 576) (by decide +kernel)) (by decide +kernel)), by decide +kernel, rfl, fun _ => rfl⟩
theorem fX7_16 : am_fld RX7 16 6 3 (.array .int) true := ⟨RX7, TX7, 8, rfl, by decide, (am_wsin (List.mem_of_getElem? (i := 578) (by decide +kernel)) (by decide +kernel)), by decide +kernel, rfl, fun _ => rfl⟩
theorem fX7_19 : am_fld RX7 19 6 4 (.array .boolean) true := ⟨RX7, TX7, 8, rfl, by decide, (am_wsin (List.mem_of_getElem? (i := 579) (by decide +kernel)) (by decide +kernel)), by decide +kernel, rfl, fun _ => rfl⟩
theorem fX7_23 : am_fld RX7 23 6 5 (.array .int) true := ⟨RX7, TX7, 8, rfl, by decide, (am_wsin (List.mem_of_getElem? (i := 580) (by decide +kernel)) (by decide +kernel)), by decide +kernel, rfl, fun _ => rfl⟩
theorem kX7_29 : Cond.methodLink RX7 29 yX7_forgets ∈ am_ws ∧ Cond.instanceMethod yX7_forgets ∈ am_ws ∧ Cond.selects RX7 yX7_forgets yX7_forgets ∈ am_ws := ⟨(am_wsin (List.mem_of_getElem? (i := 571) (by decide +kernel)) (by decide +kernel)), (am_wsin (List.mem_of_getElem? (i := 573) (by decide +kernel)) (by decide +kernel)), (am_wsin (List.mem_of_getElem? (i := 9) (by decide +kernel)) (by decide +kernel))⟩
theorem kX7_115 : Cond.methodLink RX7 115 yX7_hides ∈ am_ws ∧ Cond.instanceMethod yX7_hides ∈ am_ws ∧ Cond.selects RX7 yX7_hides yX7_hides ∈ am_ws := ⟨(am_wsin (List.mem_of_getElem? (i := 737) (by decide +kernel)) (by decide +kernel)), (am_wsin (List.mem_of_getElem? (i := 739) (by decide +kernel)) (by decide +kernel)), (am_wsin (List.mem_of_getElem? (i := 29) (by decide +kernel)) (by decide +kernel))⟩
theorem kX7_147 : Cond.methodLink RX7 147 yX7_pitchOf ∈ am_ws ∧ Cond.instanceMethod yX7_pitchOf ∈ am_ws ∧ Cond.selects RX7 yX7_pitchOf yX7_pitchOf ∈ am_ws := ⟨(am_wsin (List.mem_of_getElem? (i := 811) (by decide +kernel)) (by decide +kernel)), (am_wsin (List.mem_of_getElem? (i := 813) (by decide +kernel)) (by decide +kernel)), (am_wsin (List.mem_of_getElem? (i := 37) (by decide +kernel)) (by decide +kernel))⟩
theorem kX7_64 : Cond.methodLink RX7 64 yX7_draws ∈ am_ws ∧ Cond.instanceMethod yX7_draws ∈ am_ws ∧ Cond.selects RX7 yX7_draws yX7_draws ∈ am_ws := ⟨(am_wsin (List.mem_of_getElem? (i := 681) (by decide +kernel)) (by decide +kernel)), (am_wsin (List.mem_of_getElem? (i := 683) (by decide +kernel)) (by decide +kernel)), (am_wsin (List.mem_of_getElem? (i := 19) (by decide +kernel)) (by decide +kernel))⟩
theorem kX7_141 : Cond.methodLink RX7 141 yX7_digit ∈ am_ws ∧ Cond.instanceMethod yX7_digit ∈ am_ws ∧ Cond.selects RX7 yX7_digit yX7_digit ∈ am_ws := ⟨(am_wsin (List.mem_of_getElem? (i := 794) (by decide +kernel)) (by decide +kernel)), (am_wsin (List.mem_of_getElem? (i := 796) (by decide +kernel)) (by decide +kernel)), (am_wsin (List.mem_of_getElem? (i := 34) (by decide +kernel)) (by decide +kernel))⟩
theorem kX7_75 : Cond.methodLink RX7 75 yX7_lots ∈ am_ws ∧ Cond.instanceMethod yX7_lots ∈ am_ws ∧ Cond.selects RX7 yX7_lots yX7_lots ∈ am_ws := ⟨(am_wsin (List.mem_of_getElem? (i := 677) (by decide +kernel)) (by decide +kernel)), (am_wsin (List.mem_of_getElem? (i := 679) (by decide +kernel)) (by decide +kernel)), (am_wsin (List.mem_of_getElem? (i := 18) (by decide +kernel)) (by decide +kernel))⟩
theorem kX7_79 : Cond.methodLink RX7 79 yX7_chooses ∈ am_ws ∧ Cond.instanceMethod yX7_chooses ∈ am_ws ∧ Cond.selects RX7 yX7_chooses yX7_chooses ∈ am_ws := ⟨(am_wsin (List.mem_of_getElem? (i := 689) (by decide +kernel)) (by decide +kernel)), (am_wsin (List.mem_of_getElem? (i := 691) (by decide +kernel)) (by decide +kernel)), (am_wsin (List.mem_of_getElem? (i := 20) (by decide +kernel)) (by decide +kernel))⟩
theorem cX7_136 : Cond.constantLong RX7 136 (255) ∈ am_ws := (am_wsin (List.mem_of_getElem? (i := 781) (by decide +kernel)) (by decide +kernel))
theorem kX7_150 : Cond.methodLink RX7 150 yX7_fault ∈ am_ws ∧ Cond.instanceMethod yX7_fault ∈ am_ws ∧ Cond.selects RX7 yX7_fault yX7_fault ∈ am_ws := ⟨(am_wsin (List.mem_of_getElem? (i := 806) (by decide +kernel)) (by decide +kernel)), (am_wsin (List.mem_of_getElem? (i := 787) (by decide +kernel)) (by decide +kernel)), (am_wsin (List.mem_of_getElem? (i := 788) (by decide +kernel)) (by decide +kernel))⟩
theorem kX7_153 : Cond.methodLink RX7 153 yX7_isTwice ∈ am_ws ∧ Cond.instanceMethod yX7_isTwice ∈ am_ws ∧ Cond.selects RX7 yX7_isTwice yX7_isTwice ∈ am_ws := ⟨(am_wsin (List.mem_of_getElem? (i := 807) (by decide +kernel)) (by decide +kernel)), (am_wsin (List.mem_of_getElem? (i := 809) (by decide +kernel)) (by decide +kernel)), (am_wsin (List.mem_of_getElem? (i := 36) (by decide +kernel)) (by decide +kernel))⟩
theorem kX7_93 : Cond.methodLink RX7 93 yX7_roofs ∈ am_ws ∧ Cond.instanceMethod yX7_roofs ∈ am_ws ∧ Cond.selects RX7 yX7_roofs yX7_roofs ∈ am_ws := ⟨(am_wsin (List.mem_of_getElem? (i := 622) (by decide +kernel)) (by decide +kernel)), (am_wsin (List.mem_of_getElem? (i := 624) (by decide +kernel)) (by decide +kernel)), (am_wsin (List.mem_of_getElem? (i := 11) (by decide +kernel)) (by decide +kernel))⟩
theorem kX7_118 : Cond.methodLink RX7 118 yX7_highest ∈ am_ws ∧ Cond.instanceMethod yX7_highest ∈ am_ws ∧ Cond.selects RX7 yX7_highest yX7_highest ∈ am_ws := ⟨(am_wsin (List.mem_of_getElem? (i := 729) (by decide +kernel)) (by decide +kernel)), (am_wsin (List.mem_of_getElem? (i := 731) (by decide +kernel)) (by decide +kernel)), (am_wsin (List.mem_of_getElem? (i := 27) (by decide +kernel)) (by decide +kernel))⟩
theorem kX7_121 : Cond.methodLink RX7 121 yX7_isHidden ∈ am_ws ∧ Cond.instanceMethod yX7_isHidden ∈ am_ws ∧ Cond.selects RX7 yX7_isHidden yX7_isHidden ∈ am_ws := ⟨(am_wsin (List.mem_of_getElem? (i := 733) (by decide +kernel)) (by decide +kernel)), (am_wsin (List.mem_of_getElem? (i := 735) (by decide +kernel)) (by decide +kernel)), (am_wsin (List.mem_of_getElem? (i := 28) (by decide +kernel)) (by decide +kernel))⟩
theorem kX7_83 : Cond.methodLink RX7 83 yX7_mostOf ∈ am_ws ∧ Cond.static yX7_mostOf ∈ am_ws := ⟨(am_wsin (List.mem_of_getElem? (i := 608) (by decide +kernel)) (by decide +kernel)), (am_wsin (List.mem_of_getElem? (i := 609) (by decide +kernel)) (by decide +kernel))⟩
theorem wt_int : Cond.arrayClass .int ∈ am_ws := (am_wsin (List.mem_of_getElem? (i := 136) (by decide +kernel)) (by decide +kernel))
theorem wt_char : Cond.arrayClass .char ∈ am_ws := (am_wsin (List.mem_of_getElem? (i := 204) (by decide +kernel)) (by decide +kernel))
theorem wt_boolean : Cond.arrayClass .boolean ∈ am_ws := (am_wsin (List.mem_of_getElem? (i := 600) (by decide +kernel)) (by decide +kernel))
theorem q_bipush_m6 : (Int8.ofInt (-6)).toInt32 = (-6 : Int32) := by decide +kernel
theorem q_bipush_m5 : (Int8.ofInt (-5)).toInt32 = (-5 : Int32) := by decide +kernel
theorem q_bipush_m4 : (Int8.ofInt (-4)).toInt32 = (-4 : Int32) := by decide +kernel
theorem q_bipush_m3 : (Int8.ofInt (-3)).toInt32 = (-3 : Int32) := by decide +kernel
theorem q_bipush_m2 : (Int8.ofInt (-2)).toInt32 = (-2 : Int32) := by decide +kernel
theorem q_bipush_6 : (Int8.ofInt (6)).toInt32 = (6 : Int32) := by decide +kernel
theorem q_bipush_7 : (Int8.ofInt (7)).toInt32 = (7 : Int32) := by decide +kernel
theorem q_bipush_8 : (Int8.ofInt (8)).toInt32 = (8 : Int32) := by decide +kernel
theorem q_bipush_9 : (Int8.ofInt (9)).toInt32 = (9 : Int32) := by decide +kernel
theorem q_bipush_10 : (Int8.ofInt (10)).toInt32 = (10 : Int32) := by decide +kernel
theorem q_bipush_11 : (Int8.ofInt (11)).toInt32 = (11 : Int32) := by decide +kernel
theorem q_bipush_12 : (Int8.ofInt (12)).toInt32 = (12 : Int32) := by decide +kernel
theorem q_bipush_16 : (Int8.ofInt (16)).toInt32 = (16 : Int32) := by decide +kernel
theorem q_bipush_20 : (Int8.ofInt (20)).toInt32 = (20 : Int32) := by decide +kernel
theorem q_bipush_25 : (Int8.ofInt (25)).toInt32 = (25 : Int32) := by decide +kernel
theorem q_bipush_31 : (Int8.ofInt (31)).toInt32 = (31 : Int32) := by decide +kernel
theorem q_bipush_32 : (Int8.ofInt (32)).toInt32 = (32 : Int32) := by decide +kernel
theorem q_bipush_33 : (Int8.ofInt (33)).toInt32 = (33 : Int32) := by decide +kernel
theorem q_bipush_40 : (Int8.ofInt (40)).toInt32 = (40 : Int32) := by decide +kernel
theorem q_bipush_44 : (Int8.ofInt (44)).toInt32 = (44 : Int32) := by decide +kernel
theorem q_bipush_48 : (Int8.ofInt (48)).toInt32 = (48 : Int32) := by decide +kernel
theorem q_bipush_49 : (Int8.ofInt (49)).toInt32 = (49 : Int32) := by decide +kernel
theorem q_bipush_57 : (Int8.ofInt (57)).toInt32 = (57 : Int32) := by decide +kernel
theorem q_bipush_60 : (Int8.ofInt (60)).toInt32 = (60 : Int32) := by decide +kernel
theorem q_bipush_63 : (Int8.ofInt (63)).toInt32 = (63 : Int32) := by decide +kernel
theorem q_bipush_64 : (Int8.ofInt (64)).toInt32 = (64 : Int32) := by decide +kernel
theorem q_bipush_70 : (Int8.ofInt (70)).toInt32 = (70 : Int32) := by decide +kernel
theorem q_bipush_100 : (Int8.ofInt (100)).toInt32 = (100 : Int32) := by decide +kernel
theorem q_bipush_120 : (Int8.ofInt (120)).toInt32 = (120 : Int32) := by decide +kernel
theorem q_bipush_126 : (Int8.ofInt (126)).toInt32 = (126 : Int32) := by decide +kernel
theorem q_iconst_m1 : Int32.ofInt (-1) = (-1 : Int32) := by decide +kernel
theorem q_iconst_0 : Int32.ofInt (0) = (0 : Int32) := by decide +kernel
theorem q_iconst_1 : Int32.ofInt (1) = (1 : Int32) := by decide +kernel
theorem q_iconst_2 : Int32.ofInt (2) = (2 : Int32) := by decide +kernel
theorem q_iconst_3 : Int32.ofInt (3) = (3 : Int32) := by decide +kernel
theorem q_iconst_4 : Int32.ofInt (4) = (4 : Int32) := by decide +kernel
theorem q_iconst_5 : Int32.ofInt (5) = (5 : Int32) := by decide +kernel
theorem q_lconst_0 : Int64.ofNat ((0 : Fin 2) : Nat) = (0 : Int64) := by decide +kernel
theorem q_lconst_1 : Int64.ofNat ((1 : Fin 2) : Nat) = (1 : Int64) := by decide +kernel
theorem q_sipush_200 : (Int16.ofInt (200)).toInt32 = (200 : Int32) := by decide +kernel
theorem q_sipush_300 : (Int16.ofInt (300)).toInt32 = (300 : Int32) := by decide +kernel
theorem q_sipush_360 : (Int16.ofInt (360)).toInt32 = (360 : Int32) := by decide +kernel
theorem q_sipush_999 : (Int16.ofInt (999)).toInt32 = (999 : Int32) := by decide +kernel
theorem q_sipush_9999 : (Int16.ofInt (9999)).toInt32 = (9999 : Int32) := by decide +kernel
end
section
/-! printed: decode rows -/
theorem dJ6_bitCount_0f7a4_0 : decode (am_b mJ6_bitCount_0f7a4) 0 = .ok (.iload_n 0, 1) := by decide +kernel
theorem dJ6_bitCount_0f7a4_1 : decode (am_b mJ6_bitCount_0f7a4) 1 = .ok (.iload_n 0, 1) := by decide +kernel
theorem dJ6_bitCount_0f7a4_2 : decode (am_b mJ6_bitCount_0f7a4) 2 = .ok (.iconst 1, 1) := by decide +kernel
theorem dJ6_bitCount_0f7a4_3 : decode (am_b mJ6_bitCount_0f7a4) 3 = .ok (.iushr, 1) := by decide +kernel
theorem dJ6_bitCount_0f7a4_4 : decode (am_b mJ6_bitCount_0f7a4) 4 = .ok (.ldc_w 265, 3) := by decide +kernel
theorem dJ6_bitCount_0f7a4_7 : decode (am_b mJ6_bitCount_0f7a4) 7 = .ok (.iand, 1) := by decide +kernel
theorem dJ6_bitCount_0f7a4_8 : decode (am_b mJ6_bitCount_0f7a4) 8 = .ok (.isub, 1) := by decide +kernel
theorem dJ6_bitCount_0f7a4_9 : decode (am_b mJ6_bitCount_0f7a4) 9 = .ok (.istore_n 0, 1) := by decide +kernel
theorem dJ6_bitCount_0f7a4_10 : decode (am_b mJ6_bitCount_0f7a4) 10 = .ok (.iload_n 0, 1) := by decide +kernel
theorem dJ6_bitCount_0f7a4_11 : decode (am_b mJ6_bitCount_0f7a4) 11 = .ok (.ldc_w 266, 3) := by decide +kernel
theorem dJ6_bitCount_0f7a4_14 : decode (am_b mJ6_bitCount_0f7a4) 14 = .ok (.iand, 1) := by decide +kernel
theorem dJ6_bitCount_0f7a4_15 : decode (am_b mJ6_bitCount_0f7a4) 15 = .ok (.iload_n 0, 1) := by decide +kernel
theorem dJ6_bitCount_0f7a4_16 : decode (am_b mJ6_bitCount_0f7a4) 16 = .ok (.iconst 2, 1) := by decide +kernel
theorem dJ6_bitCount_0f7a4_17 : decode (am_b mJ6_bitCount_0f7a4) 17 = .ok (.iushr, 1) := by decide +kernel
theorem dJ6_bitCount_0f7a4_18 : decode (am_b mJ6_bitCount_0f7a4) 18 = .ok (.ldc_w 266, 3) := by decide +kernel
theorem dJ6_bitCount_0f7a4_21 : decode (am_b mJ6_bitCount_0f7a4) 21 = .ok (.iand, 1) := by decide +kernel
theorem dJ6_bitCount_0f7a4_22 : decode (am_b mJ6_bitCount_0f7a4) 22 = .ok (.iadd, 1) := by decide +kernel
theorem dJ6_bitCount_0f7a4_23 : decode (am_b mJ6_bitCount_0f7a4) 23 = .ok (.istore_n 0, 1) := by decide +kernel
theorem dJ6_bitCount_0f7a4_24 : decode (am_b mJ6_bitCount_0f7a4) 24 = .ok (.iload_n 0, 1) := by decide +kernel
theorem dJ6_bitCount_0f7a4_25 : decode (am_b mJ6_bitCount_0f7a4) 25 = .ok (.iload_n 0, 1) := by decide +kernel
theorem dJ6_bitCount_0f7a4_26 : decode (am_b mJ6_bitCount_0f7a4) 26 = .ok (.iconst 4, 1) := by decide +kernel
theorem dJ6_bitCount_0f7a4_27 : decode (am_b mJ6_bitCount_0f7a4) 27 = .ok (.iushr, 1) := by decide +kernel
theorem dJ6_bitCount_0f7a4_28 : decode (am_b mJ6_bitCount_0f7a4) 28 = .ok (.iadd, 1) := by decide +kernel
theorem dJ6_bitCount_0f7a4_29 : decode (am_b mJ6_bitCount_0f7a4) 29 = .ok (.ldc_w 267, 3) := by decide +kernel
theorem dJ6_bitCount_0f7a4_32 : decode (am_b mJ6_bitCount_0f7a4) 32 = .ok (.iand, 1) := by decide +kernel
theorem dJ6_bitCount_0f7a4_33 : decode (am_b mJ6_bitCount_0f7a4) 33 = .ok (.istore_n 0, 1) := by decide +kernel
theorem dJ6_bitCount_0f7a4_34 : decode (am_b mJ6_bitCount_0f7a4) 34 = .ok (.iload_n 0, 1) := by decide +kernel
theorem dJ6_bitCount_0f7a4_35 : decode (am_b mJ6_bitCount_0f7a4) 35 = .ok (.iload_n 0, 1) := by decide +kernel
theorem dJ6_bitCount_0f7a4_36 : decode (am_b mJ6_bitCount_0f7a4) 36 = .ok (.bipush 8, 2) := by decide +kernel
theorem dJ6_bitCount_0f7a4_38 : decode (am_b mJ6_bitCount_0f7a4) 38 = .ok (.iushr, 1) := by decide +kernel
theorem dJ6_bitCount_0f7a4_39 : decode (am_b mJ6_bitCount_0f7a4) 39 = .ok (.iadd, 1) := by decide +kernel
theorem dJ6_bitCount_0f7a4_40 : decode (am_b mJ6_bitCount_0f7a4) 40 = .ok (.istore_n 0, 1) := by decide +kernel
theorem dJ6_bitCount_0f7a4_41 : decode (am_b mJ6_bitCount_0f7a4) 41 = .ok (.iload_n 0, 1) := by decide +kernel
theorem dJ6_bitCount_0f7a4_42 : decode (am_b mJ6_bitCount_0f7a4) 42 = .ok (.iload_n 0, 1) := by decide +kernel
theorem dJ6_bitCount_0f7a4_43 : decode (am_b mJ6_bitCount_0f7a4) 43 = .ok (.bipush 16, 2) := by decide +kernel
theorem dJ6_bitCount_0f7a4_45 : decode (am_b mJ6_bitCount_0f7a4) 45 = .ok (.iushr, 1) := by decide +kernel
theorem dJ6_bitCount_0f7a4_46 : decode (am_b mJ6_bitCount_0f7a4) 46 = .ok (.iadd, 1) := by decide +kernel
theorem dJ6_bitCount_0f7a4_47 : decode (am_b mJ6_bitCount_0f7a4) 47 = .ok (.istore_n 0, 1) := by decide +kernel
theorem dJ6_bitCount_0f7a4_48 : decode (am_b mJ6_bitCount_0f7a4) 48 = .ok (.iload_n 0, 1) := by decide +kernel
theorem dJ6_bitCount_0f7a4_49 : decode (am_b mJ6_bitCount_0f7a4) 49 = .ok (.bipush 63, 2) := by decide +kernel
theorem dJ6_bitCount_0f7a4_51 : decode (am_b mJ6_bitCount_0f7a4) 51 = .ok (.iand, 1) := by decide +kernel
theorem dJ6_bitCount_0f7a4_52 : decode (am_b mJ6_bitCount_0f7a4) 52 = .ok (.ireturn, 1) := by decide +kernel
theorem dJ9_abs_0f7a4_0 : decode (am_b mJ9_abs_0f7a4) 0 = .ok (.iload_n 0, 1) := by decide +kernel
theorem dJ9_abs_0f7a4_1 : decode (am_b mJ9_abs_0f7a4) 1 = .ok (.ifCond .ge 8, 3) := by decide +kernel
theorem dJ9_abs_0f7a4_4 : decode (am_b mJ9_abs_0f7a4) 4 = .ok (.iload_n 0, 1) := by decide +kernel
theorem dJ9_abs_0f7a4_5 : decode (am_b mJ9_abs_0f7a4) 5 = .ok (.ineg, 1) := by decide +kernel
theorem dJ9_abs_0f7a4_6 : decode (am_b mJ9_abs_0f7a4) 6 = .ok (.goto 4, 3) := by decide +kernel
theorem dJ9_abs_0f7a4_9 : decode (am_b mJ9_abs_0f7a4) 9 = .ok (.iload_n 0, 1) := by decide +kernel
theorem dJ9_abs_0f7a4_10 : decode (am_b mJ9_abs_0f7a4) 10 = .ok (.ireturn, 1) := by decide +kernel
theorem dJ9_max_7cf53_0 : decode (am_b mJ9_max_7cf53) 0 = .ok (.iload_n 0, 1) := by decide +kernel
theorem dJ9_max_7cf53_1 : decode (am_b mJ9_max_7cf53) 1 = .ok (.iload_n 1, 1) := by decide +kernel
theorem dJ9_max_7cf53_2 : decode (am_b mJ9_max_7cf53) 2 = .ok (.if_icmp .lt 7, 3) := by decide +kernel
theorem dJ9_max_7cf53_5 : decode (am_b mJ9_max_7cf53) 5 = .ok (.iload_n 0, 1) := by decide +kernel
theorem dJ9_max_7cf53_6 : decode (am_b mJ9_max_7cf53) 6 = .ok (.goto 4, 3) := by decide +kernel
theorem dJ9_max_7cf53_9 : decode (am_b mJ9_max_7cf53) 9 = .ok (.iload_n 1, 1) := by decide +kernel
theorem dJ9_max_7cf53_10 : decode (am_b mJ9_max_7cf53) 10 = .ok (.ireturn, 1) := by decide +kernel
theorem dJ9_min_7cf53_0 : decode (am_b mJ9_min_7cf53) 0 = .ok (.iload_n 0, 1) := by decide +kernel
theorem dJ9_min_7cf53_1 : decode (am_b mJ9_min_7cf53) 1 = .ok (.iload_n 1, 1) := by decide +kernel
theorem dJ9_min_7cf53_2 : decode (am_b mJ9_min_7cf53) 2 = .ok (.if_icmp .gt 7, 3) := by decide +kernel
theorem dJ9_min_7cf53_5 : decode (am_b mJ9_min_7cf53) 5 = .ok (.iload_n 0, 1) := by decide +kernel
theorem dJ9_min_7cf53_6 : decode (am_b mJ9_min_7cf53) 6 = .ok (.goto 4, 3) := by decide +kernel
theorem dJ9_min_7cf53_9 : decode (am_b mJ9_min_7cf53) 9 = .ok (.iload_n 1, 1) := by decide +kernel
theorem dJ9_min_7cf53_10 : decode (am_b mJ9_min_7cf53) 10 = .ok (.ireturn, 1) := by decide +kernel
theorem dX1_init_0 : decode (am_b mX1_init) 0 = .ok (.aload_n 0, 1) := by decide +kernel
theorem dX1_init_1 : decode (am_b mX1_init) 1 = .ok (.invokespecial 3, 3) := by decide +kernel
theorem dX1_init_4 : decode (am_b mX1_init) 4 = .ok (.aload_n 0, 1) := by decide +kernel
theorem dX1_init_5 : decode (am_b mX1_init) 5 = .ok (.bipush 6, 2) := by decide +kernel
theorem dX1_init_7 : decode (am_b mX1_init) 7 = .ok (.anewarray 9, 3) := by decide +kernel
theorem dX1_init_10 : decode (am_b mX1_init) 10 = .ok (.putfield 11, 3) := by decide +kernel
theorem dX1_init_13 : decode (am_b mX1_init) 13 = .ok (.return_, 1) := by decide +kernel
theorem dX2_append_0 : decode (am_b mX2_append) 0 = .ok (.lload_n 1, 1) := by decide +kernel
theorem dX2_append_1 : decode (am_b mX2_append) 1 = .ok (.lstore 4, 2) := by decide +kernel
theorem dX2_append_3 : decode (am_b mX2_append) 3 = .ok (.aload_n 0, 1) := by decide +kernel
theorem dX2_append_4 : decode (am_b mX2_append) 4 = .ok (.getfield 28, 3) := by decide +kernel
theorem dX2_append_7 : decode (am_b mX2_append) 7 = .ok (.iload_n 3, 1) := by decide +kernel
theorem dX2_append_8 : decode (am_b mX2_append) 8 = .ok (.iadd, 1) := by decide +kernel
theorem dX2_append_9 : decode (am_b mX2_append) 9 = .ok (.iconst 1, 1) := by decide +kernel
theorem dX2_append_10 : decode (am_b mX2_append) 10 = .ok (.isub, 1) := by decide +kernel
theorem dX2_append_11 : decode (am_b mX2_append) 11 = .ok (.istore 6, 2) := by decide +kernel
theorem dX2_append_13 : decode (am_b mX2_append) 13 = .ok (.iload 6, 2) := by decide +kernel
theorem dX2_append_15 : decode (am_b mX2_append) 15 = .ok (.aload_n 0, 1) := by decide +kernel
theorem dX2_append_16 : decode (am_b mX2_append) 16 = .ok (.getfield 28, 3) := by decide +kernel
theorem dX2_append_19 : decode (am_b mX2_append) 19 = .ok (.if_icmp .lt 46, 3) := by decide +kernel
theorem dX2_append_22 : decode (am_b mX2_append) 22 = .ok (.iload 6, 2) := by decide +kernel
theorem dX2_append_24 : decode (am_b mX2_append) 24 = .ok (.ifCond .lt 28, 3) := by decide +kernel
theorem dX2_append_27 : decode (am_b mX2_append) 27 = .ok (.iload 6, 2) := by decide +kernel
theorem dX2_append_29 : decode (am_b mX2_append) 29 = .ok (.aload_n 0, 1) := by decide +kernel
theorem dX2_append_30 : decode (am_b mX2_append) 30 = .ok (.getfield 9, 3) := by decide +kernel
theorem dX2_append_33 : decode (am_b mX2_append) 33 = .ok (.arraylength, 1) := by decide +kernel
theorem dX2_append_34 : decode (am_b mX2_append) 34 = .ok (.if_icmp .ge 18, 3) := by decide +kernel
theorem dX2_append_37 : decode (am_b mX2_append) 37 = .ok (.aload_n 0, 1) := by decide +kernel
theorem dX2_append_38 : decode (am_b mX2_append) 38 = .ok (.getfield 9, 3) := by decide +kernel
theorem dX2_append_41 : decode (am_b mX2_append) 41 = .ok (.iload 6, 2) := by decide +kernel
theorem dX2_append_43 : decode (am_b mX2_append) 43 = .ok (.lload 4, 2) := by decide +kernel
theorem dX2_append_45 : decode (am_b mX2_append) 45 = .ok (.ldc2_w 22, 3) := by decide +kernel
theorem dX2_append_48 : decode (am_b mX2_append) 48 = .ok (.land, 1) := by decide +kernel
theorem dX2_append_49 : decode (am_b mX2_append) 49 = .ok (.l2i, 1) := by decide +kernel
theorem dX2_append_50 : decode (am_b mX2_append) 50 = .ok (.i2c, 1) := by decide +kernel
theorem dX2_append_51 : decode (am_b mX2_append) 51 = .ok (.castore, 1) := by decide +kernel
theorem dX2_append_52 : decode (am_b mX2_append) 52 = .ok (.lload 4, 2) := by decide +kernel
theorem dX2_append_54 : decode (am_b mX2_append) 54 = .ok (.bipush 8, 2) := by decide +kernel
theorem dX2_append_56 : decode (am_b mX2_append) 56 = .ok (.lushr, 1) := by decide +kernel
theorem dX2_append_57 : decode (am_b mX2_append) 57 = .ok (.lstore 4, 2) := by decide +kernel
theorem dX2_append_59 : decode (am_b mX2_append) 59 = .ok (.iinc 6 (-1), 3) := by decide +kernel
theorem dX2_append_62 : decode (am_b mX2_append) 62 = .ok (.goto (-49), 3) := by decide +kernel
theorem dX2_append_65 : decode (am_b mX2_append) 65 = .ok (.aload_n 0, 1) := by decide +kernel
theorem dX2_append_66 : decode (am_b mX2_append) 66 = .ok (.dup, 1) := by decide +kernel
theorem dX2_append_67 : decode (am_b mX2_append) 67 = .ok (.getfield 28, 3) := by decide +kernel
theorem dX2_append_70 : decode (am_b mX2_append) 70 = .ok (.iload_n 3, 1) := by decide +kernel
theorem dX2_append_71 : decode (am_b mX2_append) 71 = .ok (.iadd, 1) := by decide +kernel
theorem dX2_append_72 : decode (am_b mX2_append) 72 = .ok (.putfield 28, 3) := by decide +kernel
theorem dX2_append_75 : decode (am_b mX2_append) 75 = .ok (.return_, 1) := by decide +kernel
theorem dX2_countLetters_0 : decode (am_b mX2_countLetters) 0 = .ok (.lload_n 0, 1) := by decide +kernel
theorem dX2_countLetters_1 : decode (am_b mX2_countLetters) 1 = .ok (.lstore_n 2, 1) := by decide +kernel
theorem dX2_countLetters_2 : decode (am_b mX2_countLetters) 2 = .ok (.iconst 0, 1) := by decide +kernel
theorem dX2_countLetters_3 : decode (am_b mX2_countLetters) 3 = .ok (.istore 4, 2) := by decide +kernel
theorem dX2_countLetters_5 : decode (am_b mX2_countLetters) 5 = .ok (.iload 4, 2) := by decide +kernel
theorem dX2_countLetters_7 : decode (am_b mX2_countLetters) 7 = .ok (.bipush 8, 2) := by decide +kernel
theorem dX2_countLetters_9 : decode (am_b mX2_countLetters) 9 = .ok (.if_icmp .ge 51, 3) := by decide +kernel
theorem dX2_countLetters_12 : decode (am_b mX2_countLetters) 12 = .ok (.lload_n 2, 1) := by decide +kernel
theorem dX2_countLetters_13 : decode (am_b mX2_countLetters) 13 = .ok (.ldc2_w 22, 3) := by decide +kernel
theorem dX2_countLetters_16 : decode (am_b mX2_countLetters) 16 = .ok (.land, 1) := by decide +kernel
theorem dX2_countLetters_17 : decode (am_b mX2_countLetters) 17 = .ok (.lconst 0, 1) := by decide +kernel
theorem dX2_countLetters_18 : decode (am_b mX2_countLetters) 18 = .ok (.lcmp, 1) := by decide +kernel
theorem dX2_countLetters_19 : decode (am_b mX2_countLetters) 19 = .ok (.ifCond .eq 41, 3) := by decide +kernel
theorem dX2_countLetters_22 : decode (am_b mX2_countLetters) 22 = .ok (.lload_n 2, 1) := by decide +kernel
theorem dX2_countLetters_23 : decode (am_b mX2_countLetters) 23 = .ok (.ldc2_w 22, 3) := by decide +kernel
theorem dX2_countLetters_26 : decode (am_b mX2_countLetters) 26 = .ok (.land, 1) := by decide +kernel
theorem dX2_countLetters_27 : decode (am_b mX2_countLetters) 27 = .ok (.lstore 5, 2) := by decide +kernel
theorem dX2_countLetters_29 : decode (am_b mX2_countLetters) 29 = .ok (.lload 5, 2) := by decide +kernel
theorem dX2_countLetters_31 : decode (am_b mX2_countLetters) 31 = .ok (.ldc2_w 24, 3) := by decide +kernel
theorem dX2_countLetters_34 : decode (am_b mX2_countLetters) 34 = .ok (.lcmp, 1) := by decide +kernel
theorem dX2_countLetters_35 : decode (am_b mX2_countLetters) 35 = .ok (.ifCond .lt 12, 3) := by decide +kernel
theorem dX2_countLetters_38 : decode (am_b mX2_countLetters) 38 = .ok (.lload 5, 2) := by decide +kernel
theorem dX2_countLetters_40 : decode (am_b mX2_countLetters) 40 = .ok (.ldc2_w 26, 3) := by decide +kernel
theorem dX2_countLetters_43 : decode (am_b mX2_countLetters) 43 = .ok (.lcmp, 1) := by decide +kernel
theorem dX2_countLetters_44 : decode (am_b mX2_countLetters) 44 = .ok (.ifCond .le 5, 3) := by decide +kernel
theorem dX2_countLetters_47 : decode (am_b mX2_countLetters) 47 = .ok (.iconst 0, 1) := by decide +kernel
theorem dX2_countLetters_48 : decode (am_b mX2_countLetters) 48 = .ok (.ireturn, 1) := by decide +kernel
theorem dX2_countLetters_49 : decode (am_b mX2_countLetters) 49 = .ok (.lload_n 2, 1) := by decide +kernel
theorem dX2_countLetters_50 : decode (am_b mX2_countLetters) 50 = .ok (.bipush 8, 2) := by decide +kernel
theorem dX2_countLetters_52 : decode (am_b mX2_countLetters) 52 = .ok (.lushr, 1) := by decide +kernel
theorem dX2_countLetters_53 : decode (am_b mX2_countLetters) 53 = .ok (.lstore_n 2, 1) := by decide +kernel
theorem dX2_countLetters_54 : decode (am_b mX2_countLetters) 54 = .ok (.iinc 4 1, 3) := by decide +kernel
theorem dX2_countLetters_57 : decode (am_b mX2_countLetters) 57 = .ok (.goto (-52), 3) := by decide +kernel
theorem dX2_countLetters_60 : decode (am_b mX2_countLetters) 60 = .ok (.lload_n 2, 1) := by decide +kernel
theorem dX2_countLetters_61 : decode (am_b mX2_countLetters) 61 = .ok (.lconst 0, 1) := by decide +kernel
theorem dX2_countLetters_62 : decode (am_b mX2_countLetters) 62 = .ok (.lcmp, 1) := by decide +kernel
theorem dX2_countLetters_63 : decode (am_b mX2_countLetters) 63 = .ok (.ifCond .ne 8, 3) := by decide +kernel
theorem dX2_countLetters_66 : decode (am_b mX2_countLetters) 66 = .ok (.iload 4, 2) := by decide +kernel
theorem dX2_countLetters_68 : decode (am_b mX2_countLetters) 68 = .ok (.goto 4, 3) := by decide +kernel
theorem dX2_countLetters_71 : decode (am_b mX2_countLetters) 71 = .ok (.iconst 0, 1) := by decide +kernel
theorem dX2_countLetters_72 : decode (am_b mX2_countLetters) 72 = .ok (.ireturn, 1) := by decide +kernel
theorem dX2_init_0 : decode (am_b mX2_init) 0 = .ok (.aload_n 0, 1) := by decide +kernel
theorem dX2_init_1 : decode (am_b mX2_init) 1 = .ok (.invokespecial 3, 3) := by decide +kernel
theorem dX2_init_4 : decode (am_b mX2_init) 4 = .ok (.aload_n 0, 1) := by decide +kernel
theorem dX2_init_5 : decode (am_b mX2_init) 5 = .ok (.bipush 60, 2) := by decide +kernel
theorem dX2_init_7 : decode (am_b mX2_init) 7 = .ok (.newarray .char, 2) := by decide +kernel
theorem dX2_init_9 : decode (am_b mX2_init) 9 = .ok (.putfield 9, 3) := by decide +kernel
theorem dX2_init_12 : decode (am_b mX2_init) 12 = .ok (.aload_n 0, 1) := by decide +kernel
theorem dX2_init_13 : decode (am_b mX2_init) 13 = .ok (.bipush 8, 2) := by decide +kernel
theorem dX2_init_15 : decode (am_b mX2_init) 15 = .ok (.newarray .int, 2) := by decide +kernel
theorem dX2_init_17 : decode (am_b mX2_init) 17 = .ok (.putfield 15, 3) := by decide +kernel
theorem dX2_init_20 : decode (am_b mX2_init) 20 = .ok (.aload_n 0, 1) := by decide +kernel
theorem dX2_init_21 : decode (am_b mX2_init) 21 = .ok (.bipush 8, 2) := by decide +kernel
theorem dX2_init_23 : decode (am_b mX2_init) 23 = .ok (.newarray .int, 2) := by decide +kernel
theorem dX2_init_25 : decode (am_b mX2_init) 25 = .ok (.putfield 19, 3) := by decide +kernel
theorem dX2_init_28 : decode (am_b mX2_init) 28 = .ok (.return_, 1) := by decide +kernel
theorem dX2_readComma_0 : decode (am_b mX2_readComma) 0 = .ok (.iload_n 1, 1) := by decide +kernel
theorem dX2_readComma_1 : decode (am_b mX2_readComma) 1 = .ok (.bipush 44, 2) := by decide +kernel
theorem dX2_readComma_3 : decode (am_b mX2_readComma) 3 = .ok (.if_icmp .ne 16, 3) := by decide +kernel
theorem dX2_readComma_6 : decode (am_b mX2_readComma) 6 = .ok (.aload_n 0, 1) := by decide +kernel
theorem dX2_readComma_7 : decode (am_b mX2_readComma) 7 = .ok (.getfield 32, 3) := by decide +kernel
theorem dX2_readComma_10 : decode (am_b mX2_readComma) 10 = .ok (.bipush 8, 2) := by decide +kernel
theorem dX2_readComma_12 : decode (am_b mX2_readComma) 12 = .ok (.if_icmp .ge 7, 3) := by decide +kernel
theorem dX2_readComma_15 : decode (am_b mX2_readComma) 15 = .ok (.iconst 0, 1) := by decide +kernel
theorem dX2_readComma_16 : decode (am_b mX2_readComma) 16 = .ok (.goto 4, 3) := by decide +kernel
theorem dX2_readComma_19 : decode (am_b mX2_readComma) 19 = .ok (.iconst (-1), 1) := by decide +kernel
theorem dX2_readComma_20 : decode (am_b mX2_readComma) 20 = .ok (.ireturn, 1) := by decide +kernel
theorem dX2_readHeight_0 : decode (am_b mX2_readHeight) 0 = .ok (.iload_n 1, 1) := by decide +kernel
theorem dX2_readHeight_1 : decode (am_b mX2_readHeight) 1 = .ok (.bipush 49, 2) := by decide +kernel
theorem dX2_readHeight_3 : decode (am_b mX2_readHeight) 3 = .ok (.if_icmp .lt 18, 3) := by decide +kernel
theorem dX2_readHeight_6 : decode (am_b mX2_readHeight) 6 = .ok (.iload_n 1, 1) := by decide +kernel
theorem dX2_readHeight_7 : decode (am_b mX2_readHeight) 7 = .ok (.bipush 57, 2) := by decide +kernel
theorem dX2_readHeight_9 : decode (am_b mX2_readHeight) 9 = .ok (.if_icmp .gt 12, 3) := by decide +kernel
theorem dX2_readHeight_12 : decode (am_b mX2_readHeight) 12 = .ok (.aload_n 0, 1) := by decide +kernel
theorem dX2_readHeight_13 : decode (am_b mX2_readHeight) 13 = .ok (.getfield 32, 3) := by decide +kernel
theorem dX2_readHeight_16 : decode (am_b mX2_readHeight) 16 = .ok (.bipush 8, 2) := by decide +kernel
theorem dX2_readHeight_18 : decode (am_b mX2_readHeight) 18 = .ok (.if_icmp .lt 5, 3) := by decide +kernel
theorem dX2_readHeight_21 : decode (am_b mX2_readHeight) 21 = .ok (.iconst (-1), 1) := by decide +kernel
theorem dX2_readHeight_22 : decode (am_b mX2_readHeight) 22 = .ok (.ireturn, 1) := by decide +kernel
theorem dX2_readHeight_23 : decode (am_b mX2_readHeight) 23 = .ok (.aload_n 0, 1) := by decide +kernel
theorem dX2_readHeight_24 : decode (am_b mX2_readHeight) 24 = .ok (.getfield 15, 3) := by decide +kernel
theorem dX2_readHeight_27 : decode (am_b mX2_readHeight) 27 = .ok (.aload_n 0, 1) := by decide +kernel
theorem dX2_readHeight_28 : decode (am_b mX2_readHeight) 28 = .ok (.getfield 32, 3) := by decide +kernel
theorem dX2_readHeight_31 : decode (am_b mX2_readHeight) 31 = .ok (.iload_n 1, 1) := by decide +kernel
theorem dX2_readHeight_32 : decode (am_b mX2_readHeight) 32 = .ok (.bipush 48, 2) := by decide +kernel
theorem dX2_readHeight_34 : decode (am_b mX2_readHeight) 34 = .ok (.isub, 1) := by decide +kernel
theorem dX2_readHeight_35 : decode (am_b mX2_readHeight) 35 = .ok (.iastore, 1) := by decide +kernel
theorem dX2_readHeight_36 : decode (am_b mX2_readHeight) 36 = .ok (.aload_n 0, 1) := by decide +kernel
theorem dX2_readHeight_37 : decode (am_b mX2_readHeight) 37 = .ok (.getfield 19, 3) := by decide +kernel
theorem dX2_readHeight_40 : decode (am_b mX2_readHeight) 40 = .ok (.aload_n 0, 1) := by decide +kernel
theorem dX2_readHeight_41 : decode (am_b mX2_readHeight) 41 = .ok (.getfield 32, 3) := by decide +kernel
theorem dX2_readHeight_44 : decode (am_b mX2_readHeight) 44 = .ok (.bipush (-6), 2) := by decide +kernel
theorem dX2_readHeight_46 : decode (am_b mX2_readHeight) 46 = .ok (.iastore, 1) := by decide +kernel
theorem dX2_readHeight_47 : decode (am_b mX2_readHeight) 47 = .ok (.aload_n 0, 1) := by decide +kernel
theorem dX2_readHeight_48 : decode (am_b mX2_readHeight) 48 = .ok (.dup, 1) := by decide +kernel
theorem dX2_readHeight_49 : decode (am_b mX2_readHeight) 49 = .ok (.getfield 32, 3) := by decide +kernel
theorem dX2_readHeight_52 : decode (am_b mX2_readHeight) 52 = .ok (.iconst 1, 1) := by decide +kernel
theorem dX2_readHeight_53 : decode (am_b mX2_readHeight) 53 = .ok (.iadd, 1) := by decide +kernel
theorem dX2_readHeight_54 : decode (am_b mX2_readHeight) 54 = .ok (.putfield 32, 3) := by decide +kernel
theorem dX2_readHeight_57 : decode (am_b mX2_readHeight) 57 = .ok (.iconst 1, 1) := by decide +kernel
theorem dX2_readHeight_58 : decode (am_b mX2_readHeight) 58 = .ok (.ireturn, 1) := by decide +kernel
theorem dX2_readPitch_0 : decode (am_b mX2_readPitch) 0 = .ok (.aload_n 0, 1) := by decide +kernel
theorem dX2_readPitch_1 : decode (am_b mX2_readPitch) 1 = .ok (.getfield 32, 3) := by decide +kernel
theorem dX2_readPitch_4 : decode (am_b mX2_readPitch) 4 = .ok (.iconst 1, 1) := by decide +kernel
theorem dX2_readPitch_5 : decode (am_b mX2_readPitch) 5 = .ok (.if_icmp .lt 24, 3) := by decide +kernel
theorem dX2_readPitch_8 : decode (am_b mX2_readPitch) 8 = .ok (.aload_n 0, 1) := by decide +kernel
theorem dX2_readPitch_9 : decode (am_b mX2_readPitch) 9 = .ok (.getfield 32, 3) := by decide +kernel
theorem dX2_readPitch_12 : decode (am_b mX2_readPitch) 12 = .ok (.bipush 8, 2) := by decide +kernel
theorem dX2_readPitch_14 : decode (am_b mX2_readPitch) 14 = .ok (.if_icmp .gt 15, 3) := by decide +kernel
theorem dX2_readPitch_17 : decode (am_b mX2_readPitch) 17 = .ok (.aload_n 0, 1) := by decide +kernel
theorem dX2_readPitch_18 : decode (am_b mX2_readPitch) 18 = .ok (.getfield 19, 3) := by decide +kernel
theorem dX2_readPitch_21 : decode (am_b mX2_readPitch) 21 = .ok (.aload_n 0, 1) := by decide +kernel
theorem dX2_readPitch_22 : decode (am_b mX2_readPitch) 22 = .ok (.getfield 32, 3) := by decide +kernel
theorem dX2_readPitch_25 : decode (am_b mX2_readPitch) 25 = .ok (.iconst 1, 1) := by decide +kernel
theorem dX2_readPitch_26 : decode (am_b mX2_readPitch) 26 = .ok (.isub, 1) := by decide +kernel
theorem dX2_readPitch_27 : decode (am_b mX2_readPitch) 27 = .ok (.iload_n 1, 1) := by decide +kernel
theorem dX2_readPitch_28 : decode (am_b mX2_readPitch) 28 = .ok (.iastore, 1) := by decide +kernel
theorem dX2_readPitch_29 : decode (am_b mX2_readPitch) 29 = .ok (.iconst 4, 1) := by decide +kernel
theorem dX2_readPitch_30 : decode (am_b mX2_readPitch) 30 = .ok (.ireturn, 1) := by decide +kernel
theorem dX3_addBooth_0 : decode (am_b mX3_addBooth) 0 = .ok (.aload_n 0, 1) := by decide +kernel
theorem dX3_addBooth_1 : decode (am_b mX3_addBooth) 1 = .ok (.getfield 60, 3) := by decide +kernel
theorem dX3_addBooth_4 : decode (am_b mX3_addBooth) 4 = .ok (.ifCond .lt 12, 3) := by decide +kernel
theorem dX3_addBooth_7 : decode (am_b mX3_addBooth) 7 = .ok (.aload_n 0, 1) := by decide +kernel
theorem dX3_addBooth_8 : decode (am_b mX3_addBooth) 8 = .ok (.getfield 60, 3) := by decide +kernel
theorem dX3_addBooth_11 : decode (am_b mX3_addBooth) 11 = .ok (.bipush 8, 2) := by decide +kernel
theorem dX3_addBooth_13 : decode (am_b mX3_addBooth) 13 = .ok (.if_icmp .lt 4, 3) := by decide +kernel
theorem dX3_addBooth_16 : decode (am_b mX3_addBooth) 16 = .ok (.return_, 1) := by decide +kernel
theorem dX3_addBooth_17 : decode (am_b mX3_addBooth) 17 = .ok (.aload_n 0, 1) := by decide +kernel
theorem dX3_addBooth_18 : decode (am_b mX3_addBooth) 18 = .ok (.getfield 26, 3) := by decide +kernel
theorem dX3_addBooth_21 : decode (am_b mX3_addBooth) 21 = .ok (.aload_n 0, 1) := by decide +kernel
theorem dX3_addBooth_22 : decode (am_b mX3_addBooth) 22 = .ok (.getfield 60, 3) := by decide +kernel
theorem dX3_addBooth_25 : decode (am_b mX3_addBooth) 25 = .ok (.iload_n 1, 1) := by decide +kernel
theorem dX3_addBooth_26 : decode (am_b mX3_addBooth) 26 = .ok (.iastore, 1) := by decide +kernel
theorem dX3_addBooth_27 : decode (am_b mX3_addBooth) 27 = .ok (.aload_n 0, 1) := by decide +kernel
theorem dX3_addBooth_28 : decode (am_b mX3_addBooth) 28 = .ok (.getfield 29, 3) := by decide +kernel
theorem dX3_addBooth_31 : decode (am_b mX3_addBooth) 31 = .ok (.aload_n 0, 1) := by decide +kernel
theorem dX3_addBooth_32 : decode (am_b mX3_addBooth) 32 = .ok (.getfield 60, 3) := by decide +kernel
theorem dX3_addBooth_35 : decode (am_b mX3_addBooth) 35 = .ok (.iload_n 2, 1) := by decide +kernel
theorem dX3_addBooth_36 : decode (am_b mX3_addBooth) 36 = .ok (.iastore, 1) := by decide +kernel
theorem dX3_addBooth_37 : decode (am_b mX3_addBooth) 37 = .ok (.aload_n 0, 1) := by decide +kernel
theorem dX3_addBooth_38 : decode (am_b mX3_addBooth) 38 = .ok (.getfield 32, 3) := by decide +kernel
theorem dX3_addBooth_41 : decode (am_b mX3_addBooth) 41 = .ok (.aload_n 0, 1) := by decide +kernel
theorem dX3_addBooth_42 : decode (am_b mX3_addBooth) 42 = .ok (.getfield 60, 3) := by decide +kernel
theorem dX3_addBooth_45 : decode (am_b mX3_addBooth) 45 = .ok (.iconst 0, 1) := by decide +kernel
theorem dX3_addBooth_46 : decode (am_b mX3_addBooth) 46 = .ok (.iastore, 1) := by decide +kernel
theorem dX3_addBooth_47 : decode (am_b mX3_addBooth) 47 = .ok (.aload_n 0, 1) := by decide +kernel
theorem dX3_addBooth_48 : decode (am_b mX3_addBooth) 48 = .ok (.getfield 35, 3) := by decide +kernel
theorem dX3_addBooth_51 : decode (am_b mX3_addBooth) 51 = .ok (.aload_n 0, 1) := by decide +kernel
theorem dX3_addBooth_52 : decode (am_b mX3_addBooth) 52 = .ok (.getfield 60, 3) := by decide +kernel
theorem dX3_addBooth_55 : decode (am_b mX3_addBooth) 55 = .ok (.iconst 0, 1) := by decide +kernel
theorem dX3_addBooth_56 : decode (am_b mX3_addBooth) 56 = .ok (.iastore, 1) := by decide +kernel
theorem dX3_addBooth_57 : decode (am_b mX3_addBooth) 57 = .ok (.aload_n 0, 1) := by decide +kernel
theorem dX3_addBooth_58 : decode (am_b mX3_addBooth) 58 = .ok (.getfield 38, 3) := by decide +kernel
theorem dX3_addBooth_61 : decode (am_b mX3_addBooth) 61 = .ok (.aload_n 0, 1) := by decide +kernel
theorem dX3_addBooth_62 : decode (am_b mX3_addBooth) 62 = .ok (.getfield 60, 3) := by decide +kernel
theorem dX3_addBooth_65 : decode (am_b mX3_addBooth) 65 = .ok (.iconst 0, 1) := by decide +kernel
theorem dX3_addBooth_66 : decode (am_b mX3_addBooth) 66 = .ok (.iastore, 1) := by decide +kernel
theorem dX3_addBooth_67 : decode (am_b mX3_addBooth) 67 = .ok (.aload_n 0, 1) := by decide +kernel
theorem dX3_addBooth_68 : decode (am_b mX3_addBooth) 68 = .ok (.dup, 1) := by decide +kernel
theorem dX3_addBooth_69 : decode (am_b mX3_addBooth) 69 = .ok (.getfield 60, 3) := by decide +kernel
theorem dX3_addBooth_72 : decode (am_b mX3_addBooth) 72 = .ok (.iconst 1, 1) := by decide +kernel
theorem dX3_addBooth_73 : decode (am_b mX3_addBooth) 73 = .ok (.iadd, 1) := by decide +kernel
theorem dX3_addBooth_74 : decode (am_b mX3_addBooth) 74 = .ok (.putfield 60, 3) := by decide +kernel
theorem dX3_addBooth_77 : decode (am_b mX3_addBooth) 77 = .ok (.return_, 1) := by decide +kernel
theorem dX3_changeSetting_0 : decode (am_b mX3_changeSetting) 0 = .ok (.iload_n 1, 1) := by decide +kernel
theorem dX3_changeSetting_1 : decode (am_b mX3_changeSetting) 1 = .ok (.ifCond .lt 19, 3) := by decide +kernel
theorem dX3_changeSetting_4 : decode (am_b mX3_changeSetting) 4 = .ok (.iload_n 1, 1) := by decide +kernel
theorem dX3_changeSetting_5 : decode (am_b mX3_changeSetting) 5 = .ok (.aload_n 0, 1) := by decide +kernel
theorem dX3_changeSetting_6 : decode (am_b mX3_changeSetting) 6 = .ok (.getfield 13, 3) := by decide +kernel
theorem dX3_changeSetting_9 : decode (am_b mX3_changeSetting) 9 = .ok (.arraylength, 1) := by decide +kernel
theorem dX3_changeSetting_10 : decode (am_b mX3_changeSetting) 10 = .ok (.if_icmp .ge 10, 3) := by decide +kernel
theorem dX3_changeSetting_13 : decode (am_b mX3_changeSetting) 13 = .ok (.aload_n 0, 1) := by decide +kernel
theorem dX3_changeSetting_14 : decode (am_b mX3_changeSetting) 14 = .ok (.getfield 13, 3) := by decide +kernel
theorem dX3_changeSetting_17 : decode (am_b mX3_changeSetting) 17 = .ok (.iload_n 1, 1) := by decide +kernel
theorem dX3_changeSetting_18 : decode (am_b mX3_changeSetting) 18 = .ok (.iload_n 2, 1) := by decide +kernel
theorem dX3_changeSetting_19 : decode (am_b mX3_changeSetting) 19 = .ok (.iastore, 1) := by decide +kernel
theorem dX3_changeSetting_20 : decode (am_b mX3_changeSetting) 20 = .ok (.return_, 1) := by decide +kernel
theorem dX3_draw_0 : decode (am_b mX3_draw) 0 = .ok (.aload_n 0, 1) := by decide +kernel
theorem dX3_draw_1 : decode (am_b mX3_draw) 1 = .ok (.aload_n 0, 1) := by decide +kernel
theorem dX3_draw_2 : decode (am_b mX3_draw) 2 = .ok (.getfield 18, 3) := by decide +kernel
theorem dX3_draw_5 : decode (am_b mX3_draw) 5 = .ok (.ldc2_w 91, 3) := by decide +kernel
theorem dX3_draw_8 : decode (am_b mX3_draw) 8 = .ok (.lmul, 1) := by decide +kernel
theorem dX3_draw_9 : decode (am_b mX3_draw) 9 = .ok (.ldc2_w 93, 3) := by decide +kernel
theorem dX3_draw_12 : decode (am_b mX3_draw) 12 = .ok (.ladd, 1) := by decide +kernel
theorem dX3_draw_13 : decode (am_b mX3_draw) 13 = .ok (.ldc2_w 95, 3) := by decide +kernel
theorem dX3_draw_16 : decode (am_b mX3_draw) 16 = .ok (.lrem, 1) := by decide +kernel
theorem dX3_draw_17 : decode (am_b mX3_draw) 17 = .ok (.putfield 18, 3) := by decide +kernel
theorem dX3_draw_20 : decode (am_b mX3_draw) 20 = .ok (.iload_n 1, 1) := by decide +kernel
theorem dX3_draw_21 : decode (am_b mX3_draw) 21 = .ok (.iconst 1, 1) := by decide +kernel
theorem dX3_draw_22 : decode (am_b mX3_draw) 22 = .ok (.if_icmp .ge 7, 3) := by decide +kernel
theorem dX3_draw_25 : decode (am_b mX3_draw) 25 = .ok (.iconst 0, 1) := by decide +kernel
theorem dX3_draw_26 : decode (am_b mX3_draw) 26 = .ok (.goto 15, 3) := by decide +kernel
theorem dX3_draw_29 : decode (am_b mX3_draw) 29 = .ok (.aload_n 0, 1) := by decide +kernel
theorem dX3_draw_30 : decode (am_b mX3_draw) 30 = .ok (.getfield 18, 3) := by decide +kernel
theorem dX3_draw_33 : decode (am_b mX3_draw) 33 = .ok (.ldc2_w 97, 3) := by decide +kernel
theorem dX3_draw_36 : decode (am_b mX3_draw) 36 = .ok (.ldiv, 1) := by decide +kernel
theorem dX3_draw_37 : decode (am_b mX3_draw) 37 = .ok (.iload_n 1, 1) := by decide +kernel
theorem dX3_draw_38 : decode (am_b mX3_draw) 38 = .ok (.i2l, 1) := by decide +kernel
theorem dX3_draw_39 : decode (am_b mX3_draw) 39 = .ok (.lrem, 1) := by decide +kernel
theorem dX3_draw_40 : decode (am_b mX3_draw) 40 = .ok (.l2i, 1) := by decide +kernel
theorem dX3_draw_41 : decode (am_b mX3_draw) 41 = .ok (.ireturn, 1) := by decide +kernel
theorem dX3_forgetLots_0 : decode (am_b mX3_forgetLots) 0 = .ok (.iconst 0, 1) := by decide +kernel
theorem dX3_forgetLots_1 : decode (am_b mX3_forgetLots) 1 = .ok (.istore_n 1, 1) := by decide +kernel
theorem dX3_forgetLots_2 : decode (am_b mX3_forgetLots) 2 = .ok (.iload_n 1, 1) := by decide +kernel
theorem dX3_forgetLots_3 : decode (am_b mX3_forgetLots) 3 = .ok (.aload_n 0, 1) := by decide +kernel
theorem dX3_forgetLots_4 : decode (am_b mX3_forgetLots) 4 = .ok (.getfield 41, 3) := by decide +kernel
theorem dX3_forgetLots_7 : decode (am_b mX3_forgetLots) 7 = .ok (.arraylength, 1) := by decide +kernel
theorem dX3_forgetLots_8 : decode (am_b mX3_forgetLots) 8 = .ok (.if_icmp .ge 17, 3) := by decide +kernel
theorem dX3_forgetLots_11 : decode (am_b mX3_forgetLots) 11 = .ok (.aload_n 0, 1) := by decide +kernel
theorem dX3_forgetLots_12 : decode (am_b mX3_forgetLots) 12 = .ok (.getfield 41, 3) := by decide +kernel
theorem dX3_forgetLots_15 : decode (am_b mX3_forgetLots) 15 = .ok (.iload_n 1, 1) := by decide +kernel
theorem dX3_forgetLots_16 : decode (am_b mX3_forgetLots) 16 = .ok (.bipush (-6), 2) := by decide +kernel
theorem dX3_forgetLots_18 : decode (am_b mX3_forgetLots) 18 = .ok (.iastore, 1) := by decide +kernel
theorem dX3_forgetLots_19 : decode (am_b mX3_forgetLots) 19 = .ok (.iinc 1 1, 3) := by decide +kernel
theorem dX3_forgetLots_22 : decode (am_b mX3_forgetLots) 22 = .ok (.goto (-20), 3) := by decide +kernel
theorem dX3_forgetLots_25 : decode (am_b mX3_forgetLots) 25 = .ok (.return_, 1) := by decide +kernel
theorem dX3_isBooth_0 : decode (am_b mX3_isBooth) 0 = .ok (.iload_n 1, 1) := by decide +kernel
theorem dX3_isBooth_1 : decode (am_b mX3_isBooth) 1 = .ok (.ifCond .lt 21, 3) := by decide +kernel
theorem dX3_isBooth_4 : decode (am_b mX3_isBooth) 4 = .ok (.iload_n 1, 1) := by decide +kernel
theorem dX3_isBooth_5 : decode (am_b mX3_isBooth) 5 = .ok (.aload_n 0, 1) := by decide +kernel
theorem dX3_isBooth_6 : decode (am_b mX3_isBooth) 6 = .ok (.getfield 60, 3) := by decide +kernel
theorem dX3_isBooth_9 : decode (am_b mX3_isBooth) 9 = .ok (.if_icmp .ge 13, 3) := by decide +kernel
theorem dX3_isBooth_12 : decode (am_b mX3_isBooth) 12 = .ok (.iload_n 1, 1) := by decide +kernel
theorem dX3_isBooth_13 : decode (am_b mX3_isBooth) 13 = .ok (.bipush 8, 2) := by decide +kernel
theorem dX3_isBooth_15 : decode (am_b mX3_isBooth) 15 = .ok (.if_icmp .ge 7, 3) := by decide +kernel
theorem dX3_isBooth_18 : decode (am_b mX3_isBooth) 18 = .ok (.iconst 1, 1) := by decide +kernel
theorem dX3_isBooth_19 : decode (am_b mX3_isBooth) 19 = .ok (.goto 4, 3) := by decide +kernel
theorem dX3_isBooth_22 : decode (am_b mX3_isBooth) 22 = .ok (.iconst 0, 1) := by decide +kernel
theorem dX3_isBooth_23 : decode (am_b mX3_isBooth) 23 = .ok (.ireturn, 1) := by decide +kernel
theorem dX3_setting_0 : decode (am_b mX3_setting) 0 = .ok (.iload_n 1, 1) := by decide +kernel
theorem dX3_setting_1 : decode (am_b mX3_setting) 1 = .ok (.ifCond .lt 21, 3) := by decide +kernel
theorem dX3_setting_4 : decode (am_b mX3_setting) 4 = .ok (.iload_n 1, 1) := by decide +kernel
theorem dX3_setting_5 : decode (am_b mX3_setting) 5 = .ok (.aload_n 0, 1) := by decide +kernel
theorem dX3_setting_6 : decode (am_b mX3_setting) 6 = .ok (.getfield 13, 3) := by decide +kernel
theorem dX3_setting_9 : decode (am_b mX3_setting) 9 = .ok (.arraylength, 1) := by decide +kernel
theorem dX3_setting_10 : decode (am_b mX3_setting) 10 = .ok (.if_icmp .ge 12, 3) := by decide +kernel
theorem dX3_setting_13 : decode (am_b mX3_setting) 13 = .ok (.aload_n 0, 1) := by decide +kernel
theorem dX3_setting_14 : decode (am_b mX3_setting) 14 = .ok (.getfield 13, 3) := by decide +kernel
theorem dX3_setting_17 : decode (am_b mX3_setting) 17 = .ok (.iload_n 1, 1) := by decide +kernel
theorem dX3_setting_18 : decode (am_b mX3_setting) 18 = .ok (.iaload, 1) := by decide +kernel
theorem dX3_setting_19 : decode (am_b mX3_setting) 19 = .ok (.goto 4, 3) := by decide +kernel
theorem dX3_setting_22 : decode (am_b mX3_setting) 22 = .ok (.iconst 0, 1) := by decide +kernel
theorem dX3_setting_23 : decode (am_b mX3_setting) 23 = .ok (.ireturn, 1) := by decide +kernel
theorem dX4_init_0 : decode (am_b mX4_init) 0 = .ok (.aload_n 0, 1) := by decide +kernel
theorem dX4_init_1 : decode (am_b mX4_init) 1 = .ok (.invokespecial 3, 3) := by decide +kernel
theorem dX4_init_4 : decode (am_b mX4_init) 4 = .ok (.aload_n 0, 1) := by decide +kernel
theorem dX4_init_5 : decode (am_b mX4_init) 5 = .ok (.bipush 12, 2) := by decide +kernel
theorem dX4_init_7 : decode (am_b mX4_init) 7 = .ok (.newarray .int, 2) := by decide +kernel
theorem dX4_init_9 : decode (am_b mX4_init) 9 = .ok (.putfield 9, 3) := by decide +kernel
theorem dX4_init_12 : decode (am_b mX4_init) 12 = .ok (.aload_n 0, 1) := by decide +kernel
theorem dX4_init_13 : decode (am_b mX4_init) 13 = .ok (.bipush 12, 2) := by decide +kernel
theorem dX4_init_15 : decode (am_b mX4_init) 15 = .ok (.newarray .int, 2) := by decide +kernel
theorem dX4_init_17 : decode (am_b mX4_init) 17 = .ok (.putfield 15, 3) := by decide +kernel
theorem dX4_init_20 : decode (am_b mX4_init) 20 = .ok (.aload_n 0, 1) := by decide +kernel
theorem dX4_init_21 : decode (am_b mX4_init) 21 = .ok (.iload_n 1, 1) := by decide +kernel
theorem dX4_init_22 : decode (am_b mX4_init) 22 = .ok (.putfield 18, 3) := by decide +kernel
theorem dX4_init_25 : decode (am_b mX4_init) 25 = .ok (.return_, 1) := by decide +kernel
theorem dX4_walk_0 : decode (am_b mX4_walk) 0 = .ok (.aload_n 0, 1) := by decide +kernel
theorem dX4_walk_1 : decode (am_b mX4_walk) 1 = .ok (.iload_n 3, 1) := by decide +kernel
theorem dX4_walk_2 : decode (am_b mX4_walk) 2 = .ok (.putfield 22, 3) := by decide +kernel
theorem dX4_walk_5 : decode (am_b mX4_walk) 5 = .ok (.iload_n 2, 1) := by decide +kernel
theorem dX4_walk_6 : decode (am_b mX4_walk) 6 = .ok (.istore 4, 2) := by decide +kernel
theorem dX4_walk_8 : decode (am_b mX4_walk) 8 = .ok (.iconst 0, 1) := by decide +kernel
theorem dX4_walk_9 : decode (am_b mX4_walk) 9 = .ok (.istore 5, 2) := by decide +kernel
theorem dX4_walk_11 : decode (am_b mX4_walk) 11 = .ok (.iconst 0, 1) := by decide +kernel
theorem dX4_walk_12 : decode (am_b mX4_walk) 12 = .ok (.istore 6, 2) := by decide +kernel
theorem dX4_walk_14 : decode (am_b mX4_walk) 14 = .ok (.iload 6, 2) := by decide +kernel
theorem dX4_walk_16 : decode (am_b mX4_walk) 16 = .ok (.bipush 12, 2) := by decide +kernel
theorem dX4_walk_18 : decode (am_b mX4_walk) 18 = .ok (.if_icmp .ge 80, 3) := by decide +kernel
theorem dX4_walk_21 : decode (am_b mX4_walk) 21 = .ok (.aload_n 0, 1) := by decide +kernel
theorem dX4_walk_22 : decode (am_b mX4_walk) 22 = .ok (.getfield 18, 3) := by decide +kernel
theorem dX4_walk_25 : decode (am_b mX4_walk) 25 = .ok (.ifCond .eq 8, 3) := by decide +kernel
theorem dX4_walk_28 : decode (am_b mX4_walk) 28 = .ok (.iload 6, 2) := by decide +kernel
theorem dX4_walk_30 : decode (am_b mX4_walk) 30 = .ok (.goto 8, 3) := by decide +kernel
theorem dX4_walk_33 : decode (am_b mX4_walk) 33 = .ok (.bipush 11, 2) := by decide +kernel
theorem dX4_walk_35 : decode (am_b mX4_walk) 35 = .ok (.iload 6, 2) := by decide +kernel
theorem dX4_walk_37 : decode (am_b mX4_walk) 37 = .ok (.isub, 1) := by decide +kernel
theorem dX4_walk_38 : decode (am_b mX4_walk) 38 = .ok (.istore 7, 2) := by decide +kernel
theorem dX4_walk_40 : decode (am_b mX4_walk) 40 = .ok (.aload_n 0, 1) := by decide +kernel
theorem dX4_walk_41 : decode (am_b mX4_walk) 41 = .ok (.getfield 9, 3) := by decide +kernel
theorem dX4_walk_44 : decode (am_b mX4_walk) 44 = .ok (.iload 7, 2) := by decide +kernel
theorem dX4_walk_46 : decode (am_b mX4_walk) 46 = .ok (.iload 4, 2) := by decide +kernel
theorem dX4_walk_48 : decode (am_b mX4_walk) 48 = .ok (.iastore, 1) := by decide +kernel
theorem dX4_walk_49 : decode (am_b mX4_walk) 49 = .ok (.aload_n 0, 1) := by decide +kernel
theorem dX4_walk_50 : decode (am_b mX4_walk) 50 = .ok (.getfield 15, 3) := by decide +kernel
theorem dX4_walk_53 : decode (am_b mX4_walk) 53 = .ok (.iload 7, 2) := by decide +kernel
theorem dX4_walk_55 : decode (am_b mX4_walk) 55 = .ok (.iload 5, 2) := by decide +kernel
theorem dX4_walk_57 : decode (am_b mX4_walk) 57 = .ok (.iastore, 1) := by decide +kernel
theorem dX4_walk_58 : decode (am_b mX4_walk) 58 = .ok (.iload 7, 2) := by decide +kernel
theorem dX4_walk_60 : decode (am_b mX4_walk) 60 = .ok (.aload_n 1, 1) := by decide +kernel
theorem dX4_walk_61 : decode (am_b mX4_walk) 61 = .ok (.arraylength, 1) := by decide +kernel
theorem dX4_walk_62 : decode (am_b mX4_walk) 62 = .ok (.if_icmp .ge 30, 3) := by decide +kernel
theorem dX4_walk_65 : decode (am_b mX4_walk) 65 = .ok (.aload_n 1, 1) := by decide +kernel
theorem dX4_walk_66 : decode (am_b mX4_walk) 66 = .ok (.iload 7, 2) := by decide +kernel
theorem dX4_walk_68 : decode (am_b mX4_walk) 68 = .ok (.iaload, 1) := by decide +kernel
theorem dX4_walk_69 : decode (am_b mX4_walk) 69 = .ok (.iload 5, 2) := by decide +kernel
theorem dX4_walk_71 : decode (am_b mX4_walk) 71 = .ok (.if_icmp .le 21, 3) := by decide +kernel
theorem dX4_walk_74 : decode (am_b mX4_walk) 74 = .ok (.iload 4, 2) := by decide +kernel
theorem dX4_walk_76 : decode (am_b mX4_walk) 76 = .ok (.iload 4, 2) := by decide +kernel
theorem dX4_walk_78 : decode (am_b mX4_walk) 78 = .ok (.iload_n 3, 1) := by decide +kernel
theorem dX4_walk_79 : decode (am_b mX4_walk) 79 = .ok (.imul, 1) := by decide +kernel
theorem dX4_walk_80 : decode (am_b mX4_walk) 80 = .ok (.bipush 100, 2) := by decide +kernel
theorem dX4_walk_82 : decode (am_b mX4_walk) 82 = .ok (.idiv, 1) := by decide +kernel
theorem dX4_walk_83 : decode (am_b mX4_walk) 83 = .ok (.isub, 1) := by decide +kernel
theorem dX4_walk_84 : decode (am_b mX4_walk) 84 = .ok (.istore 4, 2) := by decide +kernel
theorem dX4_walk_86 : decode (am_b mX4_walk) 86 = .ok (.aload_n 1, 1) := by decide +kernel
theorem dX4_walk_87 : decode (am_b mX4_walk) 87 = .ok (.iload 7, 2) := by decide +kernel
theorem dX4_walk_89 : decode (am_b mX4_walk) 89 = .ok (.iaload, 1) := by decide +kernel
theorem dX4_walk_90 : decode (am_b mX4_walk) 90 = .ok (.istore 5, 2) := by decide +kernel
theorem dX4_walk_92 : decode (am_b mX4_walk) 92 = .ok (.iinc 6 1, 3) := by decide +kernel
theorem dX4_walk_95 : decode (am_b mX4_walk) 95 = .ok (.goto (-81), 3) := by decide +kernel
theorem dX4_walk_98 : decode (am_b mX4_walk) 98 = .ok (.aload_n 0, 1) := by decide +kernel
theorem dX4_walk_99 : decode (am_b mX4_walk) 99 = .ok (.iload 4, 2) := by decide +kernel
theorem dX4_walk_101 : decode (am_b mX4_walk) 101 = .ok (.putfield 26, 3) := by decide +kernel
theorem dX4_walk_104 : decode (am_b mX4_walk) 104 = .ok (.return_, 1) := by decide +kernel
theorem dX5_clear_0 : decode (am_b mX5_clear) 0 = .ok (.iconst 0, 1) := by decide +kernel
theorem dX5_clear_1 : decode (am_b mX5_clear) 1 = .ok (.istore_n 1, 1) := by decide +kernel
theorem dX5_clear_2 : decode (am_b mX5_clear) 2 = .ok (.iload_n 1, 1) := by decide +kernel
theorem dX5_clear_3 : decode (am_b mX5_clear) 3 = .ok (.aload_n 0, 1) := by decide +kernel
theorem dX5_clear_4 : decode (am_b mX5_clear) 4 = .ok (.getfield 9, 3) := by decide +kernel
theorem dX5_clear_7 : decode (am_b mX5_clear) 7 = .ok (.arraylength, 1) := by decide +kernel
theorem dX5_clear_8 : decode (am_b mX5_clear) 8 = .ok (.if_icmp .ge 16, 3) := by decide +kernel
theorem dX5_clear_11 : decode (am_b mX5_clear) 11 = .ok (.aload_n 0, 1) := by decide +kernel
theorem dX5_clear_12 : decode (am_b mX5_clear) 12 = .ok (.getfield 9, 3) := by decide +kernel
theorem dX5_clear_15 : decode (am_b mX5_clear) 15 = .ok (.iload_n 1, 1) := by decide +kernel
theorem dX5_clear_16 : decode (am_b mX5_clear) 16 = .ok (.iconst 0, 1) := by decide +kernel
theorem dX5_clear_17 : decode (am_b mX5_clear) 17 = .ok (.iastore, 1) := by decide +kernel
theorem dX5_clear_18 : decode (am_b mX5_clear) 18 = .ok (.iinc 1 1, 3) := by decide +kernel
theorem dX5_clear_21 : decode (am_b mX5_clear) 21 = .ok (.goto (-19), 3) := by decide +kernel
theorem dX5_clear_24 : decode (am_b mX5_clear) 24 = .ok (.return_, 1) := by decide +kernel
theorem dX5_streamFrom_0 : decode (am_b mX5_streamFrom) 0 = .ok (.iload_n 1, 1) := by decide +kernel
theorem dX5_streamFrom_1 : decode (am_b mX5_streamFrom) 1 = .ok (.ifCond .eq 10, 3) := by decide +kernel
theorem dX5_streamFrom_4 : decode (am_b mX5_streamFrom) 4 = .ok (.aload_n 0, 1) := by decide +kernel
theorem dX5_streamFrom_5 : decode (am_b mX5_streamFrom) 5 = .ok (.getfield 20, 3) := by decide +kernel
theorem dX5_streamFrom_8 : decode (am_b mX5_streamFrom) 8 = .ok (.goto 7, 3) := by decide +kernel
theorem dX5_streamFrom_11 : decode (am_b mX5_streamFrom) 11 = .ok (.aload_n 0, 1) := by decide +kernel
theorem dX5_streamFrom_12 : decode (am_b mX5_streamFrom) 12 = .ok (.getfield 24, 3) := by decide +kernel
theorem dX5_streamFrom_15 : decode (am_b mX5_streamFrom) 15 = .ok (.areturn, 1) := by decide +kernel
theorem dX0_drawLots_0 : decode (am_b mX0_drawLots) 0 = .ok (.aload_n 0, 1) := by decide +kernel
theorem dX0_drawLots_1 : decode (am_b mX0_drawLots) 1 = .ok (.getfield 39, 3) := by decide +kernel
theorem dX0_drawLots_4 : decode (am_b mX0_drawLots) 4 = .ok (.astore_n 1, 1) := by decide +kernel
theorem dX0_drawLots_5 : decode (am_b mX0_drawLots) 5 = .ok (.iconst 0, 1) := by decide +kernel
theorem dX0_drawLots_6 : decode (am_b mX0_drawLots) 6 = .ok (.istore_n 2, 1) := by decide +kernel
theorem dX0_drawLots_7 : decode (am_b mX0_drawLots) 7 = .ok (.iload_n 2, 1) := by decide +kernel
theorem dX0_drawLots_8 : decode (am_b mX0_drawLots) 8 = .ok (.aload_n 1, 1) := by decide +kernel
theorem dX0_drawLots_9 : decode (am_b mX0_drawLots) 9 = .ok (.arraylength, 1) := by decide +kernel
theorem dX0_drawLots_10 : decode (am_b mX0_drawLots) 10 = .ok (.if_icmp .ge 26, 3) := by decide +kernel
theorem dX0_drawLots_13 : decode (am_b mX0_drawLots) 13 = .ok (.aload_n 1, 1) := by decide +kernel
theorem dX0_drawLots_14 : decode (am_b mX0_drawLots) 14 = .ok (.iload_n 2, 1) := by decide +kernel
theorem dX0_drawLots_15 : decode (am_b mX0_drawLots) 15 = .ok (.aload_n 0, 1) := by decide +kernel
theorem dX0_drawLots_16 : decode (am_b mX0_drawLots) 16 = .ok (.iload_n 2, 1) := by decide +kernel
theorem dX0_drawLots_17 : decode (am_b mX0_drawLots) 17 = .ok (.invokevirtual 43, 3) := by decide +kernel
theorem dX0_drawLots_20 : decode (am_b mX0_drawLots) 20 = .ok (.ifCond .eq 7, 3) := by decide +kernel
theorem dX0_drawLots_23 : decode (am_b mX0_drawLots) 23 = .ok (.iload_n 2, 1) := by decide +kernel
theorem dX0_drawLots_24 : decode (am_b mX0_drawLots) 24 = .ok (.goto 5, 3) := by decide +kernel
theorem dX0_drawLots_27 : decode (am_b mX0_drawLots) 27 = .ok (.bipush (-6), 2) := by decide +kernel
theorem dX0_drawLots_29 : decode (am_b mX0_drawLots) 29 = .ok (.iastore, 1) := by decide +kernel
theorem dX0_drawLots_30 : decode (am_b mX0_drawLots) 30 = .ok (.iinc 2 1, 3) := by decide +kernel
theorem dX0_drawLots_33 : decode (am_b mX0_drawLots) 33 = .ok (.goto (-26), 3) := by decide +kernel
theorem dX0_drawLots_36 : decode (am_b mX0_drawLots) 36 = .ok (.aload_n 0, 1) := by decide +kernel
theorem dX0_drawLots_37 : decode (am_b mX0_drawLots) 37 = .ok (.getfield 47, 3) := by decide +kernel
theorem dX0_drawLots_40 : decode (am_b mX0_drawLots) 40 = .ok (.aload_n 1, 1) := by decide +kernel
theorem dX0_drawLots_41 : decode (am_b mX0_drawLots) 41 = .ok (.arraylength, 1) := by decide +kernel
theorem dX0_drawLots_42 : decode (am_b mX0_drawLots) 42 = .ok (.invokestatic 50, 3) := by decide +kernel
theorem dX0_drawLots_45 : decode (am_b mX0_drawLots) 45 = .ok (.iconst 1, 1) := by decide +kernel
theorem dX0_drawLots_46 : decode (am_b mX0_drawLots) 46 = .ok (.isub, 1) := by decide +kernel
theorem dX0_drawLots_47 : decode (am_b mX0_drawLots) 47 = .ok (.istore_n 2, 1) := by decide +kernel
theorem dX0_drawLots_48 : decode (am_b mX0_drawLots) 48 = .ok (.iload_n 2, 1) := by decide +kernel
theorem dX0_drawLots_49 : decode (am_b mX0_drawLots) 49 = .ok (.iconst 1, 1) := by decide +kernel
theorem dX0_drawLots_50 : decode (am_b mX0_drawLots) 50 = .ok (.if_icmp .lt 43, 3) := by decide +kernel
theorem dX0_drawLots_53 : decode (am_b mX0_drawLots) 53 = .ok (.aload_n 0, 1) := by decide +kernel
theorem dX0_drawLots_54 : decode (am_b mX0_drawLots) 54 = .ok (.iload_n 2, 1) := by decide +kernel
theorem dX0_drawLots_55 : decode (am_b mX0_drawLots) 55 = .ok (.iconst 1, 1) := by decide +kernel
theorem dX0_drawLots_56 : decode (am_b mX0_drawLots) 56 = .ok (.iadd, 1) := by decide +kernel
theorem dX0_drawLots_57 : decode (am_b mX0_drawLots) 57 = .ok (.invokevirtual 19, 3) := by decide +kernel
theorem dX0_drawLots_60 : decode (am_b mX0_drawLots) 60 = .ok (.istore_n 3, 1) := by decide +kernel
theorem dX0_drawLots_61 : decode (am_b mX0_drawLots) 61 = .ok (.iload_n 3, 1) := by decide +kernel
theorem dX0_drawLots_62 : decode (am_b mX0_drawLots) 62 = .ok (.ifCond .lt 25, 3) := by decide +kernel
theorem dX0_drawLots_65 : decode (am_b mX0_drawLots) 65 = .ok (.iload_n 3, 1) := by decide +kernel
theorem dX0_drawLots_66 : decode (am_b mX0_drawLots) 66 = .ok (.aload_n 1, 1) := by decide +kernel
theorem dX0_drawLots_67 : decode (am_b mX0_drawLots) 67 = .ok (.arraylength, 1) := by decide +kernel
theorem dX0_drawLots_68 : decode (am_b mX0_drawLots) 68 = .ok (.if_icmp .ge 19, 3) := by decide +kernel
theorem dX0_drawLots_71 : decode (am_b mX0_drawLots) 71 = .ok (.aload_n 1, 1) := by decide +kernel
theorem dX0_drawLots_72 : decode (am_b mX0_drawLots) 72 = .ok (.iload_n 2, 1) := by decide +kernel
theorem dX0_drawLots_73 : decode (am_b mX0_drawLots) 73 = .ok (.iaload, 1) := by decide +kernel
theorem dX0_drawLots_74 : decode (am_b mX0_drawLots) 74 = .ok (.istore 4, 2) := by decide +kernel
theorem dX0_drawLots_76 : decode (am_b mX0_drawLots) 76 = .ok (.aload_n 1, 1) := by decide +kernel
theorem dX0_drawLots_77 : decode (am_b mX0_drawLots) 77 = .ok (.iload_n 2, 1) := by decide +kernel
theorem dX0_drawLots_78 : decode (am_b mX0_drawLots) 78 = .ok (.aload_n 1, 1) := by decide +kernel
theorem dX0_drawLots_79 : decode (am_b mX0_drawLots) 79 = .ok (.iload_n 3, 1) := by decide +kernel
theorem dX0_drawLots_80 : decode (am_b mX0_drawLots) 80 = .ok (.iaload, 1) := by decide +kernel
theorem dX0_drawLots_81 : decode (am_b mX0_drawLots) 81 = .ok (.iastore, 1) := by decide +kernel
theorem dX0_drawLots_82 : decode (am_b mX0_drawLots) 82 = .ok (.aload_n 1, 1) := by decide +kernel
theorem dX0_drawLots_83 : decode (am_b mX0_drawLots) 83 = .ok (.iload_n 3, 1) := by decide +kernel
theorem dX0_drawLots_84 : decode (am_b mX0_drawLots) 84 = .ok (.iload 4, 2) := by decide +kernel
theorem dX0_drawLots_86 : decode (am_b mX0_drawLots) 86 = .ok (.iastore, 1) := by decide +kernel
theorem dX0_drawLots_87 : decode (am_b mX0_drawLots) 87 = .ok (.iinc 2 (-1), 3) := by decide +kernel
theorem dX0_drawLots_90 : decode (am_b mX0_drawLots) 90 = .ok (.goto (-42), 3) := by decide +kernel
theorem dX0_drawLots_93 : decode (am_b mX0_drawLots) 93 = .ok (.aload_n 1, 1) := by decide +kernel
theorem dX0_drawLots_94 : decode (am_b mX0_drawLots) 94 = .ok (.iconst 0, 1) := by decide +kernel
theorem dX0_drawLots_95 : decode (am_b mX0_drawLots) 95 = .ok (.iaload, 1) := by decide +kernel
theorem dX0_drawLots_96 : decode (am_b mX0_drawLots) 96 = .ok (.istore_n 2, 1) := by decide +kernel
theorem dX0_drawLots_97 : decode (am_b mX0_drawLots) 97 = .ok (.aload_n 0, 1) := by decide +kernel
theorem dX0_drawLots_98 : decode (am_b mX0_drawLots) 98 = .ok (.iload_n 2, 1) := by decide +kernel
theorem dX0_drawLots_99 : decode (am_b mX0_drawLots) 99 = .ok (.invokevirtual 43, 3) := by decide +kernel
theorem dX0_drawLots_102 : decode (am_b mX0_drawLots) 102 = .ok (.ifCond .eq 13, 3) := by decide +kernel
theorem dX0_drawLots_105 : decode (am_b mX0_drawLots) 105 = .ok (.aload_n 0, 1) := by decide +kernel
theorem dX0_drawLots_106 : decode (am_b mX0_drawLots) 106 = .ok (.getfield 56, 3) := by decide +kernel
theorem dX0_drawLots_109 : decode (am_b mX0_drawLots) 109 = .ok (.iload_n 2, 1) := by decide +kernel
theorem dX0_drawLots_110 : decode (am_b mX0_drawLots) 110 = .ok (.dup2, 1) := by decide +kernel
theorem dX0_drawLots_111 : decode (am_b mX0_drawLots) 111 = .ok (.iaload, 1) := by decide +kernel
theorem dX0_drawLots_112 : decode (am_b mX0_drawLots) 112 = .ok (.iconst 1, 1) := by decide +kernel
theorem dX0_drawLots_113 : decode (am_b mX0_drawLots) 113 = .ok (.iadd, 1) := by decide +kernel
theorem dX0_drawLots_114 : decode (am_b mX0_drawLots) 114 = .ok (.iastore, 1) := by decide +kernel
theorem dX0_drawLots_115 : decode (am_b mX0_drawLots) 115 = .ok (.return_, 1) := by decide +kernel
theorem dX2_hasSharedPitch_0 : decode (am_b mX2_hasSharedPitch) 0 = .ok (.iconst 0, 1) := by decide +kernel
theorem dX2_hasSharedPitch_1 : decode (am_b mX2_hasSharedPitch) 1 = .ok (.istore_n 1, 1) := by decide +kernel
theorem dX2_hasSharedPitch_2 : decode (am_b mX2_hasSharedPitch) 2 = .ok (.iconst 0, 1) := by decide +kernel
theorem dX2_hasSharedPitch_3 : decode (am_b mX2_hasSharedPitch) 3 = .ok (.istore_n 2, 1) := by decide +kernel
theorem dX2_hasSharedPitch_4 : decode (am_b mX2_hasSharedPitch) 4 = .ok (.iload_n 2, 1) := by decide +kernel
theorem dX2_hasSharedPitch_5 : decode (am_b mX2_hasSharedPitch) 5 = .ok (.aload_n 0, 1) := by decide +kernel
theorem dX2_hasSharedPitch_6 : decode (am_b mX2_hasSharedPitch) 6 = .ok (.getfield 32, 3) := by decide +kernel
theorem dX2_hasSharedPitch_9 : decode (am_b mX2_hasSharedPitch) 9 = .ok (.if_icmp .ge 48, 3) := by decide +kernel
theorem dX2_hasSharedPitch_12 : decode (am_b mX2_hasSharedPitch) 12 = .ok (.iload_n 2, 1) := by decide +kernel
theorem dX2_hasSharedPitch_13 : decode (am_b mX2_hasSharedPitch) 13 = .ok (.bipush 8, 2) := by decide +kernel
theorem dX2_hasSharedPitch_15 : decode (am_b mX2_hasSharedPitch) 15 = .ok (.if_icmp .ge 42, 3) := by decide +kernel
theorem dX2_hasSharedPitch_18 : decode (am_b mX2_hasSharedPitch) 18 = .ok (.aload_n 0, 1) := by decide +kernel
theorem dX2_hasSharedPitch_19 : decode (am_b mX2_hasSharedPitch) 19 = .ok (.getfield 19, 3) := by decide +kernel
theorem dX2_hasSharedPitch_22 : decode (am_b mX2_hasSharedPitch) 22 = .ok (.iload_n 2, 1) := by decide +kernel
theorem dX2_hasSharedPitch_23 : decode (am_b mX2_hasSharedPitch) 23 = .ok (.iaload, 1) := by decide +kernel
theorem dX2_hasSharedPitch_24 : decode (am_b mX2_hasSharedPitch) 24 = .ok (.invokestatic 53, 3) := by decide +kernel
theorem dX2_hasSharedPitch_27 : decode (am_b mX2_hasSharedPitch) 27 = .ok (.ifCond .eq 24, 3) := by decide +kernel
theorem dX2_hasSharedPitch_30 : decode (am_b mX2_hasSharedPitch) 30 = .ok (.iconst 1, 1) := by decide +kernel
theorem dX2_hasSharedPitch_31 : decode (am_b mX2_hasSharedPitch) 31 = .ok (.aload_n 0, 1) := by decide +kernel
theorem dX2_hasSharedPitch_32 : decode (am_b mX2_hasSharedPitch) 32 = .ok (.getfield 19, 3) := by decide +kernel
theorem dX2_hasSharedPitch_35 : decode (am_b mX2_hasSharedPitch) 35 = .ok (.iload_n 2, 1) := by decide +kernel
theorem dX2_hasSharedPitch_36 : decode (am_b mX2_hasSharedPitch) 36 = .ok (.iaload, 1) := by decide +kernel
theorem dX2_hasSharedPitch_37 : decode (am_b mX2_hasSharedPitch) 37 = .ok (.ishl, 1) := by decide +kernel
theorem dX2_hasSharedPitch_38 : decode (am_b mX2_hasSharedPitch) 38 = .ok (.istore_n 3, 1) := by decide +kernel
theorem dX2_hasSharedPitch_39 : decode (am_b mX2_hasSharedPitch) 39 = .ok (.iload_n 1, 1) := by decide +kernel
theorem dX2_hasSharedPitch_40 : decode (am_b mX2_hasSharedPitch) 40 = .ok (.iload_n 3, 1) := by decide +kernel
theorem dX2_hasSharedPitch_41 : decode (am_b mX2_hasSharedPitch) 41 = .ok (.iand, 1) := by decide +kernel
theorem dX2_hasSharedPitch_42 : decode (am_b mX2_hasSharedPitch) 42 = .ok (.ifCond .eq 5, 3) := by decide +kernel
theorem dX2_hasSharedPitch_45 : decode (am_b mX2_hasSharedPitch) 45 = .ok (.iconst 1, 1) := by decide +kernel
theorem dX2_hasSharedPitch_46 : decode (am_b mX2_hasSharedPitch) 46 = .ok (.ireturn, 1) := by decide +kernel
theorem dX2_hasSharedPitch_47 : decode (am_b mX2_hasSharedPitch) 47 = .ok (.iload_n 1, 1) := by decide +kernel
theorem dX2_hasSharedPitch_48 : decode (am_b mX2_hasSharedPitch) 48 = .ok (.iload_n 3, 1) := by decide +kernel
theorem dX2_hasSharedPitch_49 : decode (am_b mX2_hasSharedPitch) 49 = .ok (.ior, 1) := by decide +kernel
theorem dX2_hasSharedPitch_50 : decode (am_b mX2_hasSharedPitch) 50 = .ok (.istore_n 1, 1) := by decide +kernel
theorem dX2_hasSharedPitch_51 : decode (am_b mX2_hasSharedPitch) 51 = .ok (.iinc 2 1, 3) := by decide +kernel
theorem dX2_hasSharedPitch_54 : decode (am_b mX2_hasSharedPitch) 54 = .ok (.goto (-50), 3) := by decide +kernel
theorem dX2_hasSharedPitch_57 : decode (am_b mX2_hasSharedPitch) 57 = .ok (.iconst 0, 1) := by decide +kernel
theorem dX2_hasSharedPitch_58 : decode (am_b mX2_hasSharedPitch) 58 = .ok (.ireturn, 1) := by decide +kernel
theorem dX2_readFirstDigit_0 : decode (am_b mX2_readFirstDigit) 0 = .ok (.iload_n 1, 1) := by decide +kernel
theorem dX2_readFirstDigit_1 : decode (am_b mX2_readFirstDigit) 1 = .ok (.bipush 48, 2) := by decide +kernel
theorem dX2_readFirstDigit_3 : decode (am_b mX2_readFirstDigit) 3 = .ok (.if_icmp .lt 9, 3) := by decide +kernel
theorem dX2_readFirstDigit_6 : decode (am_b mX2_readFirstDigit) 6 = .ok (.iload_n 1, 1) := by decide +kernel
theorem dX2_readFirstDigit_7 : decode (am_b mX2_readFirstDigit) 7 = .ok (.bipush 57, 2) := by decide +kernel
theorem dX2_readFirstDigit_9 : decode (am_b mX2_readFirstDigit) 9 = .ok (.if_icmp .le 5, 3) := by decide +kernel
theorem dX2_readFirstDigit_12 : decode (am_b mX2_readFirstDigit) 12 = .ok (.iconst (-1), 1) := by decide +kernel
theorem dX2_readFirstDigit_13 : decode (am_b mX2_readFirstDigit) 13 = .ok (.ireturn, 1) := by decide +kernel
theorem dX2_readFirstDigit_14 : decode (am_b mX2_readFirstDigit) 14 = .ok (.aload_n 0, 1) := by decide +kernel
theorem dX2_readFirstDigit_15 : decode (am_b mX2_readFirstDigit) 15 = .ok (.iload_n 1, 1) := by decide +kernel
theorem dX2_readFirstDigit_16 : decode (am_b mX2_readFirstDigit) 16 = .ok (.bipush 48, 2) := by decide +kernel
theorem dX2_readFirstDigit_18 : decode (am_b mX2_readFirstDigit) 18 = .ok (.isub, 1) := by decide +kernel
theorem dX2_readFirstDigit_19 : decode (am_b mX2_readFirstDigit) 19 = .ok (.invokevirtual 49, 3) := by decide +kernel
theorem dX2_readFirstDigit_22 : decode (am_b mX2_readFirstDigit) 22 = .ok (.pop, 1) := by decide +kernel
theorem dX2_readFirstDigit_23 : decode (am_b mX2_readFirstDigit) 23 = .ok (.iload_n 1, 1) := by decide +kernel
theorem dX2_readFirstDigit_24 : decode (am_b mX2_readFirstDigit) 24 = .ok (.bipush 49, 2) := by decide +kernel
theorem dX2_readFirstDigit_26 : decode (am_b mX2_readFirstDigit) 26 = .ok (.if_icmp .ne 7, 3) := by decide +kernel
theorem dX2_readFirstDigit_29 : decode (am_b mX2_readFirstDigit) 29 = .ok (.iconst 3, 1) := by decide +kernel
theorem dX2_readFirstDigit_30 : decode (am_b mX2_readFirstDigit) 30 = .ok (.goto 4, 3) := by decide +kernel
theorem dX2_readFirstDigit_33 : decode (am_b mX2_readFirstDigit) 33 = .ok (.iconst 4, 1) := by decide +kernel
theorem dX2_readFirstDigit_34 : decode (am_b mX2_readFirstDigit) 34 = .ok (.ireturn, 1) := by decide +kernel
theorem dX3_closeUp_0 : decode (am_b mX3_closeUp) 0 = .ok (.iload_n 1, 1) := by decide +kernel
theorem dX3_closeUp_1 : decode (am_b mX3_closeUp) 1 = .ok (.iconst 0, 1) := by decide +kernel
theorem dX3_closeUp_2 : decode (am_b mX3_closeUp) 2 = .ok (.invokestatic 85, 3) := by decide +kernel
theorem dX3_closeUp_5 : decode (am_b mX3_closeUp) 5 = .ok (.istore_n 2, 1) := by decide +kernel
theorem dX3_closeUp_6 : decode (am_b mX3_closeUp) 6 = .ok (.iload_n 2, 1) := by decide +kernel
theorem dX3_closeUp_7 : decode (am_b mX3_closeUp) 7 = .ok (.aload_n 0, 1) := by decide +kernel
theorem dX3_closeUp_8 : decode (am_b mX3_closeUp) 8 = .ok (.arraylength, 1) := by decide +kernel
theorem dX3_closeUp_9 : decode (am_b mX3_closeUp) 9 = .ok (.iconst 1, 1) := by decide +kernel
theorem dX3_closeUp_10 : decode (am_b mX3_closeUp) 10 = .ok (.isub, 1) := by decide +kernel
theorem dX3_closeUp_11 : decode (am_b mX3_closeUp) 11 = .ok (.if_icmp .ge 17, 3) := by decide +kernel
theorem dX3_closeUp_14 : decode (am_b mX3_closeUp) 14 = .ok (.aload_n 0, 1) := by decide +kernel
theorem dX3_closeUp_15 : decode (am_b mX3_closeUp) 15 = .ok (.iload_n 2, 1) := by decide +kernel
theorem dX3_closeUp_16 : decode (am_b mX3_closeUp) 16 = .ok (.aload_n 0, 1) := by decide +kernel
theorem dX3_closeUp_17 : decode (am_b mX3_closeUp) 17 = .ok (.iload_n 2, 1) := by decide +kernel
theorem dX3_closeUp_18 : decode (am_b mX3_closeUp) 18 = .ok (.iconst 1, 1) := by decide +kernel
theorem dX3_closeUp_19 : decode (am_b mX3_closeUp) 19 = .ok (.iadd, 1) := by decide +kernel
theorem dX3_closeUp_20 : decode (am_b mX3_closeUp) 20 = .ok (.iaload, 1) := by decide +kernel
theorem dX3_closeUp_21 : decode (am_b mX3_closeUp) 21 = .ok (.iastore, 1) := by decide +kernel
theorem dX3_closeUp_22 : decode (am_b mX3_closeUp) 22 = .ok (.iinc 2 1, 3) := by decide +kernel
theorem dX3_closeUp_25 : decode (am_b mX3_closeUp) 25 = .ok (.goto (-19), 3) := by decide +kernel
theorem dX3_closeUp_28 : decode (am_b mX3_closeUp) 28 = .ok (.return_, 1) := by decide +kernel
theorem dX3_copyFrom_0 : decode (am_b mX3_copyFrom) 0 = .ok (.aload_n 1, 1) := by decide +kernel
theorem dX3_copyFrom_1 : decode (am_b mX3_copyFrom) 1 = .ok (.getfield 13, 3) := by decide +kernel
theorem dX3_copyFrom_4 : decode (am_b mX3_copyFrom) 4 = .ok (.aload_n 0, 1) := by decide +kernel
theorem dX3_copyFrom_5 : decode (am_b mX3_copyFrom) 5 = .ok (.getfield 13, 3) := by decide +kernel
theorem dX3_copyFrom_8 : decode (am_b mX3_copyFrom) 8 = .ok (.invokestatic 44, 3) := by decide +kernel
theorem dX3_copyFrom_11 : decode (am_b mX3_copyFrom) 11 = .ok (.aload_n 0, 1) := by decide +kernel
theorem dX3_copyFrom_12 : decode (am_b mX3_copyFrom) 12 = .ok (.aload_n 1, 1) := by decide +kernel
theorem dX3_copyFrom_13 : decode (am_b mX3_copyFrom) 13 = .ok (.getfield 18, 3) := by decide +kernel
theorem dX3_copyFrom_16 : decode (am_b mX3_copyFrom) 16 = .ok (.putfield 18, 3) := by decide +kernel
theorem dX3_copyFrom_19 : decode (am_b mX3_copyFrom) 19 = .ok (.aload_n 0, 1) := by decide +kernel
theorem dX3_copyFrom_20 : decode (am_b mX3_copyFrom) 20 = .ok (.aload_n 1, 1) := by decide +kernel
theorem dX3_copyFrom_21 : decode (am_b mX3_copyFrom) 21 = .ok (.getfield 22, 3) := by decide +kernel
theorem dX3_copyFrom_24 : decode (am_b mX3_copyFrom) 24 = .ok (.putfield 22, 3) := by decide +kernel
theorem dX3_copyFrom_27 : decode (am_b mX3_copyFrom) 27 = .ok (.aload_n 0, 1) := by decide +kernel
theorem dX3_copyFrom_28 : decode (am_b mX3_copyFrom) 28 = .ok (.aload_n 1, 1) := by decide +kernel
theorem dX3_copyFrom_29 : decode (am_b mX3_copyFrom) 29 = .ok (.getfield 51, 3) := by decide +kernel
theorem dX3_copyFrom_32 : decode (am_b mX3_copyFrom) 32 = .ok (.putfield 51, 3) := by decide +kernel
theorem dX3_copyFrom_35 : decode (am_b mX3_copyFrom) 35 = .ok (.aload_n 0, 1) := by decide +kernel
theorem dX3_copyFrom_36 : decode (am_b mX3_copyFrom) 36 = .ok (.aload_n 1, 1) := by decide +kernel
theorem dX3_copyFrom_37 : decode (am_b mX3_copyFrom) 37 = .ok (.getfield 54, 3) := by decide +kernel
theorem dX3_copyFrom_40 : decode (am_b mX3_copyFrom) 40 = .ok (.putfield 54, 3) := by decide +kernel
theorem dX3_copyFrom_43 : decode (am_b mX3_copyFrom) 43 = .ok (.aload_n 0, 1) := by decide +kernel
theorem dX3_copyFrom_44 : decode (am_b mX3_copyFrom) 44 = .ok (.aload_n 1, 1) := by decide +kernel
theorem dX3_copyFrom_45 : decode (am_b mX3_copyFrom) 45 = .ok (.getfield 57, 3) := by decide +kernel
theorem dX3_copyFrom_48 : decode (am_b mX3_copyFrom) 48 = .ok (.putfield 57, 3) := by decide +kernel
theorem dX3_copyFrom_51 : decode (am_b mX3_copyFrom) 51 = .ok (.aload_n 0, 1) := by decide +kernel
theorem dX3_copyFrom_52 : decode (am_b mX3_copyFrom) 52 = .ok (.aload_n 1, 1) := by decide +kernel
theorem dX3_copyFrom_53 : decode (am_b mX3_copyFrom) 53 = .ok (.getfield 60, 3) := by decide +kernel
theorem dX3_copyFrom_56 : decode (am_b mX3_copyFrom) 56 = .ok (.putfield 60, 3) := by decide +kernel
theorem dX3_copyFrom_59 : decode (am_b mX3_copyFrom) 59 = .ok (.aload_n 1, 1) := by decide +kernel
theorem dX3_copyFrom_60 : decode (am_b mX3_copyFrom) 60 = .ok (.getfield 26, 3) := by decide +kernel
theorem dX3_copyFrom_63 : decode (am_b mX3_copyFrom) 63 = .ok (.aload_n 0, 1) := by decide +kernel
theorem dX3_copyFrom_64 : decode (am_b mX3_copyFrom) 64 = .ok (.getfield 26, 3) := by decide +kernel
theorem dX3_copyFrom_67 : decode (am_b mX3_copyFrom) 67 = .ok (.invokestatic 44, 3) := by decide +kernel
theorem dX3_copyFrom_70 : decode (am_b mX3_copyFrom) 70 = .ok (.aload_n 1, 1) := by decide +kernel
theorem dX3_copyFrom_71 : decode (am_b mX3_copyFrom) 71 = .ok (.getfield 29, 3) := by decide +kernel
theorem dX3_copyFrom_74 : decode (am_b mX3_copyFrom) 74 = .ok (.aload_n 0, 1) := by decide +kernel
theorem dX3_copyFrom_75 : decode (am_b mX3_copyFrom) 75 = .ok (.getfield 29, 3) := by decide +kernel
theorem dX3_copyFrom_78 : decode (am_b mX3_copyFrom) 78 = .ok (.invokestatic 44, 3) := by decide +kernel
theorem dX3_copyFrom_81 : decode (am_b mX3_copyFrom) 81 = .ok (.aload_n 1, 1) := by decide +kernel
theorem dX3_copyFrom_82 : decode (am_b mX3_copyFrom) 82 = .ok (.getfield 32, 3) := by decide +kernel
theorem dX3_copyFrom_85 : decode (am_b mX3_copyFrom) 85 = .ok (.aload_n 0, 1) := by decide +kernel
theorem dX3_copyFrom_86 : decode (am_b mX3_copyFrom) 86 = .ok (.getfield 32, 3) := by decide +kernel
theorem dX3_copyFrom_89 : decode (am_b mX3_copyFrom) 89 = .ok (.invokestatic 44, 3) := by decide +kernel
theorem dX3_copyFrom_92 : decode (am_b mX3_copyFrom) 92 = .ok (.aload_n 1, 1) := by decide +kernel
theorem dX3_copyFrom_93 : decode (am_b mX3_copyFrom) 93 = .ok (.getfield 35, 3) := by decide +kernel
theorem dX3_copyFrom_96 : decode (am_b mX3_copyFrom) 96 = .ok (.aload_n 0, 1) := by decide +kernel
theorem dX3_copyFrom_97 : decode (am_b mX3_copyFrom) 97 = .ok (.getfield 35, 3) := by decide +kernel
theorem dX3_copyFrom_100 : decode (am_b mX3_copyFrom) 100 = .ok (.invokestatic 44, 3) := by decide +kernel
theorem dX3_copyFrom_103 : decode (am_b mX3_copyFrom) 103 = .ok (.aload_n 1, 1) := by decide +kernel
theorem dX3_copyFrom_104 : decode (am_b mX3_copyFrom) 104 = .ok (.getfield 38, 3) := by decide +kernel
theorem dX3_copyFrom_107 : decode (am_b mX3_copyFrom) 107 = .ok (.aload_n 0, 1) := by decide +kernel
theorem dX3_copyFrom_108 : decode (am_b mX3_copyFrom) 108 = .ok (.getfield 38, 3) := by decide +kernel
theorem dX3_copyFrom_111 : decode (am_b mX3_copyFrom) 111 = .ok (.invokestatic 44, 3) := by decide +kernel
theorem dX3_copyFrom_114 : decode (am_b mX3_copyFrom) 114 = .ok (.aload_n 1, 1) := by decide +kernel
theorem dX3_copyFrom_115 : decode (am_b mX3_copyFrom) 115 = .ok (.getfield 41, 3) := by decide +kernel
theorem dX3_copyFrom_118 : decode (am_b mX3_copyFrom) 118 = .ok (.aload_n 0, 1) := by decide +kernel
theorem dX3_copyFrom_119 : decode (am_b mX3_copyFrom) 119 = .ok (.getfield 41, 3) := by decide +kernel
theorem dX3_copyFrom_122 : decode (am_b mX3_copyFrom) 122 = .ok (.invokestatic 44, 3) := by decide +kernel
theorem dX3_copyFrom_125 : decode (am_b mX3_copyFrom) 125 = .ok (.return_, 1) := by decide +kernel
theorem dX3_forgetBooths_0 : decode (am_b mX3_forgetBooths) 0 = .ok (.aload_n 0, 1) := by decide +kernel
theorem dX3_forgetBooths_1 : decode (am_b mX3_forgetBooths) 1 = .ok (.iconst 0, 1) := by decide +kernel
theorem dX3_forgetBooths_2 : decode (am_b mX3_forgetBooths) 2 = .ok (.putfield 60, 3) := by decide +kernel
theorem dX3_forgetBooths_5 : decode (am_b mX3_forgetBooths) 5 = .ok (.aload_n 0, 1) := by decide +kernel
theorem dX3_forgetBooths_6 : decode (am_b mX3_forgetBooths) 6 = .ok (.invokevirtual 48, 3) := by decide +kernel
theorem dX3_forgetBooths_9 : decode (am_b mX3_forgetBooths) 9 = .ok (.return_, 1) := by decide +kernel
theorem dX3_init_0 : decode (am_b mX3_init) 0 = .ok (.aload_n 0, 1) := by decide +kernel
theorem dX3_init_1 : decode (am_b mX3_init) 1 = .ok (.invokespecial 3, 3) := by decide +kernel
theorem dX3_init_4 : decode (am_b mX3_init) 4 = .ok (.aload_n 0, 1) := by decide +kernel
theorem dX3_init_5 : decode (am_b mX3_init) 5 = .ok (.getstatic 9, 3) := by decide +kernel
theorem dX3_init_8 : decode (am_b mX3_init) 8 = .ok (.arraylength, 1) := by decide +kernel
theorem dX3_init_9 : decode (am_b mX3_init) 9 = .ok (.newarray .int, 2) := by decide +kernel
theorem dX3_init_11 : decode (am_b mX3_init) 11 = .ok (.putfield 13, 3) := by decide +kernel
theorem dX3_init_14 : decode (am_b mX3_init) 14 = .ok (.aload_n 0, 1) := by decide +kernel
theorem dX3_init_15 : decode (am_b mX3_init) 15 = .ok (.lconst 1, 1) := by decide +kernel
theorem dX3_init_16 : decode (am_b mX3_init) 16 = .ok (.putfield 18, 3) := by decide +kernel
theorem dX3_init_19 : decode (am_b mX3_init) 19 = .ok (.aload_n 0, 1) := by decide +kernel
theorem dX3_init_20 : decode (am_b mX3_init) 20 = .ok (.bipush 48, 2) := by decide +kernel
theorem dX3_init_22 : decode (am_b mX3_init) 22 = .ok (.putfield 22, 3) := by decide +kernel
theorem dX3_init_25 : decode (am_b mX3_init) 25 = .ok (.aload_n 0, 1) := by decide +kernel
theorem dX3_init_26 : decode (am_b mX3_init) 26 = .ok (.bipush 8, 2) := by decide +kernel
theorem dX3_init_28 : decode (am_b mX3_init) 28 = .ok (.newarray .int, 2) := by decide +kernel
theorem dX3_init_30 : decode (am_b mX3_init) 30 = .ok (.putfield 26, 3) := by decide +kernel
theorem dX3_init_33 : decode (am_b mX3_init) 33 = .ok (.aload_n 0, 1) := by decide +kernel
theorem dX3_init_34 : decode (am_b mX3_init) 34 = .ok (.bipush 8, 2) := by decide +kernel
theorem dX3_init_36 : decode (am_b mX3_init) 36 = .ok (.newarray .int, 2) := by decide +kernel
theorem dX3_init_38 : decode (am_b mX3_init) 38 = .ok (.putfield 29, 3) := by decide +kernel
theorem dX3_init_41 : decode (am_b mX3_init) 41 = .ok (.aload_n 0, 1) := by decide +kernel
theorem dX3_init_42 : decode (am_b mX3_init) 42 = .ok (.bipush 8, 2) := by decide +kernel
theorem dX3_init_44 : decode (am_b mX3_init) 44 = .ok (.newarray .int, 2) := by decide +kernel
theorem dX3_init_46 : decode (am_b mX3_init) 46 = .ok (.putfield 32, 3) := by decide +kernel
theorem dX3_init_49 : decode (am_b mX3_init) 49 = .ok (.aload_n 0, 1) := by decide +kernel
theorem dX3_init_50 : decode (am_b mX3_init) 50 = .ok (.bipush 8, 2) := by decide +kernel
theorem dX3_init_52 : decode (am_b mX3_init) 52 = .ok (.newarray .int, 2) := by decide +kernel
theorem dX3_init_54 : decode (am_b mX3_init) 54 = .ok (.putfield 35, 3) := by decide +kernel
theorem dX3_init_57 : decode (am_b mX3_init) 57 = .ok (.aload_n 0, 1) := by decide +kernel
theorem dX3_init_58 : decode (am_b mX3_init) 58 = .ok (.bipush 8, 2) := by decide +kernel
theorem dX3_init_60 : decode (am_b mX3_init) 60 = .ok (.newarray .int, 2) := by decide +kernel
theorem dX3_init_62 : decode (am_b mX3_init) 62 = .ok (.putfield 38, 3) := by decide +kernel
theorem dX3_init_65 : decode (am_b mX3_init) 65 = .ok (.aload_n 0, 1) := by decide +kernel
theorem dX3_init_66 : decode (am_b mX3_init) 66 = .ok (.bipush 8, 2) := by decide +kernel
theorem dX3_init_68 : decode (am_b mX3_init) 68 = .ok (.newarray .int, 2) := by decide +kernel
theorem dX3_init_70 : decode (am_b mX3_init) 70 = .ok (.putfield 41, 3) := by decide +kernel
theorem dX3_init_73 : decode (am_b mX3_init) 73 = .ok (.getstatic 9, 3) := by decide +kernel
theorem dX3_init_76 : decode (am_b mX3_init) 76 = .ok (.aload_n 0, 1) := by decide +kernel
theorem dX3_init_77 : decode (am_b mX3_init) 77 = .ok (.getfield 13, 3) := by decide +kernel
theorem dX3_init_80 : decode (am_b mX3_init) 80 = .ok (.invokestatic 44, 3) := by decide +kernel
theorem dX3_init_83 : decode (am_b mX3_init) 83 = .ok (.aload_n 0, 1) := by decide +kernel
theorem dX3_init_84 : decode (am_b mX3_init) 84 = .ok (.invokevirtual 48, 3) := by decide +kernel
theorem dX3_init_87 : decode (am_b mX3_init) 87 = .ok (.return_, 1) := by decide +kernel
theorem dX3_isRoofed_0 : decode (am_b mX3_isRoofed) 0 = .ok (.iload_n 1, 1) := by decide +kernel
theorem dX3_isRoofed_1 : decode (am_b mX3_isRoofed) 1 = .ok (.invokestatic 63, 3) := by decide +kernel
theorem dX3_isRoofed_4 : decode (am_b mX3_isRoofed) 4 = .ok (.ifCond .eq 19, 3) := by decide +kernel
theorem dX3_isRoofed_7 : decode (am_b mX3_isRoofed) 7 = .ok (.aload_n 0, 1) := by decide +kernel
theorem dX3_isRoofed_8 : decode (am_b mX3_isRoofed) 8 = .ok (.getfield 22, 3) := by decide +kernel
theorem dX3_isRoofed_11 : decode (am_b mX3_isRoofed) 11 = .ok (.iload_n 1, 1) := by decide +kernel
theorem dX3_isRoofed_12 : decode (am_b mX3_isRoofed) 12 = .ok (.ishr, 1) := by decide +kernel
theorem dX3_isRoofed_13 : decode (am_b mX3_isRoofed) 13 = .ok (.iconst 1, 1) := by decide +kernel
theorem dX3_isRoofed_14 : decode (am_b mX3_isRoofed) 14 = .ok (.iand, 1) := by decide +kernel
theorem dX3_isRoofed_15 : decode (am_b mX3_isRoofed) 15 = .ok (.iconst 1, 1) := by decide +kernel
theorem dX3_isRoofed_16 : decode (am_b mX3_isRoofed) 16 = .ok (.if_icmp .ne 7, 3) := by decide +kernel
theorem dX3_isRoofed_19 : decode (am_b mX3_isRoofed) 19 = .ok (.iconst 1, 1) := by decide +kernel
theorem dX3_isRoofed_20 : decode (am_b mX3_isRoofed) 20 = .ok (.goto 4, 3) := by decide +kernel
theorem dX3_isRoofed_23 : decode (am_b mX3_isRoofed) 23 = .ok (.iconst 0, 1) := by decide +kernel
theorem dX3_isRoofed_24 : decode (am_b mX3_isRoofed) 24 = .ok (.ireturn, 1) := by decide +kernel
theorem dX3_isStanding_0 : decode (am_b mX3_isStanding) 0 = .ok (.aload_n 0, 1) := by decide +kernel
theorem dX3_isStanding_1 : decode (am_b mX3_isStanding) 1 = .ok (.iload_n 1, 1) := by decide +kernel
theorem dX3_isStanding_2 : decode (am_b mX3_isStanding) 2 = .ok (.invokevirtual 67, 3) := by decide +kernel
theorem dX3_isStanding_5 : decode (am_b mX3_isStanding) 5 = .ok (.ifCond .eq 18, 3) := by decide +kernel
theorem dX3_isStanding_8 : decode (am_b mX3_isStanding) 8 = .ok (.aload_n 0, 1) := by decide +kernel
theorem dX3_isStanding_9 : decode (am_b mX3_isStanding) 9 = .ok (.getfield 29, 3) := by decide +kernel
theorem dX3_isStanding_12 : decode (am_b mX3_isStanding) 12 = .ok (.iload_n 1, 1) := by decide +kernel
theorem dX3_isStanding_13 : decode (am_b mX3_isStanding) 13 = .ok (.iaload, 1) := by decide +kernel
theorem dX3_isStanding_14 : decode (am_b mX3_isStanding) 14 = .ok (.bipush (-6), 2) := by decide +kernel
theorem dX3_isStanding_16 : decode (am_b mX3_isStanding) 16 = .ok (.if_icmp .eq 7, 3) := by decide +kernel
theorem dX3_isStanding_19 : decode (am_b mX3_isStanding) 19 = .ok (.iconst 1, 1) := by decide +kernel
theorem dX3_isStanding_20 : decode (am_b mX3_isStanding) 20 = .ok (.goto 4, 3) := by decide +kernel
theorem dX3_isStanding_23 : decode (am_b mX3_isStanding) 23 = .ok (.iconst 0, 1) := by decide +kernel
theorem dX3_isStanding_24 : decode (am_b mX3_isStanding) 24 = .ok (.ireturn, 1) := by decide +kernel
theorem dX4_isSeen_0 : decode (am_b mX4_isSeen) 0 = .ok (.iload_n 1, 1) := by decide +kernel
theorem dX4_isSeen_1 : decode (am_b mX4_isSeen) 1 = .ok (.invokestatic 29, 3) := by decide +kernel
theorem dX4_isSeen_4 : decode (am_b mX4_isSeen) 4 = .ok (.ifCond .eq 17, 3) := by decide +kernel
theorem dX4_isSeen_7 : decode (am_b mX4_isSeen) 7 = .ok (.iload_n 2, 1) := by decide +kernel
theorem dX4_isSeen_8 : decode (am_b mX4_isSeen) 8 = .ok (.aload_n 0, 1) := by decide +kernel
theorem dX4_isSeen_9 : decode (am_b mX4_isSeen) 9 = .ok (.getfield 15, 3) := by decide +kernel
theorem dX4_isSeen_12 : decode (am_b mX4_isSeen) 12 = .ok (.iload_n 1, 1) := by decide +kernel
theorem dX4_isSeen_13 : decode (am_b mX4_isSeen) 13 = .ok (.iaload, 1) := by decide +kernel
theorem dX4_isSeen_14 : decode (am_b mX4_isSeen) 14 = .ok (.if_icmp .le 7, 3) := by decide +kernel
theorem dX4_isSeen_17 : decode (am_b mX4_isSeen) 17 = .ok (.iconst 1, 1) := by decide +kernel
theorem dX4_isSeen_18 : decode (am_b mX4_isSeen) 18 = .ok (.goto 4, 3) := by decide +kernel
theorem dX4_isSeen_21 : decode (am_b mX4_isSeen) 21 = .ok (.iconst 0, 1) := by decide +kernel
theorem dX4_isSeen_22 : decode (am_b mX4_isSeen) 22 = .ok (.ireturn, 1) := by decide +kernel
theorem dX5_init_0 : decode (am_b mX5_init) 0 = .ok (.aload_n 0, 1) := by decide +kernel
theorem dX5_init_1 : decode (am_b mX5_init) 1 = .ok (.invokespecial 3, 3) := by decide +kernel
theorem dX5_init_4 : decode (am_b mX5_init) 4 = .ok (.aload_n 0, 1) := by decide +kernel
theorem dX5_init_5 : decode (am_b mX5_init) 5 = .ok (.bipush 12, 2) := by decide +kernel
theorem dX5_init_7 : decode (am_b mX5_init) 7 = .ok (.newarray .int, 2) := by decide +kernel
theorem dX5_init_9 : decode (am_b mX5_init) 9 = .ok (.putfield 9, 3) := by decide +kernel
theorem dX5_init_12 : decode (am_b mX5_init) 12 = .ok (.aload_n 0, 1) := by decide +kernel
theorem dX5_init_13 : decode (am_b mX5_init) 13 = .ok (.new 15, 3) := by decide +kernel
theorem dX5_init_16 : decode (am_b mX5_init) 16 = .ok (.dup, 1) := by decide +kernel
theorem dX5_init_17 : decode (am_b mX5_init) 17 = .ok (.iconst 1, 1) := by decide +kernel
theorem dX5_init_18 : decode (am_b mX5_init) 18 = .ok (.invokespecial 17, 3) := by decide +kernel
theorem dX5_init_21 : decode (am_b mX5_init) 21 = .ok (.putfield 20, 3) := by decide +kernel
theorem dX5_init_24 : decode (am_b mX5_init) 24 = .ok (.aload_n 0, 1) := by decide +kernel
theorem dX5_init_25 : decode (am_b mX5_init) 25 = .ok (.new 15, 3) := by decide +kernel
theorem dX5_init_28 : decode (am_b mX5_init) 28 = .ok (.dup, 1) := by decide +kernel
theorem dX5_init_29 : decode (am_b mX5_init) 29 = .ok (.iconst 0, 1) := by decide +kernel
theorem dX5_init_30 : decode (am_b mX5_init) 30 = .ok (.invokespecial 17, 3) := by decide +kernel
theorem dX5_init_33 : decode (am_b mX5_init) 33 = .ok (.putfield 24, 3) := by decide +kernel
theorem dX5_init_36 : decode (am_b mX5_init) 36 = .ok (.return_, 1) := by decide +kernel
theorem dX5_isOpen_0 : decode (am_b mX5_isOpen) 0 = .ok (.iconst 0, 1) := by decide +kernel
theorem dX5_isOpen_1 : decode (am_b mX5_isOpen) 1 = .ok (.istore_n 3, 1) := by decide +kernel
theorem dX5_isOpen_2 : decode (am_b mX5_isOpen) 2 = .ok (.iload_n 3, 1) := by decide +kernel
theorem dX5_isOpen_3 : decode (am_b mX5_isOpen) 3 = .ok (.aload_n 0, 1) := by decide +kernel
theorem dX5_isOpen_4 : decode (am_b mX5_isOpen) 4 = .ok (.getfield 9, 3) := by decide +kernel
theorem dX5_isOpen_7 : decode (am_b mX5_isOpen) 7 = .ok (.arraylength, 1) := by decide +kernel
theorem dX5_isOpen_8 : decode (am_b mX5_isOpen) 8 = .ok (.if_icmp .ge 30, 3) := by decide +kernel
theorem dX5_isOpen_11 : decode (am_b mX5_isOpen) 11 = .ok (.aload_n 0, 1) := by decide +kernel
theorem dX5_isOpen_12 : decode (am_b mX5_isOpen) 12 = .ok (.getfield 9, 3) := by decide +kernel
theorem dX5_isOpen_15 : decode (am_b mX5_isOpen) 15 = .ok (.iload_n 3, 1) := by decide +kernel
theorem dX5_isOpen_16 : decode (am_b mX5_isOpen) 16 = .ok (.iaload, 1) := by decide +kernel
theorem dX5_isOpen_17 : decode (am_b mX5_isOpen) 17 = .ok (.ifCond .le 15, 3) := by decide +kernel
theorem dX5_isOpen_20 : decode (am_b mX5_isOpen) 20 = .ok (.iload_n 3, 1) := by decide +kernel
theorem dX5_isOpen_21 : decode (am_b mX5_isOpen) 21 = .ok (.iload_n 1, 1) := by decide +kernel
theorem dX5_isOpen_22 : decode (am_b mX5_isOpen) 22 = .ok (.isub, 1) := by decide +kernel
theorem dX5_isOpen_23 : decode (am_b mX5_isOpen) 23 = .ok (.invokestatic 65, 3) := by decide +kernel
theorem dX5_isOpen_26 : decode (am_b mX5_isOpen) 26 = .ok (.iload_n 2, 1) := by decide +kernel
theorem dX5_isOpen_27 : decode (am_b mX5_isOpen) 27 = .ok (.if_icmp .gt 5, 3) := by decide +kernel
theorem dX5_isOpen_30 : decode (am_b mX5_isOpen) 30 = .ok (.iconst 0, 1) := by decide +kernel
theorem dX5_isOpen_31 : decode (am_b mX5_isOpen) 31 = .ok (.ireturn, 1) := by decide +kernel
theorem dX5_isOpen_32 : decode (am_b mX5_isOpen) 32 = .ok (.iinc 3 1, 3) := by decide +kernel
theorem dX5_isOpen_35 : decode (am_b mX5_isOpen) 35 = .ok (.goto (-33), 3) := by decide +kernel
theorem dX5_isOpen_38 : decode (am_b mX5_isOpen) 38 = .ok (.iconst 1, 1) := by decide +kernel
theorem dX5_isOpen_39 : decode (am_b mX5_isOpen) 39 = .ok (.ireturn, 1) := by decide +kernel
theorem dX5_letPeoplePass_0 : decode (am_b mX5_letPeoplePass) 0 = .ok (.aload_n 0, 1) := by decide +kernel
theorem dX5_letPeoplePass_1 : decode (am_b mX5_letPeoplePass) 1 = .ok (.getfield 20, 3) := by decide +kernel
theorem dX5_letPeoplePass_4 : decode (am_b mX5_letPeoplePass) 4 = .ok (.aload_n 0, 1) := by decide +kernel
theorem dX5_letPeoplePass_5 : decode (am_b mX5_letPeoplePass) 5 = .ok (.getfield 9, 3) := by decide +kernel
theorem dX5_letPeoplePass_8 : decode (am_b mX5_letPeoplePass) 8 = .ok (.aload_n 1, 1) := by decide +kernel
theorem dX5_letPeoplePass_9 : decode (am_b mX5_letPeoplePass) 9 = .ok (.iconst 0, 1) := by decide +kernel
theorem dX5_letPeoplePass_10 : decode (am_b mX5_letPeoplePass) 10 = .ok (.invokevirtual 53, 3) := by decide +kernel
theorem dX5_letPeoplePass_13 : decode (am_b mX5_letPeoplePass) 13 = .ok (.aload_n 1, 1) := by decide +kernel
theorem dX5_letPeoplePass_14 : decode (am_b mX5_letPeoplePass) 14 = .ok (.iconst 2, 1) := by decide +kernel
theorem dX5_letPeoplePass_15 : decode (am_b mX5_letPeoplePass) 15 = .ok (.invokevirtual 53, 3) := by decide +kernel
theorem dX5_letPeoplePass_18 : decode (am_b mX5_letPeoplePass) 18 = .ok (.invokevirtual 57, 3) := by decide +kernel
theorem dX5_letPeoplePass_21 : decode (am_b mX5_letPeoplePass) 21 = .ok (.aload_n 0, 1) := by decide +kernel
theorem dX5_letPeoplePass_22 : decode (am_b mX5_letPeoplePass) 22 = .ok (.getfield 24, 3) := by decide +kernel
theorem dX5_letPeoplePass_25 : decode (am_b mX5_letPeoplePass) 25 = .ok (.aload_n 0, 1) := by decide +kernel
theorem dX5_letPeoplePass_26 : decode (am_b mX5_letPeoplePass) 26 = .ok (.getfield 9, 3) := by decide +kernel
theorem dX5_letPeoplePass_29 : decode (am_b mX5_letPeoplePass) 29 = .ok (.aload_n 1, 1) := by decide +kernel
theorem dX5_letPeoplePass_30 : decode (am_b mX5_letPeoplePass) 30 = .ok (.iconst 1, 1) := by decide +kernel
theorem dX5_letPeoplePass_31 : decode (am_b mX5_letPeoplePass) 31 = .ok (.invokevirtual 53, 3) := by decide +kernel
theorem dX5_letPeoplePass_34 : decode (am_b mX5_letPeoplePass) 34 = .ok (.aload_n 1, 1) := by decide +kernel
theorem dX5_letPeoplePass_35 : decode (am_b mX5_letPeoplePass) 35 = .ok (.iconst 2, 1) := by decide +kernel
theorem dX5_letPeoplePass_36 : decode (am_b mX5_letPeoplePass) 36 = .ok (.invokevirtual 53, 3) := by decide +kernel
theorem dX5_letPeoplePass_39 : decode (am_b mX5_letPeoplePass) 39 = .ok (.invokevirtual 57, 3) := by decide +kernel
theorem dX5_letPeoplePass_42 : decode (am_b mX5_letPeoplePass) 42 = .ok (.return_, 1) := by decide +kernel
theorem dX5_raise_0 : decode (am_b mX5_raise) 0 = .ok (.iload_n 1, 1) := by decide +kernel
theorem dX5_raise_1 : decode (am_b mX5_raise) 1 = .ok (.invokestatic 50, 3) := by decide +kernel
theorem dX5_raise_4 : decode (am_b mX5_raise) 4 = .ok (.ifCond .eq 10, 3) := by decide +kernel
theorem dX5_raise_7 : decode (am_b mX5_raise) 7 = .ok (.aload_n 0, 1) := by decide +kernel
theorem dX5_raise_8 : decode (am_b mX5_raise) 8 = .ok (.getfield 9, 3) := by decide +kernel
theorem dX5_raise_11 : decode (am_b mX5_raise) 11 = .ok (.iload_n 1, 1) := by decide +kernel
theorem dX5_raise_12 : decode (am_b mX5_raise) 12 = .ok (.iload_n 2, 1) := by decide +kernel
theorem dX5_raise_13 : decode (am_b mX5_raise) 13 = .ok (.iastore, 1) := by decide +kernel
theorem dX5_raise_14 : decode (am_b mX5_raise) 14 = .ok (.return_, 1) := by decide +kernel
theorem dX1_record_0 : decode (am_b mX1_record) 0 = .ok (.aload_n 0, 1) := by decide +kernel
theorem dX1_record_1 : decode (am_b mX1_record) 1 = .ok (.getfield 17, 3) := by decide +kernel
theorem dX1_record_4 : decode (am_b mX1_record) 4 = .ok (.ifCond .lt 15, 3) := by decide +kernel
theorem dX1_record_7 : decode (am_b mX1_record) 7 = .ok (.aload_n 0, 1) := by decide +kernel
theorem dX1_record_8 : decode (am_b mX1_record) 8 = .ok (.getfield 17, 3) := by decide +kernel
theorem dX1_record_11 : decode (am_b mX1_record) 11 = .ok (.aload_n 0, 1) := by decide +kernel
theorem dX1_record_12 : decode (am_b mX1_record) 12 = .ok (.getfield 11, 3) := by decide +kernel
theorem dX1_record_15 : decode (am_b mX1_record) 15 = .ok (.arraylength, 1) := by decide +kernel
theorem dX1_record_16 : decode (am_b mX1_record) 16 = .ok (.if_icmp .lt 4, 3) := by decide +kernel
theorem dX1_record_19 : decode (am_b mX1_record) 19 = .ok (.return_, 1) := by decide +kernel
theorem dX1_record_20 : decode (am_b mX1_record) 20 = .ok (.aload_n 0, 1) := by decide +kernel
theorem dX1_record_21 : decode (am_b mX1_record) 21 = .ok (.getfield 11, 3) := by decide +kernel
theorem dX1_record_24 : decode (am_b mX1_record) 24 = .ok (.aload_n 0, 1) := by decide +kernel
theorem dX1_record_25 : decode (am_b mX1_record) 25 = .ok (.getfield 17, 3) := by decide +kernel
theorem dX1_record_28 : decode (am_b mX1_record) 28 = .ok (.aaload, 1) := by decide +kernel
theorem dX1_record_29 : decode (am_b mX1_record) 29 = .ok (.ifnonnull 19, 3) := by decide +kernel
theorem dX1_record_32 : decode (am_b mX1_record) 32 = .ok (.aload_n 0, 1) := by decide +kernel
theorem dX1_record_33 : decode (am_b mX1_record) 33 = .ok (.getfield 11, 3) := by decide +kernel
theorem dX1_record_36 : decode (am_b mX1_record) 36 = .ok (.aload_n 0, 1) := by decide +kernel
theorem dX1_record_37 : decode (am_b mX1_record) 37 = .ok (.getfield 17, 3) := by decide +kernel
theorem dX1_record_40 : decode (am_b mX1_record) 40 = .ok (.new 9, 3) := by decide +kernel
theorem dX1_record_43 : decode (am_b mX1_record) 43 = .ok (.dup, 1) := by decide +kernel
theorem dX1_record_44 : decode (am_b mX1_record) 44 = .ok (.invokespecial 21, 3) := by decide +kernel
theorem dX1_record_47 : decode (am_b mX1_record) 47 = .ok (.aastore, 1) := by decide +kernel
theorem dX1_record_48 : decode (am_b mX1_record) 48 = .ok (.aload_n 0, 1) := by decide +kernel
theorem dX1_record_49 : decode (am_b mX1_record) 49 = .ok (.getfield 11, 3) := by decide +kernel
theorem dX1_record_52 : decode (am_b mX1_record) 52 = .ok (.aload_n 0, 1) := by decide +kernel
theorem dX1_record_53 : decode (am_b mX1_record) 53 = .ok (.getfield 17, 3) := by decide +kernel
theorem dX1_record_56 : decode (am_b mX1_record) 56 = .ok (.aaload, 1) := by decide +kernel
theorem dX1_record_57 : decode (am_b mX1_record) 57 = .ok (.aload_n 1, 1) := by decide +kernel
theorem dX1_record_58 : decode (am_b mX1_record) 58 = .ok (.invokevirtual 22, 3) := by decide +kernel
theorem dX1_record_61 : decode (am_b mX1_record) 61 = .ok (.aload_n 0, 1) := by decide +kernel
theorem dX1_record_62 : decode (am_b mX1_record) 62 = .ok (.aload_n 0, 1) := by decide +kernel
theorem dX1_record_63 : decode (am_b mX1_record) 63 = .ok (.getfield 17, 3) := by decide +kernel
theorem dX1_record_66 : decode (am_b mX1_record) 66 = .ok (.iconst 1, 1) := by decide +kernel
theorem dX1_record_67 : decode (am_b mX1_record) 67 = .ok (.iadd, 1) := by decide +kernel
theorem dX1_record_68 : decode (am_b mX1_record) 68 = .ok (.aload_n 0, 1) := by decide +kernel
theorem dX1_record_69 : decode (am_b mX1_record) 69 = .ok (.getfield 11, 3) := by decide +kernel
theorem dX1_record_72 : decode (am_b mX1_record) 72 = .ok (.arraylength, 1) := by decide +kernel
theorem dX1_record_73 : decode (am_b mX1_record) 73 = .ok (.if_icmp .ge 12, 3) := by decide +kernel
theorem dX1_record_76 : decode (am_b mX1_record) 76 = .ok (.aload_n 0, 1) := by decide +kernel
theorem dX1_record_77 : decode (am_b mX1_record) 77 = .ok (.getfield 17, 3) := by decide +kernel
theorem dX1_record_80 : decode (am_b mX1_record) 80 = .ok (.iconst 1, 1) := by decide +kernel
theorem dX1_record_81 : decode (am_b mX1_record) 81 = .ok (.iadd, 1) := by decide +kernel
theorem dX1_record_82 : decode (am_b mX1_record) 82 = .ok (.goto 4, 3) := by decide +kernel
theorem dX1_record_85 : decode (am_b mX1_record) 85 = .ok (.iconst 0, 1) := by decide +kernel
theorem dX1_record_86 : decode (am_b mX1_record) 86 = .ok (.putfield 17, 3) := by decide +kernel
theorem dX1_record_89 : decode (am_b mX1_record) 89 = .ok (.aload_n 0, 1) := by decide +kernel
theorem dX1_record_90 : decode (am_b mX1_record) 90 = .ok (.aload_n 0, 1) := by decide +kernel
theorem dX1_record_91 : decode (am_b mX1_record) 91 = .ok (.getfield 26, 3) := by decide +kernel
theorem dX1_record_94 : decode (am_b mX1_record) 94 = .ok (.iconst 1, 1) := by decide +kernel
theorem dX1_record_95 : decode (am_b mX1_record) 95 = .ok (.iadd, 1) := by decide +kernel
theorem dX1_record_96 : decode (am_b mX1_record) 96 = .ok (.aload_n 0, 1) := by decide +kernel
theorem dX1_record_97 : decode (am_b mX1_record) 97 = .ok (.getfield 11, 3) := by decide +kernel
theorem dX1_record_100 : decode (am_b mX1_record) 100 = .ok (.arraylength, 1) := by decide +kernel
theorem dX1_record_101 : decode (am_b mX1_record) 101 = .ok (.invokestatic 29, 3) := by decide +kernel
theorem dX1_record_104 : decode (am_b mX1_record) 104 = .ok (.putfield 26, 3) := by decide +kernel
theorem dX1_record_107 : decode (am_b mX1_record) 107 = .ok (.return_, 1) := by decide +kernel
theorem dX1_takeBack_0 : decode (am_b mX1_takeBack) 0 = .ok (.aload_n 0, 1) := by decide +kernel
theorem dX1_takeBack_1 : decode (am_b mX1_takeBack) 1 = .ok (.getfield 17, 3) := by decide +kernel
theorem dX1_takeBack_4 : decode (am_b mX1_takeBack) 4 = .ok (.ifCond .le 12, 3) := by decide +kernel
theorem dX1_takeBack_7 : decode (am_b mX1_takeBack) 7 = .ok (.aload_n 0, 1) := by decide +kernel
theorem dX1_takeBack_8 : decode (am_b mX1_takeBack) 8 = .ok (.getfield 17, 3) := by decide +kernel
theorem dX1_takeBack_11 : decode (am_b mX1_takeBack) 11 = .ok (.iconst 1, 1) := by decide +kernel
theorem dX1_takeBack_12 : decode (am_b mX1_takeBack) 12 = .ok (.isub, 1) := by decide +kernel
theorem dX1_takeBack_13 : decode (am_b mX1_takeBack) 13 = .ok (.goto 10, 3) := by decide +kernel
theorem dX1_takeBack_16 : decode (am_b mX1_takeBack) 16 = .ok (.aload_n 0, 1) := by decide +kernel
theorem dX1_takeBack_17 : decode (am_b mX1_takeBack) 17 = .ok (.getfield 11, 3) := by decide +kernel
theorem dX1_takeBack_20 : decode (am_b mX1_takeBack) 20 = .ok (.arraylength, 1) := by decide +kernel
theorem dX1_takeBack_21 : decode (am_b mX1_takeBack) 21 = .ok (.iconst 1, 1) := by decide +kernel
theorem dX1_takeBack_22 : decode (am_b mX1_takeBack) 22 = .ok (.isub, 1) := by decide +kernel
theorem dX1_takeBack_23 : decode (am_b mX1_takeBack) 23 = .ok (.istore_n 2, 1) := by decide +kernel
theorem dX1_takeBack_24 : decode (am_b mX1_takeBack) 24 = .ok (.aload_n 0, 1) := by decide +kernel
theorem dX1_takeBack_25 : decode (am_b mX1_takeBack) 25 = .ok (.getfield 26, 3) := by decide +kernel
theorem dX1_takeBack_28 : decode (am_b mX1_takeBack) 28 = .ok (.iconst 1, 1) := by decide +kernel
theorem dX1_takeBack_29 : decode (am_b mX1_takeBack) 29 = .ok (.if_icmp .lt 21, 3) := by decide +kernel
theorem dX1_takeBack_32 : decode (am_b mX1_takeBack) 32 = .ok (.iload_n 2, 1) := by decide +kernel
theorem dX1_takeBack_33 : decode (am_b mX1_takeBack) 33 = .ok (.aload_n 0, 1) := by decide +kernel
theorem dX1_takeBack_34 : decode (am_b mX1_takeBack) 34 = .ok (.getfield 11, 3) := by decide +kernel
theorem dX1_takeBack_37 : decode (am_b mX1_takeBack) 37 = .ok (.arraylength, 1) := by decide +kernel
theorem dX1_takeBack_38 : decode (am_b mX1_takeBack) 38 = .ok (.if_icmp .ge 12, 3) := by decide +kernel
theorem dX1_takeBack_41 : decode (am_b mX1_takeBack) 41 = .ok (.aload_n 0, 1) := by decide +kernel
theorem dX1_takeBack_42 : decode (am_b mX1_takeBack) 42 = .ok (.getfield 11, 3) := by decide +kernel
theorem dX1_takeBack_45 : decode (am_b mX1_takeBack) 45 = .ok (.iload_n 2, 1) := by decide +kernel
theorem dX1_takeBack_46 : decode (am_b mX1_takeBack) 46 = .ok (.aaload, 1) := by decide +kernel
theorem dX1_takeBack_47 : decode (am_b mX1_takeBack) 47 = .ok (.ifnonnull 4, 3) := by decide +kernel
theorem dX1_takeBack_50 : decode (am_b mX1_takeBack) 50 = .ok (.return_, 1) := by decide +kernel
theorem dX1_takeBack_51 : decode (am_b mX1_takeBack) 51 = .ok (.aload_n 1, 1) := by decide +kernel
theorem dX1_takeBack_52 : decode (am_b mX1_takeBack) 52 = .ok (.aload_n 0, 1) := by decide +kernel
theorem dX1_takeBack_53 : decode (am_b mX1_takeBack) 53 = .ok (.getfield 11, 3) := by decide +kernel
theorem dX1_takeBack_56 : decode (am_b mX1_takeBack) 56 = .ok (.iload_n 2, 1) := by decide +kernel
theorem dX1_takeBack_57 : decode (am_b mX1_takeBack) 57 = .ok (.aaload, 1) := by decide +kernel
theorem dX1_takeBack_58 : decode (am_b mX1_takeBack) 58 = .ok (.invokevirtual 22, 3) := by decide +kernel
theorem dX1_takeBack_61 : decode (am_b mX1_takeBack) 61 = .ok (.aload_n 0, 1) := by decide +kernel
theorem dX1_takeBack_62 : decode (am_b mX1_takeBack) 62 = .ok (.iload_n 2, 1) := by decide +kernel
theorem dX1_takeBack_63 : decode (am_b mX1_takeBack) 63 = .ok (.putfield 17, 3) := by decide +kernel
theorem dX1_takeBack_66 : decode (am_b mX1_takeBack) 66 = .ok (.aload_n 0, 1) := by decide +kernel
theorem dX1_takeBack_67 : decode (am_b mX1_takeBack) 67 = .ok (.dup, 1) := by decide +kernel
theorem dX1_takeBack_68 : decode (am_b mX1_takeBack) 68 = .ok (.getfield 26, 3) := by decide +kernel
theorem dX1_takeBack_71 : decode (am_b mX1_takeBack) 71 = .ok (.iconst 1, 1) := by decide +kernel
theorem dX1_takeBack_72 : decode (am_b mX1_takeBack) 72 = .ok (.isub, 1) := by decide +kernel
theorem dX1_takeBack_73 : decode (am_b mX1_takeBack) 73 = .ok (.putfield 26, 3) := by decide +kernel
theorem dX1_takeBack_76 : decode (am_b mX1_takeBack) 76 = .ok (.return_, 1) := by decide +kernel
theorem dX2_stageAfter_0 : decode (am_b mX2_stageAfter) 0 = .ok (.iload_n 1, 1) := by decide +kernel
theorem dX2_stageAfter_1 : decode (am_b mX2_stageAfter) 1 = .ok (.tableswitch 101 0 4 #[35, 41, 57, 63, 95], 35) := by decide +kernel
theorem dX2_stageAfter_36 : decode (am_b mX2_stageAfter) 36 = .ok (.aload_n 0, 1) := by decide +kernel
theorem dX2_stageAfter_37 : decode (am_b mX2_stageAfter) 37 = .ok (.iload_n 2, 1) := by decide +kernel
theorem dX2_stageAfter_38 : decode (am_b mX2_stageAfter) 38 = .ok (.invokevirtual 39, 3) := by decide +kernel
theorem dX2_stageAfter_41 : decode (am_b mX2_stageAfter) 41 = .ok (.ireturn, 1) := by decide +kernel
theorem dX2_stageAfter_42 : decode (am_b mX2_stageAfter) 42 = .ok (.iload_n 2, 1) := by decide +kernel
theorem dX2_stageAfter_43 : decode (am_b mX2_stageAfter) 43 = .ok (.bipush 64, 2) := by decide +kernel
theorem dX2_stageAfter_45 : decode (am_b mX2_stageAfter) 45 = .ok (.if_icmp .ne 7, 3) := by decide +kernel
theorem dX2_stageAfter_48 : decode (am_b mX2_stageAfter) 48 = .ok (.iconst 2, 1) := by decide +kernel
theorem dX2_stageAfter_49 : decode (am_b mX2_stageAfter) 49 = .ok (.goto 8, 3) := by decide +kernel
theorem dX2_stageAfter_52 : decode (am_b mX2_stageAfter) 52 = .ok (.aload_n 0, 1) := by decide +kernel
theorem dX2_stageAfter_53 : decode (am_b mX2_stageAfter) 53 = .ok (.iload_n 2, 1) := by decide +kernel
theorem dX2_stageAfter_54 : decode (am_b mX2_stageAfter) 54 = .ok (.invokevirtual 43, 3) := by decide +kernel
theorem dX2_stageAfter_57 : decode (am_b mX2_stageAfter) 57 = .ok (.ireturn, 1) := by decide +kernel
theorem dX2_stageAfter_58 : decode (am_b mX2_stageAfter) 58 = .ok (.aload_n 0, 1) := by decide +kernel
theorem dX2_stageAfter_59 : decode (am_b mX2_stageAfter) 59 = .ok (.iload_n 2, 1) := by decide +kernel
theorem dX2_stageAfter_60 : decode (am_b mX2_stageAfter) 60 = .ok (.invokevirtual 46, 3) := by decide +kernel
theorem dX2_stageAfter_63 : decode (am_b mX2_stageAfter) 63 = .ok (.ireturn, 1) := by decide +kernel
theorem dX2_stageAfter_64 : decode (am_b mX2_stageAfter) 64 = .ok (.iload_n 2, 1) := by decide +kernel
theorem dX2_stageAfter_65 : decode (am_b mX2_stageAfter) 65 = .ok (.bipush 48, 2) := by decide +kernel
theorem dX2_stageAfter_67 : decode (am_b mX2_stageAfter) 67 = .ok (.if_icmp .eq 9, 3) := by decide +kernel
theorem dX2_stageAfter_70 : decode (am_b mX2_stageAfter) 70 = .ok (.iload_n 2, 1) := by decide +kernel
theorem dX2_stageAfter_71 : decode (am_b mX2_stageAfter) 71 = .ok (.bipush 49, 2) := by decide +kernel
theorem dX2_stageAfter_73 : decode (am_b mX2_stageAfter) 73 = .ok (.if_icmp .ne 17, 3) := by decide +kernel
theorem dX2_stageAfter_76 : decode (am_b mX2_stageAfter) 76 = .ok (.aload_n 0, 1) := by decide +kernel
theorem dX2_stageAfter_77 : decode (am_b mX2_stageAfter) 77 = .ok (.bipush 10, 2) := by decide +kernel
theorem dX2_stageAfter_79 : decode (am_b mX2_stageAfter) 79 = .ok (.iload_n 2, 1) := by decide +kernel
theorem dX2_stageAfter_80 : decode (am_b mX2_stageAfter) 80 = .ok (.iadd, 1) := by decide +kernel
theorem dX2_stageAfter_81 : decode (am_b mX2_stageAfter) 81 = .ok (.bipush 48, 2) := by decide +kernel
theorem dX2_stageAfter_83 : decode (am_b mX2_stageAfter) 83 = .ok (.isub, 1) := by decide +kernel
theorem dX2_stageAfter_84 : decode (am_b mX2_stageAfter) 84 = .ok (.invokevirtual 49, 3) := by decide +kernel
theorem dX2_stageAfter_87 : decode (am_b mX2_stageAfter) 87 = .ok (.goto 8, 3) := by decide +kernel
theorem dX2_stageAfter_90 : decode (am_b mX2_stageAfter) 90 = .ok (.aload_n 0, 1) := by decide +kernel
theorem dX2_stageAfter_91 : decode (am_b mX2_stageAfter) 91 = .ok (.iload_n 2, 1) := by decide +kernel
theorem dX2_stageAfter_92 : decode (am_b mX2_stageAfter) 92 = .ok (.invokevirtual 43, 3) := by decide +kernel
theorem dX2_stageAfter_95 : decode (am_b mX2_stageAfter) 95 = .ok (.ireturn, 1) := by decide +kernel
theorem dX2_stageAfter_96 : decode (am_b mX2_stageAfter) 96 = .ok (.aload_n 0, 1) := by decide +kernel
theorem dX2_stageAfter_97 : decode (am_b mX2_stageAfter) 97 = .ok (.iload_n 2, 1) := by decide +kernel
theorem dX2_stageAfter_98 : decode (am_b mX2_stageAfter) 98 = .ok (.invokevirtual 43, 3) := by decide +kernel
theorem dX2_stageAfter_101 : decode (am_b mX2_stageAfter) 101 = .ok (.ireturn, 1) := by decide +kernel
theorem dX2_stageAfter_102 : decode (am_b mX2_stageAfter) 102 = .ok (.iconst (-1), 1) := by decide +kernel
theorem dX2_stageAfter_103 : decode (am_b mX2_stageAfter) 103 = .ok (.ireturn, 1) := by decide +kernel
theorem dX3_boothAt_0 : decode (am_b mX3_boothAt) 0 = .ok (.iconst 0, 1) := by decide +kernel
theorem dX3_boothAt_1 : decode (am_b mX3_boothAt) 1 = .ok (.istore_n 2, 1) := by decide +kernel
theorem dX3_boothAt_2 : decode (am_b mX3_boothAt) 2 = .ok (.iload_n 2, 1) := by decide +kernel
theorem dX3_boothAt_3 : decode (am_b mX3_boothAt) 3 = .ok (.bipush 8, 2) := by decide +kernel
theorem dX3_boothAt_5 : decode (am_b mX3_boothAt) 5 = .ok (.if_icmp .ge 29, 3) := by decide +kernel
theorem dX3_boothAt_8 : decode (am_b mX3_boothAt) 8 = .ok (.aload_n 0, 1) := by decide +kernel
theorem dX3_boothAt_9 : decode (am_b mX3_boothAt) 9 = .ok (.iload_n 2, 1) := by decide +kernel
theorem dX3_boothAt_10 : decode (am_b mX3_boothAt) 10 = .ok (.invokevirtual 70, 3) := by decide +kernel
theorem dX3_boothAt_13 : decode (am_b mX3_boothAt) 13 = .ok (.ifCond .eq 15, 3) := by decide +kernel
theorem dX3_boothAt_16 : decode (am_b mX3_boothAt) 16 = .ok (.aload_n 0, 1) := by decide +kernel
theorem dX3_boothAt_17 : decode (am_b mX3_boothAt) 17 = .ok (.getfield 29, 3) := by decide +kernel
theorem dX3_boothAt_20 : decode (am_b mX3_boothAt) 20 = .ok (.iload_n 2, 1) := by decide +kernel
theorem dX3_boothAt_21 : decode (am_b mX3_boothAt) 21 = .ok (.iaload, 1) := by decide +kernel
theorem dX3_boothAt_22 : decode (am_b mX3_boothAt) 22 = .ok (.iload_n 1, 1) := by decide +kernel
theorem dX3_boothAt_23 : decode (am_b mX3_boothAt) 23 = .ok (.if_icmp .ne 5, 3) := by decide +kernel
theorem dX3_boothAt_26 : decode (am_b mX3_boothAt) 26 = .ok (.iload_n 2, 1) := by decide +kernel
theorem dX3_boothAt_27 : decode (am_b mX3_boothAt) 27 = .ok (.ireturn, 1) := by decide +kernel
theorem dX3_boothAt_28 : decode (am_b mX3_boothAt) 28 = .ok (.iinc 2 1, 3) := by decide +kernel
theorem dX3_boothAt_31 : decode (am_b mX3_boothAt) 31 = .ok (.goto (-29), 3) := by decide +kernel
theorem dX3_boothAt_34 : decode (am_b mX3_boothAt) 34 = .ok (.bipush (-6), 2) := by decide +kernel
theorem dX3_boothAt_36 : decode (am_b mX3_boothAt) 36 = .ok (.ireturn, 1) := by decide +kernel
theorem dX3_countStanding_0 : decode (am_b mX3_countStanding) 0 = .ok (.iconst 0, 1) := by decide +kernel
theorem dX3_countStanding_1 : decode (am_b mX3_countStanding) 1 = .ok (.istore_n 1, 1) := by decide +kernel
theorem dX3_countStanding_2 : decode (am_b mX3_countStanding) 2 = .ok (.iconst 0, 1) := by decide +kernel
theorem dX3_countStanding_3 : decode (am_b mX3_countStanding) 3 = .ok (.istore_n 2, 1) := by decide +kernel
theorem dX3_countStanding_4 : decode (am_b mX3_countStanding) 4 = .ok (.iload_n 2, 1) := by decide +kernel
theorem dX3_countStanding_5 : decode (am_b mX3_countStanding) 5 = .ok (.bipush 8, 2) := by decide +kernel
theorem dX3_countStanding_7 : decode (am_b mX3_countStanding) 7 = .ok (.if_icmp .ge 20, 3) := by decide +kernel
theorem dX3_countStanding_10 : decode (am_b mX3_countStanding) 10 = .ok (.aload_n 0, 1) := by decide +kernel
theorem dX3_countStanding_11 : decode (am_b mX3_countStanding) 11 = .ok (.iload_n 2, 1) := by decide +kernel
theorem dX3_countStanding_12 : decode (am_b mX3_countStanding) 12 = .ok (.invokevirtual 70, 3) := by decide +kernel
theorem dX3_countStanding_15 : decode (am_b mX3_countStanding) 15 = .ok (.ifCond .eq 6, 3) := by decide +kernel
theorem dX3_countStanding_18 : decode (am_b mX3_countStanding) 18 = .ok (.iinc 1 1, 3) := by decide +kernel
theorem dX3_countStanding_21 : decode (am_b mX3_countStanding) 21 = .ok (.iinc 2 1, 3) := by decide +kernel
theorem dX3_countStanding_24 : decode (am_b mX3_countStanding) 24 = .ok (.goto (-20), 3) := by decide +kernel
theorem dX3_countStanding_27 : decode (am_b mX3_countStanding) 27 = .ok (.iload_n 1, 1) := by decide +kernel
theorem dX3_countStanding_28 : decode (am_b mX3_countStanding) 28 = .ok (.ireturn, 1) := by decide +kernel
theorem dX3_hides_0 : decode (am_b mX3_hides) 0 = .ok (.aload_n 0, 1) := by decide +kernel
theorem dX3_hides_1 : decode (am_b mX3_hides) 1 = .ok (.iload_n 1, 1) := by decide +kernel
theorem dX3_hides_2 : decode (am_b mX3_hides) 2 = .ok (.invokevirtual 70, 3) := by decide +kernel
theorem dX3_hides_5 : decode (am_b mX3_hides) 5 = .ok (.ifCond .eq 26, 3) := by decide +kernel
theorem dX3_hides_8 : decode (am_b mX3_hides) 8 = .ok (.aload_n 0, 1) := by decide +kernel
theorem dX3_hides_9 : decode (am_b mX3_hides) 9 = .ok (.iload_n 2, 1) := by decide +kernel
theorem dX3_hides_10 : decode (am_b mX3_hides) 10 = .ok (.invokevirtual 70, 3) := by decide +kernel
theorem dX3_hides_13 : decode (am_b mX3_hides) 13 = .ok (.ifCond .eq 18, 3) := by decide +kernel
theorem dX3_hides_16 : decode (am_b mX3_hides) 16 = .ok (.aload_n 0, 1) := by decide +kernel
theorem dX3_hides_17 : decode (am_b mX3_hides) 17 = .ok (.getfield 26, 3) := by decide +kernel
theorem dX3_hides_20 : decode (am_b mX3_hides) 20 = .ok (.iload_n 1, 1) := by decide +kernel
theorem dX3_hides_21 : decode (am_b mX3_hides) 21 = .ok (.iaload, 1) := by decide +kernel
theorem dX3_hides_22 : decode (am_b mX3_hides) 22 = .ok (.aload_n 0, 1) := by decide +kernel
theorem dX3_hides_23 : decode (am_b mX3_hides) 23 = .ok (.getfield 26, 3) := by decide +kernel
theorem dX3_hides_26 : decode (am_b mX3_hides) 26 = .ok (.iload_n 2, 1) := by decide +kernel
theorem dX3_hides_27 : decode (am_b mX3_hides) 27 = .ok (.iaload, 1) := by decide +kernel
theorem dX3_hides_28 : decode (am_b mX3_hides) 28 = .ok (.if_icmp .ge 5, 3) := by decide +kernel
theorem dX3_hides_31 : decode (am_b mX3_hides) 31 = .ok (.iconst 0, 1) := by decide +kernel
theorem dX3_hides_32 : decode (am_b mX3_hides) 32 = .ok (.ireturn, 1) := by decide +kernel
theorem dX3_hides_33 : decode (am_b mX3_hides) 33 = .ok (.iload_n 3, 1) := by decide +kernel
theorem dX3_hides_34 : decode (am_b mX3_hides) 34 = .ok (.ifCond .eq 26, 3) := by decide +kernel
theorem dX3_hides_37 : decode (am_b mX3_hides) 37 = .ok (.aload_n 0, 1) := by decide +kernel
theorem dX3_hides_38 : decode (am_b mX3_hides) 38 = .ok (.getfield 29, 3) := by decide +kernel
theorem dX3_hides_41 : decode (am_b mX3_hides) 41 = .ok (.iload_n 1, 1) := by decide +kernel
theorem dX3_hides_42 : decode (am_b mX3_hides) 42 = .ok (.iaload, 1) := by decide +kernel
theorem dX3_hides_43 : decode (am_b mX3_hides) 43 = .ok (.aload_n 0, 1) := by decide +kernel
theorem dX3_hides_44 : decode (am_b mX3_hides) 44 = .ok (.getfield 29, 3) := by decide +kernel
theorem dX3_hides_47 : decode (am_b mX3_hides) 47 = .ok (.iload_n 2, 1) := by decide +kernel
theorem dX3_hides_48 : decode (am_b mX3_hides) 48 = .ok (.iaload, 1) := by decide +kernel
theorem dX3_hides_49 : decode (am_b mX3_hides) 49 = .ok (.if_icmp .ge 7, 3) := by decide +kernel
theorem dX3_hides_52 : decode (am_b mX3_hides) 52 = .ok (.iconst 1, 1) := by decide +kernel
theorem dX3_hides_53 : decode (am_b mX3_hides) 53 = .ok (.goto 27, 3) := by decide +kernel
theorem dX3_hides_56 : decode (am_b mX3_hides) 56 = .ok (.iconst 0, 1) := by decide +kernel
theorem dX3_hides_57 : decode (am_b mX3_hides) 57 = .ok (.goto 23, 3) := by decide +kernel
theorem dX3_hides_60 : decode (am_b mX3_hides) 60 = .ok (.aload_n 0, 1) := by decide +kernel
theorem dX3_hides_61 : decode (am_b mX3_hides) 61 = .ok (.getfield 29, 3) := by decide +kernel
theorem dX3_hides_64 : decode (am_b mX3_hides) 64 = .ok (.iload_n 1, 1) := by decide +kernel
theorem dX3_hides_65 : decode (am_b mX3_hides) 65 = .ok (.iaload, 1) := by decide +kernel
theorem dX3_hides_66 : decode (am_b mX3_hides) 66 = .ok (.aload_n 0, 1) := by decide +kernel
theorem dX3_hides_67 : decode (am_b mX3_hides) 67 = .ok (.getfield 29, 3) := by decide +kernel
theorem dX3_hides_70 : decode (am_b mX3_hides) 70 = .ok (.iload_n 2, 1) := by decide +kernel
theorem dX3_hides_71 : decode (am_b mX3_hides) 71 = .ok (.iaload, 1) := by decide +kernel
theorem dX3_hides_72 : decode (am_b mX3_hides) 72 = .ok (.if_icmp .le 7, 3) := by decide +kernel
theorem dX3_hides_75 : decode (am_b mX3_hides) 75 = .ok (.iconst 1, 1) := by decide +kernel
theorem dX3_hides_76 : decode (am_b mX3_hides) 76 = .ok (.goto 4, 3) := by decide +kernel
theorem dX3_hides_79 : decode (am_b mX3_hides) 79 = .ok (.iconst 0, 1) := by decide +kernel
theorem dX3_hides_80 : decode (am_b mX3_hides) 80 = .ok (.ireturn, 1) := by decide +kernel
theorem dX3_removeBooth_0 : decode (am_b mX3_removeBooth) 0 = .ok (.aload_n 0, 1) := by decide +kernel
theorem dX3_removeBooth_1 : decode (am_b mX3_removeBooth) 1 = .ok (.iload_n 1, 1) := by decide +kernel
theorem dX3_removeBooth_2 : decode (am_b mX3_removeBooth) 2 = .ok (.invokevirtual 67, 3) := by decide +kernel
theorem dX3_removeBooth_5 : decode (am_b mX3_removeBooth) 5 = .ok (.ifCond .ne 4, 3) := by decide +kernel
theorem dX3_removeBooth_8 : decode (am_b mX3_removeBooth) 8 = .ok (.return_, 1) := by decide +kernel
theorem dX3_removeBooth_9 : decode (am_b mX3_removeBooth) 9 = .ok (.aload_n 0, 1) := by decide +kernel
theorem dX3_removeBooth_10 : decode (am_b mX3_removeBooth) 10 = .ok (.getfield 26, 3) := by decide +kernel
theorem dX3_removeBooth_13 : decode (am_b mX3_removeBooth) 13 = .ok (.iload_n 1, 1) := by decide +kernel
theorem dX3_removeBooth_14 : decode (am_b mX3_removeBooth) 14 = .ok (.invokestatic 81, 3) := by decide +kernel
theorem dX3_removeBooth_17 : decode (am_b mX3_removeBooth) 17 = .ok (.aload_n 0, 1) := by decide +kernel
theorem dX3_removeBooth_18 : decode (am_b mX3_removeBooth) 18 = .ok (.getfield 29, 3) := by decide +kernel
theorem dX3_removeBooth_21 : decode (am_b mX3_removeBooth) 21 = .ok (.iload_n 1, 1) := by decide +kernel
theorem dX3_removeBooth_22 : decode (am_b mX3_removeBooth) 22 = .ok (.invokestatic 81, 3) := by decide +kernel
theorem dX3_removeBooth_25 : decode (am_b mX3_removeBooth) 25 = .ok (.aload_n 0, 1) := by decide +kernel
theorem dX3_removeBooth_26 : decode (am_b mX3_removeBooth) 26 = .ok (.getfield 32, 3) := by decide +kernel
theorem dX3_removeBooth_29 : decode (am_b mX3_removeBooth) 29 = .ok (.iload_n 1, 1) := by decide +kernel
theorem dX3_removeBooth_30 : decode (am_b mX3_removeBooth) 30 = .ok (.invokestatic 81, 3) := by decide +kernel
theorem dX3_removeBooth_33 : decode (am_b mX3_removeBooth) 33 = .ok (.aload_n 0, 1) := by decide +kernel
theorem dX3_removeBooth_34 : decode (am_b mX3_removeBooth) 34 = .ok (.getfield 35, 3) := by decide +kernel
theorem dX3_removeBooth_37 : decode (am_b mX3_removeBooth) 37 = .ok (.iload_n 1, 1) := by decide +kernel
theorem dX3_removeBooth_38 : decode (am_b mX3_removeBooth) 38 = .ok (.invokestatic 81, 3) := by decide +kernel
theorem dX3_removeBooth_41 : decode (am_b mX3_removeBooth) 41 = .ok (.aload_n 0, 1) := by decide +kernel
theorem dX3_removeBooth_42 : decode (am_b mX3_removeBooth) 42 = .ok (.getfield 38, 3) := by decide +kernel
theorem dX3_removeBooth_45 : decode (am_b mX3_removeBooth) 45 = .ok (.iload_n 1, 1) := by decide +kernel
theorem dX3_removeBooth_46 : decode (am_b mX3_removeBooth) 46 = .ok (.invokestatic 81, 3) := by decide +kernel
theorem dX3_removeBooth_49 : decode (am_b mX3_removeBooth) 49 = .ok (.aload_n 0, 1) := by decide +kernel
theorem dX3_removeBooth_50 : decode (am_b mX3_removeBooth) 50 = .ok (.dup, 1) := by decide +kernel
theorem dX3_removeBooth_51 : decode (am_b mX3_removeBooth) 51 = .ok (.getfield 60, 3) := by decide +kernel
theorem dX3_removeBooth_54 : decode (am_b mX3_removeBooth) 54 = .ok (.iconst 1, 1) := by decide +kernel
theorem dX3_removeBooth_55 : decode (am_b mX3_removeBooth) 55 = .ok (.isub, 1) := by decide +kernel
theorem dX3_removeBooth_56 : decode (am_b mX3_removeBooth) 56 = .ok (.putfield 60, 3) := by decide +kernel
theorem dX3_removeBooth_59 : decode (am_b mX3_removeBooth) 59 = .ok (.iconst 0, 1) := by decide +kernel
theorem dX3_removeBooth_60 : decode (am_b mX3_removeBooth) 60 = .ok (.istore_n 2, 1) := by decide +kernel
theorem dX3_removeBooth_61 : decode (am_b mX3_removeBooth) 61 = .ok (.iload_n 2, 1) := by decide +kernel
theorem dX3_removeBooth_62 : decode (am_b mX3_removeBooth) 62 = .ok (.aload_n 0, 1) := by decide +kernel
theorem dX3_removeBooth_63 : decode (am_b mX3_removeBooth) 63 = .ok (.getfield 41, 3) := by decide +kernel
theorem dX3_removeBooth_66 : decode (am_b mX3_removeBooth) 66 = .ok (.arraylength, 1) := by decide +kernel
theorem dX3_removeBooth_67 : decode (am_b mX3_removeBooth) 67 = .ok (.if_icmp .ge 50, 3) := by decide +kernel
theorem dX3_removeBooth_70 : decode (am_b mX3_removeBooth) 70 = .ok (.aload_n 0, 1) := by decide +kernel
theorem dX3_removeBooth_71 : decode (am_b mX3_removeBooth) 71 = .ok (.getfield 41, 3) := by decide +kernel
theorem dX3_removeBooth_74 : decode (am_b mX3_removeBooth) 74 = .ok (.iload_n 2, 1) := by decide +kernel
theorem dX3_removeBooth_75 : decode (am_b mX3_removeBooth) 75 = .ok (.iaload, 1) := by decide +kernel
theorem dX3_removeBooth_76 : decode (am_b mX3_removeBooth) 76 = .ok (.iload_n 1, 1) := by decide +kernel
theorem dX3_removeBooth_77 : decode (am_b mX3_removeBooth) 77 = .ok (.if_icmp .ne 14, 3) := by decide +kernel
theorem dX3_removeBooth_80 : decode (am_b mX3_removeBooth) 80 = .ok (.aload_n 0, 1) := by decide +kernel
theorem dX3_removeBooth_81 : decode (am_b mX3_removeBooth) 81 = .ok (.getfield 41, 3) := by decide +kernel
theorem dX3_removeBooth_84 : decode (am_b mX3_removeBooth) 84 = .ok (.iload_n 2, 1) := by decide +kernel
theorem dX3_removeBooth_85 : decode (am_b mX3_removeBooth) 85 = .ok (.bipush (-6), 2) := by decide +kernel
theorem dX3_removeBooth_87 : decode (am_b mX3_removeBooth) 87 = .ok (.iastore, 1) := by decide +kernel
theorem dX3_removeBooth_88 : decode (am_b mX3_removeBooth) 88 = .ok (.goto 23, 3) := by decide +kernel
theorem dX3_removeBooth_91 : decode (am_b mX3_removeBooth) 91 = .ok (.aload_n 0, 1) := by decide +kernel
theorem dX3_removeBooth_92 : decode (am_b mX3_removeBooth) 92 = .ok (.getfield 41, 3) := by decide +kernel
theorem dX3_removeBooth_95 : decode (am_b mX3_removeBooth) 95 = .ok (.iload_n 2, 1) := by decide +kernel
theorem dX3_removeBooth_96 : decode (am_b mX3_removeBooth) 96 = .ok (.iaload, 1) := by decide +kernel
theorem dX3_removeBooth_97 : decode (am_b mX3_removeBooth) 97 = .ok (.iload_n 1, 1) := by decide +kernel
theorem dX3_removeBooth_98 : decode (am_b mX3_removeBooth) 98 = .ok (.if_icmp .le 13, 3) := by decide +kernel
theorem dX3_removeBooth_101 : decode (am_b mX3_removeBooth) 101 = .ok (.aload_n 0, 1) := by decide +kernel
theorem dX3_removeBooth_102 : decode (am_b mX3_removeBooth) 102 = .ok (.getfield 41, 3) := by decide +kernel
theorem dX3_removeBooth_105 : decode (am_b mX3_removeBooth) 105 = .ok (.iload_n 2, 1) := by decide +kernel
theorem dX3_removeBooth_106 : decode (am_b mX3_removeBooth) 106 = .ok (.dup2, 1) := by decide +kernel
theorem dX3_removeBooth_107 : decode (am_b mX3_removeBooth) 107 = .ok (.iaload, 1) := by decide +kernel
theorem dX3_removeBooth_108 : decode (am_b mX3_removeBooth) 108 = .ok (.iconst 1, 1) := by decide +kernel
theorem dX3_removeBooth_109 : decode (am_b mX3_removeBooth) 109 = .ok (.isub, 1) := by decide +kernel
theorem dX3_removeBooth_110 : decode (am_b mX3_removeBooth) 110 = .ok (.iastore, 1) := by decide +kernel
theorem dX3_removeBooth_111 : decode (am_b mX3_removeBooth) 111 = .ok (.iinc 2 1, 3) := by decide +kernel
theorem dX3_removeBooth_114 : decode (am_b mX3_removeBooth) 114 = .ok (.goto (-53), 3) := by decide +kernel
theorem dX3_removeBooth_117 : decode (am_b mX3_removeBooth) 117 = .ok (.return_, 1) := by decide +kernel
theorem dX4_stopping_0 : decode (am_b mX4_stopping) 0 = .ok (.aload_n 0, 1) := by decide +kernel
theorem dX4_stopping_1 : decode (am_b mX4_stopping) 1 = .ok (.iload_n 1, 1) := by decide +kernel
theorem dX4_stopping_2 : decode (am_b mX4_stopping) 2 = .ok (.iload_n 2, 1) := by decide +kernel
theorem dX4_stopping_3 : decode (am_b mX4_stopping) 3 = .ok (.invokevirtual 33, 3) := by decide +kernel
theorem dX4_stopping_6 : decode (am_b mX4_stopping) 6 = .ok (.ifCond .eq 20, 3) := by decide +kernel
theorem dX4_stopping_9 : decode (am_b mX4_stopping) 9 = .ok (.aload_n 0, 1) := by decide +kernel
theorem dX4_stopping_10 : decode (am_b mX4_stopping) 10 = .ok (.getfield 9, 3) := by decide +kernel
theorem dX4_stopping_13 : decode (am_b mX4_stopping) 13 = .ok (.iload_n 1, 1) := by decide +kernel
theorem dX4_stopping_14 : decode (am_b mX4_stopping) 14 = .ok (.iaload, 1) := by decide +kernel
theorem dX4_stopping_15 : decode (am_b mX4_stopping) 15 = .ok (.aload_n 0, 1) := by decide +kernel
theorem dX4_stopping_16 : decode (am_b mX4_stopping) 16 = .ok (.getfield 22, 3) := by decide +kernel
theorem dX4_stopping_19 : decode (am_b mX4_stopping) 19 = .ok (.imul, 1) := by decide +kernel
theorem dX4_stopping_20 : decode (am_b mX4_stopping) 20 = .ok (.bipush 100, 2) := by decide +kernel
theorem dX4_stopping_22 : decode (am_b mX4_stopping) 22 = .ok (.idiv, 1) := by decide +kernel
theorem dX4_stopping_23 : decode (am_b mX4_stopping) 23 = .ok (.goto 4, 3) := by decide +kernel
theorem dX4_stopping_26 : decode (am_b mX4_stopping) 26 = .ok (.iconst 0, 1) := by decide +kernel
theorem dX4_stopping_27 : decode (am_b mX4_stopping) 27 = .ok (.ireturn, 1) := by decide +kernel
theorem dX5_look_0 : decode (am_b mX5_look) 0 = .ok (.aload_n 0, 1) := by decide +kernel
theorem dX5_look_1 : decode (am_b mX5_look) 1 = .ok (.invokevirtual 27, 3) := by decide +kernel
theorem dX5_look_4 : decode (am_b mX5_look) 4 = .ok (.iconst 0, 1) := by decide +kernel
theorem dX5_look_5 : decode (am_b mX5_look) 5 = .ok (.istore_n 3, 1) := by decide +kernel
theorem dX5_look_6 : decode (am_b mX5_look) 6 = .ok (.iload_n 3, 1) := by decide +kernel
theorem dX5_look_7 : decode (am_b mX5_look) 7 = .ok (.bipush 8, 2) := by decide +kernel
theorem dX5_look_9 : decode (am_b mX5_look) 9 = .ok (.if_icmp .ge 38, 3) := by decide +kernel
theorem dX5_look_12 : decode (am_b mX5_look) 12 = .ok (.iload_n 3, 1) := by decide +kernel
theorem dX5_look_13 : decode (am_b mX5_look) 13 = .ok (.iload_n 2, 1) := by decide +kernel
theorem dX5_look_14 : decode (am_b mX5_look) 14 = .ok (.if_icmp .eq 27, 3) := by decide +kernel
theorem dX5_look_17 : decode (am_b mX5_look) 17 = .ok (.aload_n 1, 1) := by decide +kernel
theorem dX5_look_18 : decode (am_b mX5_look) 18 = .ok (.iload_n 3, 1) := by decide +kernel
theorem dX5_look_19 : decode (am_b mX5_look) 19 = .ok (.invokevirtual 30, 3) := by decide +kernel
theorem dX5_look_22 : decode (am_b mX5_look) 22 = .ok (.ifCond .eq 19, 3) := by decide +kernel
theorem dX5_look_25 : decode (am_b mX5_look) 25 = .ok (.aload_n 0, 1) := by decide +kernel
theorem dX5_look_26 : decode (am_b mX5_look) 26 = .ok (.aload_n 1, 1) := by decide +kernel
theorem dX5_look_27 : decode (am_b mX5_look) 27 = .ok (.getfield 36, 3) := by decide +kernel
theorem dX5_look_30 : decode (am_b mX5_look) 30 = .ok (.iload_n 3, 1) := by decide +kernel
theorem dX5_look_31 : decode (am_b mX5_look) 31 = .ok (.iaload, 1) := by decide +kernel
theorem dX5_look_32 : decode (am_b mX5_look) 32 = .ok (.aload_n 1, 1) := by decide +kernel
theorem dX5_look_33 : decode (am_b mX5_look) 33 = .ok (.getfield 39, 3) := by decide +kernel
theorem dX5_look_36 : decode (am_b mX5_look) 36 = .ok (.iload_n 3, 1) := by decide +kernel
theorem dX5_look_37 : decode (am_b mX5_look) 37 = .ok (.iaload, 1) := by decide +kernel
theorem dX5_look_38 : decode (am_b mX5_look) 38 = .ok (.invokevirtual 42, 3) := by decide +kernel
theorem dX5_look_41 : decode (am_b mX5_look) 41 = .ok (.iinc 3 1, 3) := by decide +kernel
theorem dX5_look_44 : decode (am_b mX5_look) 44 = .ok (.goto (-38), 3) := by decide +kernel
theorem dX5_look_47 : decode (am_b mX5_look) 47 = .ok (.aload_n 0, 1) := by decide +kernel
theorem dX5_look_48 : decode (am_b mX5_look) 48 = .ok (.aload_n 1, 1) := by decide +kernel
theorem dX5_look_49 : decode (am_b mX5_look) 49 = .ok (.invokevirtual 46, 3) := by decide +kernel
theorem dX5_look_52 : decode (am_b mX5_look) 52 = .ok (.return_, 1) := by decide +kernel
theorem dX2_findFault_0 : decode (am_b mX2_findFault) 0 = .ok (.aload_n 0, 1) := by decide +kernel
theorem dX2_findFault_1 : decode (am_b mX2_findFault) 1 = .ok (.iconst 0, 1) := by decide +kernel
theorem dX2_findFault_2 : decode (am_b mX2_findFault) 2 = .ok (.putfield 32, 3) := by decide +kernel
theorem dX2_findFault_5 : decode (am_b mX2_findFault) 5 = .ok (.iconst 0, 1) := by decide +kernel
theorem dX2_findFault_6 : decode (am_b mX2_findFault) 6 = .ok (.istore_n 1, 1) := by decide +kernel
theorem dX2_findFault_7 : decode (am_b mX2_findFault) 7 = .ok (.iconst 0, 1) := by decide +kernel
theorem dX2_findFault_8 : decode (am_b mX2_findFault) 8 = .ok (.istore_n 2, 1) := by decide +kernel
theorem dX2_findFault_9 : decode (am_b mX2_findFault) 9 = .ok (.iload_n 2, 1) := by decide +kernel
theorem dX2_findFault_10 : decode (am_b mX2_findFault) 10 = .ok (.aload_n 0, 1) := by decide +kernel
theorem dX2_findFault_11 : decode (am_b mX2_findFault) 11 = .ok (.getfield 28, 3) := by decide +kernel
theorem dX2_findFault_14 : decode (am_b mX2_findFault) 14 = .ok (.if_icmp .ge 37, 3) := by decide +kernel
theorem dX2_findFault_17 : decode (am_b mX2_findFault) 17 = .ok (.iload_n 2, 1) := by decide +kernel
theorem dX2_findFault_18 : decode (am_b mX2_findFault) 18 = .ok (.aload_n 0, 1) := by decide +kernel
theorem dX2_findFault_19 : decode (am_b mX2_findFault) 19 = .ok (.getfield 9, 3) := by decide +kernel
theorem dX2_findFault_22 : decode (am_b mX2_findFault) 22 = .ok (.arraylength, 1) := by decide +kernel
theorem dX2_findFault_23 : decode (am_b mX2_findFault) 23 = .ok (.if_icmp .ge 28, 3) := by decide +kernel
theorem dX2_findFault_26 : decode (am_b mX2_findFault) 26 = .ok (.aload_n 0, 1) := by decide +kernel
theorem dX2_findFault_27 : decode (am_b mX2_findFault) 27 = .ok (.iload_n 1, 1) := by decide +kernel
theorem dX2_findFault_28 : decode (am_b mX2_findFault) 28 = .ok (.aload_n 0, 1) := by decide +kernel
theorem dX2_findFault_29 : decode (am_b mX2_findFault) 29 = .ok (.getfield 9, 3) := by decide +kernel
theorem dX2_findFault_32 : decode (am_b mX2_findFault) 32 = .ok (.iload_n 2, 1) := by decide +kernel
theorem dX2_findFault_33 : decode (am_b mX2_findFault) 33 = .ok (.caload, 1) := by decide +kernel
theorem dX2_findFault_34 : decode (am_b mX2_findFault) 34 = .ok (.invokevirtual 35, 3) := by decide +kernel
theorem dX2_findFault_37 : decode (am_b mX2_findFault) 37 = .ok (.istore_n 1, 1) := by decide +kernel
theorem dX2_findFault_38 : decode (am_b mX2_findFault) 38 = .ok (.iload_n 1, 1) := by decide +kernel
theorem dX2_findFault_39 : decode (am_b mX2_findFault) 39 = .ok (.iconst (-1), 1) := by decide +kernel
theorem dX2_findFault_40 : decode (am_b mX2_findFault) 40 = .ok (.if_icmp .ne 5, 3) := by decide +kernel
theorem dX2_findFault_43 : decode (am_b mX2_findFault) 43 = .ok (.iload_n 2, 1) := by decide +kernel
theorem dX2_findFault_44 : decode (am_b mX2_findFault) 44 = .ok (.ireturn, 1) := by decide +kernel
theorem dX2_findFault_45 : decode (am_b mX2_findFault) 45 = .ok (.iinc 2 1, 3) := by decide +kernel
theorem dX2_findFault_48 : decode (am_b mX2_findFault) 48 = .ok (.goto (-39), 3) := by decide +kernel
theorem dX2_findFault_51 : decode (am_b mX2_findFault) 51 = .ok (.iload_n 1, 1) := by decide +kernel
theorem dX2_findFault_52 : decode (am_b mX2_findFault) 52 = .ok (.ifCond .eq 8, 3) := by decide +kernel
theorem dX2_findFault_55 : decode (am_b mX2_findFault) 55 = .ok (.iload_n 1, 1) := by decide +kernel
theorem dX2_findFault_56 : decode (am_b mX2_findFault) 56 = .ok (.iconst 2, 1) := by decide +kernel
theorem dX2_findFault_57 : decode (am_b mX2_findFault) 57 = .ok (.if_icmp .ne 10, 3) := by decide +kernel
theorem dX2_findFault_60 : decode (am_b mX2_findFault) 60 = .ok (.aload_n 0, 1) := by decide +kernel
theorem dX2_findFault_61 : decode (am_b mX2_findFault) 61 = .ok (.getfield 28, 3) := by decide +kernel
theorem dX2_findFault_64 : decode (am_b mX2_findFault) 64 = .ok (.goto 5, 3) := by decide +kernel
theorem dX2_findFault_67 : decode (am_b mX2_findFault) 67 = .ok (.bipush (-6), 2) := by decide +kernel
theorem dX2_findFault_69 : decode (am_b mX2_findFault) 69 = .ok (.ireturn, 1) := by decide +kernel
theorem dX3_isHidden_0 : decode (am_b mX3_isHidden) 0 = .ok (.iconst 0, 1) := by decide +kernel
theorem dX3_isHidden_1 : decode (am_b mX3_isHidden) 1 = .ok (.istore_n 3, 1) := by decide +kernel
theorem dX3_isHidden_2 : decode (am_b mX3_isHidden) 2 = .ok (.iload_n 3, 1) := by decide +kernel
theorem dX3_isHidden_3 : decode (am_b mX3_isHidden) 3 = .ok (.bipush 8, 2) := by decide +kernel
theorem dX3_isHidden_5 : decode (am_b mX3_isHidden) 5 = .ok (.if_icmp .ge 26, 3) := by decide +kernel
theorem dX3_isHidden_8 : decode (am_b mX3_isHidden) 8 = .ok (.iload_n 3, 1) := by decide +kernel
theorem dX3_isHidden_9 : decode (am_b mX3_isHidden) 9 = .ok (.iload_n 1, 1) := by decide +kernel
theorem dX3_isHidden_10 : decode (am_b mX3_isHidden) 10 = .ok (.if_icmp .eq 15, 3) := by decide +kernel
theorem dX3_isHidden_13 : decode (am_b mX3_isHidden) 13 = .ok (.aload_n 0, 1) := by decide +kernel
theorem dX3_isHidden_14 : decode (am_b mX3_isHidden) 14 = .ok (.iload_n 3, 1) := by decide +kernel
theorem dX3_isHidden_15 : decode (am_b mX3_isHidden) 15 = .ok (.iload_n 1, 1) := by decide +kernel
theorem dX3_isHidden_16 : decode (am_b mX3_isHidden) 16 = .ok (.iload_n 2, 1) := by decide +kernel
theorem dX3_isHidden_17 : decode (am_b mX3_isHidden) 17 = .ok (.invokevirtual 77, 3) := by decide +kernel
theorem dX3_isHidden_20 : decode (am_b mX3_isHidden) 20 = .ok (.ifCond .eq 5, 3) := by decide +kernel
theorem dX3_isHidden_23 : decode (am_b mX3_isHidden) 23 = .ok (.iconst 1, 1) := by decide +kernel
theorem dX3_isHidden_24 : decode (am_b mX3_isHidden) 24 = .ok (.ireturn, 1) := by decide +kernel
theorem dX3_isHidden_25 : decode (am_b mX3_isHidden) 25 = .ok (.iinc 3 1, 3) := by decide +kernel
theorem dX3_isHidden_28 : decode (am_b mX3_isHidden) 28 = .ok (.goto (-26), 3) := by decide +kernel
theorem dX3_isHidden_31 : decode (am_b mX3_isHidden) 31 = .ok (.iconst 0, 1) := by decide +kernel
theorem dX3_isHidden_32 : decode (am_b mX3_isHidden) 32 = .ok (.ireturn, 1) := by decide +kernel
theorem dX3_isTakenByOther_0 : decode (am_b mX3_isTakenByOther) 0 = .ok (.aload_n 0, 1) := by decide +kernel
theorem dX3_isTakenByOther_1 : decode (am_b mX3_isTakenByOther) 1 = .ok (.iload_n 1, 1) := by decide +kernel
theorem dX3_isTakenByOther_2 : decode (am_b mX3_isTakenByOther) 2 = .ok (.invokevirtual 73, 3) := by decide +kernel
theorem dX3_isTakenByOther_5 : decode (am_b mX3_isTakenByOther) 5 = .ok (.istore_n 3, 1) := by decide +kernel
theorem dX3_isTakenByOther_6 : decode (am_b mX3_isTakenByOther) 6 = .ok (.iload_n 3, 1) := by decide +kernel
theorem dX3_isTakenByOther_7 : decode (am_b mX3_isTakenByOther) 7 = .ok (.bipush (-6), 2) := by decide +kernel
theorem dX3_isTakenByOther_9 : decode (am_b mX3_isTakenByOther) 9 = .ok (.if_icmp .eq 12, 3) := by decide +kernel
theorem dX3_isTakenByOther_12 : decode (am_b mX3_isTakenByOther) 12 = .ok (.iload_n 3, 1) := by decide +kernel
theorem dX3_isTakenByOther_13 : decode (am_b mX3_isTakenByOther) 13 = .ok (.iload_n 2, 1) := by decide +kernel
theorem dX3_isTakenByOther_14 : decode (am_b mX3_isTakenByOther) 14 = .ok (.if_icmp .eq 7, 3) := by decide +kernel
theorem dX3_isTakenByOther_17 : decode (am_b mX3_isTakenByOther) 17 = .ok (.iconst 1, 1) := by decide +kernel
theorem dX3_isTakenByOther_18 : decode (am_b mX3_isTakenByOther) 18 = .ok (.goto 4, 3) := by decide +kernel
theorem dX3_isTakenByOther_21 : decode (am_b mX3_isTakenByOther) 21 = .ok (.iconst 0, 1) := by decide +kernel
theorem dX3_isTakenByOther_22 : decode (am_b mX3_isTakenByOther) 22 = .ok (.ireturn, 1) := by decide +kernel
theorem dX5_crowdAt_0 : decode (am_b mX5_crowdAt) 0 = .ok (.aload_n 0, 1) := by decide +kernel
theorem dX5_crowdAt_1 : decode (am_b mX5_crowdAt) 1 = .ok (.getfield 20, 3) := by decide +kernel
theorem dX5_crowdAt_4 : decode (am_b mX5_crowdAt) 4 = .ok (.iload_n 1, 1) := by decide +kernel
theorem dX5_crowdAt_5 : decode (am_b mX5_crowdAt) 5 = .ok (.iload_n 2, 1) := by decide +kernel
theorem dX5_crowdAt_6 : decode (am_b mX5_crowdAt) 6 = .ok (.invokevirtual 61, 3) := by decide +kernel
theorem dX5_crowdAt_9 : decode (am_b mX5_crowdAt) 9 = .ok (.aload_n 0, 1) := by decide +kernel
theorem dX5_crowdAt_10 : decode (am_b mX5_crowdAt) 10 = .ok (.getfield 24, 3) := by decide +kernel
theorem dX5_crowdAt_13 : decode (am_b mX5_crowdAt) 13 = .ok (.iload_n 1, 1) := by decide +kernel
theorem dX5_crowdAt_14 : decode (am_b mX5_crowdAt) 14 = .ok (.iload_n 2, 1) := by decide +kernel
theorem dX5_crowdAt_15 : decode (am_b mX5_crowdAt) 15 = .ok (.invokevirtual 61, 3) := by decide +kernel
theorem dX5_crowdAt_18 : decode (am_b mX5_crowdAt) 18 = .ok (.iadd, 1) := by decide +kernel
theorem dX5_crowdAt_19 : decode (am_b mX5_crowdAt) 19 = .ok (.ireturn, 1) := by decide +kernel
theorem dX0_passHats_0 : decode (am_b mX0_passHats) 0 = .ok (.iconst 0, 1) := by decide +kernel
theorem dX0_passHats_1 : decode (am_b mX0_passHats) 1 = .ok (.istore_n 3, 1) := by decide +kernel
theorem dX0_passHats_2 : decode (am_b mX0_passHats) 2 = .ok (.iconst 0, 1) := by decide +kernel
theorem dX0_passHats_3 : decode (am_b mX0_passHats) 3 = .ok (.istore 4, 2) := by decide +kernel
theorem dX0_passHats_5 : decode (am_b mX0_passHats) 5 = .ok (.iload 4, 2) := by decide +kernel
theorem dX0_passHats_7 : decode (am_b mX0_passHats) 7 = .ok (.bipush 8, 2) := by decide +kernel
theorem dX0_passHats_9 : decode (am_b mX0_passHats) 9 = .ok (.if_icmp .ge 124, 3) := by decide +kernel
theorem dX0_passHats_12 : decode (am_b mX0_passHats) 12 = .ok (.aload_n 0, 1) := by decide +kernel
theorem dX0_passHats_13 : decode (am_b mX0_passHats) 13 = .ok (.iload 4, 2) := by decide +kernel
theorem dX0_passHats_15 : decode (am_b mX0_passHats) 15 = .ok (.invokevirtual 80, 3) := by decide +kernel
theorem dX0_passHats_18 : decode (am_b mX0_passHats) 18 = .ok (.ifCond .eq 89, 3) := by decide +kernel
theorem dX0_passHats_21 : decode (am_b mX0_passHats) 21 = .ok (.aload_n 0, 1) := by decide +kernel
theorem dX0_passHats_22 : decode (am_b mX0_passHats) 22 = .ok (.getfield 73, 3) := by decide +kernel
theorem dX0_passHats_25 : decode (am_b mX0_passHats) 25 = .ok (.iload 4, 2) := by decide +kernel
theorem dX0_passHats_27 : decode (am_b mX0_passHats) 27 = .ok (.iaload, 1) := by decide +kernel
theorem dX0_passHats_28 : decode (am_b mX0_passHats) 28 = .ok (.istore 5, 2) := by decide +kernel
theorem dX0_passHats_30 : decode (am_b mX0_passHats) 30 = .ok (.iload_n 2, 1) := by decide +kernel
theorem dX0_passHats_31 : decode (am_b mX0_passHats) 31 = .ok (.ifCond .eq 16, 3) := by decide +kernel
theorem dX0_passHats_34 : decode (am_b mX0_passHats) 34 = .ok (.aload_n 0, 1) := by decide +kernel
theorem dX0_passHats_35 : decode (am_b mX0_passHats) 35 = .ok (.iload 5, 2) := by decide +kernel
theorem dX0_passHats_37 : decode (am_b mX0_passHats) 37 = .ok (.invokevirtual 83, 3) := by decide +kernel
theorem dX0_passHats_40 : decode (am_b mX0_passHats) 40 = .ok (.ifCond .ne 7, 3) := by decide +kernel
theorem dX0_passHats_43 : decode (am_b mX0_passHats) 43 = .ok (.iconst 1, 1) := by decide +kernel
theorem dX0_passHats_44 : decode (am_b mX0_passHats) 44 = .ok (.goto 4, 3) := by decide +kernel
theorem dX0_passHats_47 : decode (am_b mX0_passHats) 47 = .ok (.iconst 0, 1) := by decide +kernel
theorem dX0_passHats_48 : decode (am_b mX0_passHats) 48 = .ok (.istore 6, 2) := by decide +kernel
theorem dX0_passHats_50 : decode (am_b mX0_passHats) 50 = .ok (.iload 6, 2) := by decide +kernel
theorem dX0_passHats_52 : decode (am_b mX0_passHats) 52 = .ok (.ifCond .eq 7, 3) := by decide +kernel
theorem dX0_passHats_55 : decode (am_b mX0_passHats) 55 = .ok (.iconst 0, 1) := by decide +kernel
theorem dX0_passHats_56 : decode (am_b mX0_passHats) 56 = .ok (.goto 16, 3) := by decide +kernel
theorem dX0_passHats_59 : decode (am_b mX0_passHats) 59 = .ok (.aload_n 1, 1) := by decide +kernel
theorem dX0_passHats_60 : decode (am_b mX0_passHats) 60 = .ok (.iload 5, 2) := by decide +kernel
theorem dX0_passHats_62 : decode (am_b mX0_passHats) 62 = .ok (.aload_n 0, 1) := by decide +kernel
theorem dX0_passHats_63 : decode (am_b mX0_passHats) 63 = .ok (.getfield 67, 3) := by decide +kernel
theorem dX0_passHats_66 : decode (am_b mX0_passHats) 66 = .ok (.iload 4, 2) := by decide +kernel
theorem dX0_passHats_68 : decode (am_b mX0_passHats) 68 = .ok (.iaload, 1) := by decide +kernel
theorem dX0_passHats_69 : decode (am_b mX0_passHats) 69 = .ok (.invokevirtual 86, 3) := by decide +kernel
theorem dX0_passHats_72 : decode (am_b mX0_passHats) 72 = .ok (.istore 7, 2) := by decide +kernel
theorem dX0_passHats_74 : decode (am_b mX0_passHats) 74 = .ok (.iload 7, 2) := by decide +kernel
theorem dX0_passHats_76 : decode (am_b mX0_passHats) 76 = .ok (.aload_n 0, 1) := by decide +kernel
theorem dX0_passHats_77 : decode (am_b mX0_passHats) 77 = .ok (.iconst 3, 1) := by decide +kernel
theorem dX0_passHats_78 : decode (am_b mX0_passHats) 78 = .ok (.invokevirtual 25, 3) := by decide +kernel
theorem dX0_passHats_81 : decode (am_b mX0_passHats) 81 = .ok (.imul, 1) := by decide +kernel
theorem dX0_passHats_82 : decode (am_b mX0_passHats) 82 = .ok (.bipush 100, 2) := by decide +kernel
theorem dX0_passHats_84 : decode (am_b mX0_passHats) 84 = .ok (.idiv, 1) := by decide +kernel
theorem dX0_passHats_85 : decode (am_b mX0_passHats) 85 = .ok (.istore 8, 2) := by decide +kernel
theorem dX0_passHats_87 : decode (am_b mX0_passHats) 87 = .ok (.aload_n 0, 1) := by decide +kernel
theorem dX0_passHats_88 : decode (am_b mX0_passHats) 88 = .ok (.getfield 89, 3) := by decide +kernel
theorem dX0_passHats_91 : decode (am_b mX0_passHats) 91 = .ok (.iload 4, 2) := by decide +kernel
theorem dX0_passHats_93 : decode (am_b mX0_passHats) 93 = .ok (.dup2, 1) := by decide +kernel
theorem dX0_passHats_94 : decode (am_b mX0_passHats) 94 = .ok (.iaload, 1) := by decide +kernel
theorem dX0_passHats_95 : decode (am_b mX0_passHats) 95 = .ok (.iload 8, 2) := by decide +kernel
theorem dX0_passHats_97 : decode (am_b mX0_passHats) 97 = .ok (.iadd, 1) := by decide +kernel
theorem dX0_passHats_98 : decode (am_b mX0_passHats) 98 = .ok (.iastore, 1) := by decide +kernel
theorem dX0_passHats_99 : decode (am_b mX0_passHats) 99 = .ok (.iload_n 3, 1) := by decide +kernel
theorem dX0_passHats_100 : decode (am_b mX0_passHats) 100 = .ok (.iload 8, 2) := by decide +kernel
theorem dX0_passHats_102 : decode (am_b mX0_passHats) 102 = .ok (.iadd, 1) := by decide +kernel
theorem dX0_passHats_103 : decode (am_b mX0_passHats) 103 = .ok (.istore_n 3, 1) := by decide +kernel
theorem dX0_passHats_104 : decode (am_b mX0_passHats) 104 = .ok (.goto 23, 3) := by decide +kernel
theorem dX0_passHats_107 : decode (am_b mX0_passHats) 107 = .ok (.aload_n 0, 1) := by decide +kernel
theorem dX0_passHats_108 : decode (am_b mX0_passHats) 108 = .ok (.iload 4, 2) := by decide +kernel
theorem dX0_passHats_110 : decode (am_b mX0_passHats) 110 = .ok (.invokevirtual 43, 3) := by decide +kernel
theorem dX0_passHats_113 : decode (am_b mX0_passHats) 113 = .ok (.ifCond .eq 14, 3) := by decide +kernel
theorem dX0_passHats_116 : decode (am_b mX0_passHats) 116 = .ok (.aload_n 0, 1) := by decide +kernel
theorem dX0_passHats_117 : decode (am_b mX0_passHats) 117 = .ok (.getfield 92, 3) := by decide +kernel
theorem dX0_passHats_120 : decode (am_b mX0_passHats) 120 = .ok (.iload 4, 2) := by decide +kernel
theorem dX0_passHats_122 : decode (am_b mX0_passHats) 122 = .ok (.dup2, 1) := by decide +kernel
theorem dX0_passHats_123 : decode (am_b mX0_passHats) 123 = .ok (.iaload, 1) := by decide +kernel
theorem dX0_passHats_124 : decode (am_b mX0_passHats) 124 = .ok (.iconst 1, 1) := by decide +kernel
theorem dX0_passHats_125 : decode (am_b mX0_passHats) 125 = .ok (.iadd, 1) := by decide +kernel
theorem dX0_passHats_126 : decode (am_b mX0_passHats) 126 = .ok (.iastore, 1) := by decide +kernel
theorem dX0_passHats_127 : decode (am_b mX0_passHats) 127 = .ok (.iinc 4 1, 3) := by decide +kernel
theorem dX0_passHats_130 : decode (am_b mX0_passHats) 130 = .ok (.goto (-125), 3) := by decide +kernel
theorem dX0_passHats_133 : decode (am_b mX0_passHats) 133 = .ok (.aload_n 0, 1) := by decide +kernel
theorem dX0_passHats_134 : decode (am_b mX0_passHats) 134 = .ok (.dup, 1) := by decide +kernel
theorem dX0_passHats_135 : decode (am_b mX0_passHats) 135 = .ok (.getfield 95, 3) := by decide +kernel
theorem dX0_passHats_138 : decode (am_b mX0_passHats) 138 = .ok (.iload_n 3, 1) := by decide +kernel
theorem dX0_passHats_139 : decode (am_b mX0_passHats) 139 = .ok (.iadd, 1) := by decide +kernel
theorem dX0_passHats_140 : decode (am_b mX0_passHats) 140 = .ok (.putfield 95, 3) := by decide +kernel
theorem dX0_passHats_143 : decode (am_b mX0_passHats) 143 = .ok (.iload_n 3, 1) := by decide +kernel
theorem dX0_passHats_144 : decode (am_b mX0_passHats) 144 = .ok (.ireturn, 1) := by decide +kernel
theorem dX5_bestOpenPitch_0 : decode (am_b mX5_bestOpenPitch) 0 = .ok (.bipush (-6), 2) := by decide +kernel
theorem dX5_bestOpenPitch_2 : decode (am_b mX5_bestOpenPitch) 2 = .ok (.istore_n 3, 1) := by decide +kernel
theorem dX5_bestOpenPitch_3 : decode (am_b mX5_bestOpenPitch) 3 = .ok (.iconst (-1), 1) := by decide +kernel
theorem dX5_bestOpenPitch_4 : decode (am_b mX5_bestOpenPitch) 4 = .ok (.istore 4, 2) := by decide +kernel
theorem dX5_bestOpenPitch_6 : decode (am_b mX5_bestOpenPitch) 6 = .ok (.iconst 0, 1) := by decide +kernel
theorem dX5_bestOpenPitch_7 : decode (am_b mX5_bestOpenPitch) 7 = .ok (.istore 5, 2) := by decide +kernel
theorem dX5_bestOpenPitch_9 : decode (am_b mX5_bestOpenPitch) 9 = .ok (.iload 5, 2) := by decide +kernel
theorem dX5_bestOpenPitch_11 : decode (am_b mX5_bestOpenPitch) 11 = .ok (.bipush 12, 2) := by decide +kernel
theorem dX5_bestOpenPitch_13 : decode (am_b mX5_bestOpenPitch) 13 = .ok (.if_icmp .ge 42, 3) := by decide +kernel
theorem dX5_bestOpenPitch_16 : decode (am_b mX5_bestOpenPitch) 16 = .ok (.aload_n 0, 1) := by decide +kernel
theorem dX5_bestOpenPitch_17 : decode (am_b mX5_bestOpenPitch) 17 = .ok (.iload 5, 2) := by decide +kernel
theorem dX5_bestOpenPitch_19 : decode (am_b mX5_bestOpenPitch) 19 = .ok (.iload_n 1, 1) := by decide +kernel
theorem dX5_bestOpenPitch_20 : decode (am_b mX5_bestOpenPitch) 20 = .ok (.invokevirtual 70, 3) := by decide +kernel
theorem dX5_bestOpenPitch_23 : decode (am_b mX5_bestOpenPitch) 23 = .ok (.istore 6, 2) := by decide +kernel
theorem dX5_bestOpenPitch_25 : decode (am_b mX5_bestOpenPitch) 25 = .ok (.iload 6, 2) := by decide +kernel
theorem dX5_bestOpenPitch_27 : decode (am_b mX5_bestOpenPitch) 27 = .ok (.iload 4, 2) := by decide +kernel
theorem dX5_bestOpenPitch_29 : decode (am_b mX5_bestOpenPitch) 29 = .ok (.if_icmp .le 20, 3) := by decide +kernel
theorem dX5_bestOpenPitch_32 : decode (am_b mX5_bestOpenPitch) 32 = .ok (.aload_n 0, 1) := by decide +kernel
theorem dX5_bestOpenPitch_33 : decode (am_b mX5_bestOpenPitch) 33 = .ok (.iload 5, 2) := by decide +kernel
theorem dX5_bestOpenPitch_35 : decode (am_b mX5_bestOpenPitch) 35 = .ok (.iload_n 2, 1) := by decide +kernel
theorem dX5_bestOpenPitch_36 : decode (am_b mX5_bestOpenPitch) 36 = .ok (.invokevirtual 73, 3) := by decide +kernel
theorem dX5_bestOpenPitch_39 : decode (am_b mX5_bestOpenPitch) 39 = .ok (.ifCond .eq 10, 3) := by decide +kernel
theorem dX5_bestOpenPitch_42 : decode (am_b mX5_bestOpenPitch) 42 = .ok (.iload 5, 2) := by decide +kernel
theorem dX5_bestOpenPitch_44 : decode (am_b mX5_bestOpenPitch) 44 = .ok (.istore_n 3, 1) := by decide +kernel
theorem dX5_bestOpenPitch_45 : decode (am_b mX5_bestOpenPitch) 45 = .ok (.iload 6, 2) := by decide +kernel
theorem dX5_bestOpenPitch_47 : decode (am_b mX5_bestOpenPitch) 47 = .ok (.istore 4, 2) := by decide +kernel
theorem dX5_bestOpenPitch_49 : decode (am_b mX5_bestOpenPitch) 49 = .ok (.iinc 5 1, 3) := by decide +kernel
theorem dX5_bestOpenPitch_52 : decode (am_b mX5_bestOpenPitch) 52 = .ok (.goto (-43), 3) := by decide +kernel
theorem dX5_bestOpenPitch_55 : decode (am_b mX5_bestOpenPitch) 55 = .ok (.iload_n 3, 1) := by decide +kernel
theorem dX5_bestOpenPitch_56 : decode (am_b mX5_bestOpenPitch) 56 = .ok (.ireturn, 1) := by decide +kernel
theorem dX0_choosePitches_0 : decode (am_b mX0_choosePitches) 0 = .ok (.aload_n 1, 1) := by decide +kernel
theorem dX0_choosePitches_1 : decode (am_b mX0_choosePitches) 1 = .ok (.invokevirtual 59, 3) := by decide +kernel
theorem dX0_choosePitches_4 : decode (am_b mX0_choosePitches) 4 = .ok (.aload_n 1, 1) := by decide +kernel
theorem dX0_choosePitches_5 : decode (am_b mX0_choosePitches) 5 = .ok (.aload_n 0, 1) := by decide +kernel
theorem dX0_choosePitches_6 : decode (am_b mX0_choosePitches) 6 = .ok (.invokevirtual 64, 3) := by decide +kernel
theorem dX0_choosePitches_9 : decode (am_b mX0_choosePitches) 9 = .ok (.iconst 0, 1) := by decide +kernel
theorem dX0_choosePitches_10 : decode (am_b mX0_choosePitches) 10 = .ok (.istore_n 2, 1) := by decide +kernel
theorem dX0_choosePitches_11 : decode (am_b mX0_choosePitches) 11 = .ok (.iload_n 2, 1) := by decide +kernel
theorem dX0_choosePitches_12 : decode (am_b mX0_choosePitches) 12 = .ok (.aload_n 0, 1) := by decide +kernel
theorem dX0_choosePitches_13 : decode (am_b mX0_choosePitches) 13 = .ok (.getfield 39, 3) := by decide +kernel
theorem dX0_choosePitches_16 : decode (am_b mX0_choosePitches) 16 = .ok (.arraylength, 1) := by decide +kernel
theorem dX0_choosePitches_17 : decode (am_b mX0_choosePitches) 17 = .ok (.if_icmp .ge 66, 3) := by decide +kernel
theorem dX0_choosePitches_20 : decode (am_b mX0_choosePitches) 20 = .ok (.aload_n 0, 1) := by decide +kernel
theorem dX0_choosePitches_21 : decode (am_b mX0_choosePitches) 21 = .ok (.getfield 39, 3) := by decide +kernel
theorem dX0_choosePitches_24 : decode (am_b mX0_choosePitches) 24 = .ok (.iload_n 2, 1) := by decide +kernel
theorem dX0_choosePitches_25 : decode (am_b mX0_choosePitches) 25 = .ok (.iaload, 1) := by decide +kernel
theorem dX0_choosePitches_26 : decode (am_b mX0_choosePitches) 26 = .ok (.istore_n 3, 1) := by decide +kernel
theorem dX0_choosePitches_27 : decode (am_b mX0_choosePitches) 27 = .ok (.aload_n 0, 1) := by decide +kernel
theorem dX0_choosePitches_28 : decode (am_b mX0_choosePitches) 28 = .ok (.iload_n 3, 1) := by decide +kernel
theorem dX0_choosePitches_29 : decode (am_b mX0_choosePitches) 29 = .ok (.invokevirtual 43, 3) := by decide +kernel
theorem dX0_choosePitches_32 : decode (am_b mX0_choosePitches) 32 = .ok (.ifCond .eq 45, 3) := by decide +kernel
theorem dX0_choosePitches_35 : decode (am_b mX0_choosePitches) 35 = .ok (.aload_n 1, 1) := by decide +kernel
theorem dX0_choosePitches_36 : decode (am_b mX0_choosePitches) 36 = .ok (.aload_n 0, 1) := by decide +kernel
theorem dX0_choosePitches_37 : decode (am_b mX0_choosePitches) 37 = .ok (.getfield 67, 3) := by decide +kernel
theorem dX0_choosePitches_40 : decode (am_b mX0_choosePitches) 40 = .ok (.iload_n 3, 1) := by decide +kernel
theorem dX0_choosePitches_41 : decode (am_b mX0_choosePitches) 41 = .ok (.iaload, 1) := by decide +kernel
theorem dX0_choosePitches_42 : decode (am_b mX0_choosePitches) 42 = .ok (.aload_n 0, 1) := by decide +kernel
theorem dX0_choosePitches_43 : decode (am_b mX0_choosePitches) 43 = .ok (.iconst 4, 1) := by decide +kernel
theorem dX0_choosePitches_44 : decode (am_b mX0_choosePitches) 44 = .ok (.invokevirtual 25, 3) := by decide +kernel
theorem dX0_choosePitches_47 : decode (am_b mX0_choosePitches) 47 = .ok (.invokevirtual 70, 3) := by decide +kernel
theorem dX0_choosePitches_50 : decode (am_b mX0_choosePitches) 50 = .ok (.istore 4, 2) := by decide +kernel
theorem dX0_choosePitches_52 : decode (am_b mX0_choosePitches) 52 = .ok (.aload_n 0, 1) := by decide +kernel
theorem dX0_choosePitches_53 : decode (am_b mX0_choosePitches) 53 = .ok (.getfield 73, 3) := by decide +kernel
theorem dX0_choosePitches_56 : decode (am_b mX0_choosePitches) 56 = .ok (.iload_n 3, 1) := by decide +kernel
theorem dX0_choosePitches_57 : decode (am_b mX0_choosePitches) 57 = .ok (.iload 4, 2) := by decide +kernel
theorem dX0_choosePitches_59 : decode (am_b mX0_choosePitches) 59 = .ok (.iastore, 1) := by decide +kernel
theorem dX0_choosePitches_60 : decode (am_b mX0_choosePitches) 60 = .ok (.aload_n 1, 1) := by decide +kernel
theorem dX0_choosePitches_61 : decode (am_b mX0_choosePitches) 61 = .ok (.iload 4, 2) := by decide +kernel
theorem dX0_choosePitches_63 : decode (am_b mX0_choosePitches) 63 = .ok (.aload_n 0, 1) := by decide +kernel
theorem dX0_choosePitches_64 : decode (am_b mX0_choosePitches) 64 = .ok (.getfield 67, 3) := by decide +kernel
theorem dX0_choosePitches_67 : decode (am_b mX0_choosePitches) 67 = .ok (.iload_n 3, 1) := by decide +kernel
theorem dX0_choosePitches_68 : decode (am_b mX0_choosePitches) 68 = .ok (.iaload, 1) := by decide +kernel
theorem dX0_choosePitches_69 : decode (am_b mX0_choosePitches) 69 = .ok (.invokevirtual 76, 3) := by decide +kernel
theorem dX0_choosePitches_72 : decode (am_b mX0_choosePitches) 72 = .ok (.aload_n 1, 1) := by decide +kernel
theorem dX0_choosePitches_73 : decode (am_b mX0_choosePitches) 73 = .ok (.aload_n 0, 1) := by decide +kernel
theorem dX0_choosePitches_74 : decode (am_b mX0_choosePitches) 74 = .ok (.invokevirtual 64, 3) := by decide +kernel
theorem dX0_choosePitches_77 : decode (am_b mX0_choosePitches) 77 = .ok (.iinc 2 1, 3) := by decide +kernel
theorem dX0_choosePitches_80 : decode (am_b mX0_choosePitches) 80 = .ok (.goto (-69), 3) := by decide +kernel
theorem dX0_choosePitches_83 : decode (am_b mX0_choosePitches) 83 = .ok (.return_, 1) := by decide +kernel
theorem dX0_pass_0 : decode (am_b mX0_pass) 0 = .ok (.aload_n 0, 1) := by decide +kernel
theorem dX0_pass_1 : decode (am_b mX0_pass) 1 = .ok (.invokestatic 9, 3) := by decide +kernel
theorem dX0_pass_4 : decode (am_b mX0_pass) 4 = .ok (.aload_n 0, 1) := by decide +kernel
theorem dX0_pass_5 : decode (am_b mX0_pass) 5 = .ok (.aload_n 1, 1) := by decide +kernel
theorem dX0_pass_6 : decode (am_b mX0_pass) 6 = .ok (.invokestatic 15, 3) := by decide +kernel
theorem dX0_pass_9 : decode (am_b mX0_pass) 9 = .ok (.aload_n 0, 1) := by decide +kernel
theorem dX0_pass_10 : decode (am_b mX0_pass) 10 = .ok (.bipush 100, 2) := by decide +kernel
theorem dX0_pass_12 : decode (am_b mX0_pass) 12 = .ok (.invokevirtual 19, 3) := by decide +kernel
theorem dX0_pass_15 : decode (am_b mX0_pass) 15 = .ok (.aload_n 0, 1) := by decide +kernel
theorem dX0_pass_16 : decode (am_b mX0_pass) 16 = .ok (.iconst 5, 1) := by decide +kernel
theorem dX0_pass_17 : decode (am_b mX0_pass) 17 = .ok (.invokevirtual 25, 3) := by decide +kernel
theorem dX0_pass_20 : decode (am_b mX0_pass) 20 = .ok (.if_icmp .ge 7, 3) := by decide +kernel
theorem dX0_pass_23 : decode (am_b mX0_pass) 23 = .ok (.iconst 1, 1) := by decide +kernel
theorem dX0_pass_24 : decode (am_b mX0_pass) 24 = .ok (.goto 4, 3) := by decide +kernel
theorem dX0_pass_27 : decode (am_b mX0_pass) 27 = .ok (.iconst 0, 1) := by decide +kernel
theorem dX0_pass_28 : decode (am_b mX0_pass) 28 = .ok (.istore_n 2, 1) := by decide +kernel
theorem dX0_pass_29 : decode (am_b mX0_pass) 29 = .ok (.aload_n 0, 1) := by decide +kernel
theorem dX0_pass_30 : decode (am_b mX0_pass) 30 = .ok (.dup, 1) := by decide +kernel
theorem dX0_pass_31 : decode (am_b mX0_pass) 31 = .ok (.getfield 28, 3) := by decide +kernel
theorem dX0_pass_34 : decode (am_b mX0_pass) 34 = .ok (.iconst 1, 1) := by decide +kernel
theorem dX0_pass_35 : decode (am_b mX0_pass) 35 = .ok (.iadd, 1) := by decide +kernel
theorem dX0_pass_36 : decode (am_b mX0_pass) 36 = .ok (.putfield 28, 3) := by decide +kernel
theorem dX0_pass_39 : decode (am_b mX0_pass) 39 = .ok (.iload_n 2, 1) := by decide +kernel
theorem dX0_pass_40 : decode (am_b mX0_pass) 40 = .ok (.ifCond .eq 13, 3) := by decide +kernel
theorem dX0_pass_43 : decode (am_b mX0_pass) 43 = .ok (.aload_n 0, 1) := by decide +kernel
theorem dX0_pass_44 : decode (am_b mX0_pass) 44 = .ok (.dup, 1) := by decide +kernel
theorem dX0_pass_45 : decode (am_b mX0_pass) 45 = .ok (.getfield 32, 3) := by decide +kernel
theorem dX0_pass_48 : decode (am_b mX0_pass) 48 = .ok (.iconst 1, 1) := by decide +kernel
theorem dX0_pass_49 : decode (am_b mX0_pass) 49 = .ok (.iadd, 1) := by decide +kernel
theorem dX0_pass_50 : decode (am_b mX0_pass) 50 = .ok (.putfield 32, 3) := by decide +kernel
theorem dX0_pass_53 : decode (am_b mX0_pass) 53 = .ok (.aload_n 0, 1) := by decide +kernel
theorem dX0_pass_54 : decode (am_b mX0_pass) 54 = .ok (.aload_n 1, 1) := by decide +kernel
theorem dX0_pass_55 : decode (am_b mX0_pass) 55 = .ok (.iload_n 2, 1) := by decide +kernel
theorem dX0_pass_56 : decode (am_b mX0_pass) 56 = .ok (.invokestatic 35, 3) := by decide +kernel
theorem dX0_pass_59 : decode (am_b mX0_pass) 59 = .ok (.ireturn, 1) := by decide +kernel
end
section
/-! printed: decode rows -/
theorem dX6_copyRow_0 : decode (am_b mX6_copyRow) 0 = .ok (.iconst 0, 1) := by decide +kernel
theorem dX6_copyRow_1 : decode (am_b mX6_copyRow) 1 = .ok (.istore_n 2, 1) := by decide +kernel
theorem dX6_copyRow_2 : decode (am_b mX6_copyRow) 2 = .ok (.iload_n 2, 1) := by decide +kernel
theorem dX6_copyRow_3 : decode (am_b mX6_copyRow) 3 = .ok (.aload_n 0, 1) := by decide +kernel
theorem dX6_copyRow_4 : decode (am_b mX6_copyRow) 4 = .ok (.arraylength, 1) := by decide +kernel
theorem dX6_copyRow_5 : decode (am_b mX6_copyRow) 5 = .ok (.if_icmp .ge 21, 3) := by decide +kernel
theorem dX6_copyRow_8 : decode (am_b mX6_copyRow) 8 = .ok (.iload_n 2, 1) := by decide +kernel
theorem dX6_copyRow_9 : decode (am_b mX6_copyRow) 9 = .ok (.aload_n 1, 1) := by decide +kernel
theorem dX6_copyRow_10 : decode (am_b mX6_copyRow) 10 = .ok (.arraylength, 1) := by decide +kernel
theorem dX6_copyRow_11 : decode (am_b mX6_copyRow) 11 = .ok (.if_icmp .ge 15, 3) := by decide +kernel
theorem dX6_copyRow_14 : decode (am_b mX6_copyRow) 14 = .ok (.aload_n 1, 1) := by decide +kernel
theorem dX6_copyRow_15 : decode (am_b mX6_copyRow) 15 = .ok (.iload_n 2, 1) := by decide +kernel
theorem dX6_copyRow_16 : decode (am_b mX6_copyRow) 16 = .ok (.aload_n 0, 1) := by decide +kernel
theorem dX6_copyRow_17 : decode (am_b mX6_copyRow) 17 = .ok (.iload_n 2, 1) := by decide +kernel
theorem dX6_copyRow_18 : decode (am_b mX6_copyRow) 18 = .ok (.iaload, 1) := by decide +kernel
theorem dX6_copyRow_19 : decode (am_b mX6_copyRow) 19 = .ok (.iastore, 1) := by decide +kernel
theorem dX6_copyRow_20 : decode (am_b mX6_copyRow) 20 = .ok (.iinc 2 1, 3) := by decide +kernel
theorem dX6_copyRow_23 : decode (am_b mX6_copyRow) 23 = .ok (.goto (-21), 3) := by decide +kernel
theorem dX6_copyRow_26 : decode (am_b mX6_copyRow) 26 = .ok (.return_, 1) := by decide +kernel
theorem dX6_isHeight_0 : decode (am_b mX6_isHeight) 0 = .ok (.iload_n 0, 1) := by decide +kernel
theorem dX6_isHeight_1 : decode (am_b mX6_isHeight) 1 = .ok (.iconst 1, 1) := by decide +kernel
theorem dX6_isHeight_2 : decode (am_b mX6_isHeight) 2 = .ok (.if_icmp .lt 13, 3) := by decide +kernel
theorem dX6_isHeight_5 : decode (am_b mX6_isHeight) 5 = .ok (.iload_n 0, 1) := by decide +kernel
theorem dX6_isHeight_6 : decode (am_b mX6_isHeight) 6 = .ok (.bipush 9, 2) := by decide +kernel
theorem dX6_isHeight_8 : decode (am_b mX6_isHeight) 8 = .ok (.if_icmp .gt 7, 3) := by decide +kernel
theorem dX6_isHeight_11 : decode (am_b mX6_isHeight) 11 = .ok (.iconst 1, 1) := by decide +kernel
theorem dX6_isHeight_12 : decode (am_b mX6_isHeight) 12 = .ok (.goto 4, 3) := by decide +kernel
theorem dX6_isHeight_15 : decode (am_b mX6_isHeight) 15 = .ok (.iconst 0, 1) := by decide +kernel
theorem dX6_isHeight_16 : decode (am_b mX6_isHeight) 16 = .ok (.ireturn, 1) := by decide +kernel
theorem dX6_isPitch_0 : decode (am_b mX6_isPitch) 0 = .ok (.iload_n 0, 1) := by decide +kernel
theorem dX6_isPitch_1 : decode (am_b mX6_isPitch) 1 = .ok (.ifCond .lt 13, 3) := by decide +kernel
theorem dX6_isPitch_4 : decode (am_b mX6_isPitch) 4 = .ok (.iload_n 0, 1) := by decide +kernel
theorem dX6_isPitch_5 : decode (am_b mX6_isPitch) 5 = .ok (.bipush 12, 2) := by decide +kernel
theorem dX6_isPitch_7 : decode (am_b mX6_isPitch) 7 = .ok (.if_icmp .ge 7, 3) := by decide +kernel
theorem dX6_isPitch_10 : decode (am_b mX6_isPitch) 10 = .ok (.iconst 1, 1) := by decide +kernel
theorem dX6_isPitch_11 : decode (am_b mX6_isPitch) 11 = .ok (.goto 4, 3) := by decide +kernel
theorem dX6_isPitch_14 : decode (am_b mX6_isPitch) 14 = .ok (.iconst 0, 1) := by decide +kernel
theorem dX6_isPitch_15 : decode (am_b mX6_isPitch) 15 = .ok (.ireturn, 1) := by decide +kernel
theorem dX6_lot_0 : decode (am_b mX6_lot) 0 = .ok (.iload_n 1, 1) := by decide +kernel
theorem dX6_lot_1 : decode (am_b mX6_lot) 1 = .ok (.ifCond .lt 9, 3) := by decide +kernel
theorem dX6_lot_4 : decode (am_b mX6_lot) 4 = .ok (.iload_n 1, 1) := by decide +kernel
theorem dX6_lot_5 : decode (am_b mX6_lot) 5 = .ok (.bipush 8, 2) := by decide +kernel
theorem dX6_lot_7 : decode (am_b mX6_lot) 7 = .ok (.if_icmp .lt 7, 3) := by decide +kernel
theorem dX6_lot_10 : decode (am_b mX6_lot) 10 = .ok (.iconst (-1), 1) := by decide +kernel
theorem dX6_lot_11 : decode (am_b mX6_lot) 11 = .ok (.goto 12, 3) := by decide +kernel
theorem dX6_lot_14 : decode (am_b mX6_lot) 14 = .ok (.aload_n 0, 1) := by decide +kernel
theorem dX6_lot_15 : decode (am_b mX6_lot) 15 = .ok (.getfield 10, 3) := by decide +kernel
theorem dX6_lot_18 : decode (am_b mX6_lot) 18 = .ok (.getfield 195, 3) := by decide +kernel
theorem dX6_lot_21 : decode (am_b mX6_lot) 21 = .ok (.iload_n 1, 1) := by decide +kernel
theorem dX6_lot_22 : decode (am_b mX6_lot) 22 = .ok (.iaload, 1) := by decide +kernel
theorem dX6_lot_23 : decode (am_b mX6_lot) 23 = .ok (.ireturn, 1) := by decide +kernel
theorem dX6_wipe_0 : decode (am_b mX6_wipe) 0 = .ok (.aload_n 0, 1) := by decide +kernel
theorem dX6_wipe_1 : decode (am_b mX6_wipe) 1 = .ok (.getfield 29, 3) := by decide +kernel
theorem dX6_wipe_4 : decode (am_b mX6_wipe) 4 = .ok (.getfield 134, 3) := by decide +kernel
theorem dX6_wipe_7 : decode (am_b mX6_wipe) 7 = .ok (.istore_n 1, 1) := by decide +kernel
theorem dX6_wipe_8 : decode (am_b mX6_wipe) 8 = .ok (.aload_n 0, 1) := by decide +kernel
theorem dX6_wipe_9 : decode (am_b mX6_wipe) 9 = .ok (.getfield 29, 3) := by decide +kernel
theorem dX6_wipe_12 : decode (am_b mX6_wipe) 12 = .ok (.iconst 0, 1) := by decide +kernel
theorem dX6_wipe_13 : decode (am_b mX6_wipe) 13 = .ok (.putfield 134, 3) := by decide +kernel
theorem dX6_wipe_16 : decode (am_b mX6_wipe) 16 = .ok (.iload_n 1, 1) := by decide +kernel
theorem dX6_wipe_17 : decode (am_b mX6_wipe) 17 = .ok (.ireturn, 1) := by decide +kernel
theorem dX6_put_0 : decode (am_b mX6_put) 0 = .ok (.lload_n 1, 1) := by decide +kernel
theorem dX6_put_1 : decode (am_b mX6_put) 1 = .ok (.invokestatic 204, 3) := by decide +kernel
theorem dX6_put_4 : decode (am_b mX6_put) 4 = .ok (.istore_n 3, 1) := by decide +kernel
theorem dX6_put_5 : decode (am_b mX6_put) 5 = .ok (.iload_n 3, 1) := by decide +kernel
theorem dX6_put_6 : decode (am_b mX6_put) 6 = .ok (.ifCond .ne 6, 3) := by decide +kernel
theorem dX6_put_9 : decode (am_b mX6_put) 9 = .ok (.bipush (-2), 2) := by decide +kernel
theorem dX6_put_11 : decode (am_b mX6_put) 11 = .ok (.ireturn, 1) := by decide +kernel
theorem dX6_put_12 : decode (am_b mX6_put) 12 = .ok (.aload_n 0, 1) := by decide +kernel
theorem dX6_put_13 : decode (am_b mX6_put) 13 = .ok (.getfield 29, 3) := by decide +kernel
theorem dX6_put_16 : decode (am_b mX6_put) 16 = .ok (.getfield 134, 3) := by decide +kernel
theorem dX6_put_19 : decode (am_b mX6_put) 19 = .ok (.iload_n 3, 1) := by decide +kernel
theorem dX6_put_20 : decode (am_b mX6_put) 20 = .ok (.iadd, 1) := by decide +kernel
theorem dX6_put_21 : decode (am_b mX6_put) 21 = .ok (.bipush 60, 2) := by decide +kernel
theorem dX6_put_23 : decode (am_b mX6_put) 23 = .ok (.if_icmp .le 6, 3) := by decide +kernel
theorem dX6_put_26 : decode (am_b mX6_put) 26 = .ok (.bipush (-4), 2) := by decide +kernel
theorem dX6_put_28 : decode (am_b mX6_put) 28 = .ok (.ireturn, 1) := by decide +kernel
theorem dX6_put_29 : decode (am_b mX6_put) 29 = .ok (.aload_n 0, 1) := by decide +kernel
theorem dX6_put_30 : decode (am_b mX6_put) 30 = .ok (.getfield 29, 3) := by decide +kernel
theorem dX6_put_33 : decode (am_b mX6_put) 33 = .ok (.lload_n 1, 1) := by decide +kernel
theorem dX6_put_34 : decode (am_b mX6_put) 34 = .ok (.iload_n 3, 1) := by decide +kernel
theorem dX6_put_35 : decode (am_b mX6_put) 35 = .ok (.invokevirtual 208, 3) := by decide +kernel
theorem dX6_put_38 : decode (am_b mX6_put) 38 = .ok (.aload_n 0, 1) := by decide +kernel
theorem dX6_put_39 : decode (am_b mX6_put) 39 = .ok (.getfield 29, 3) := by decide +kernel
theorem dX6_put_42 : decode (am_b mX6_put) 42 = .ok (.getfield 134, 3) := by decide +kernel
theorem dX6_put_45 : decode (am_b mX6_put) 45 = .ok (.ireturn, 1) := by decide +kernel
theorem dX6_init_0 : decode (am_b mX6_init) 0 = .ok (.aload_n 0, 1) := by decide +kernel
theorem dX6_init_1 : decode (am_b mX6_init) 1 = .ok (.invokespecial 1, 3) := by decide +kernel
theorem dX6_init_4 : decode (am_b mX6_init) 4 = .ok (.aload_n 0, 1) := by decide +kernel
theorem dX6_init_5 : decode (am_b mX6_init) 5 = .ok (.new 7, 3) := by decide +kernel
theorem dX6_init_8 : decode (am_b mX6_init) 8 = .ok (.dup, 1) := by decide +kernel
theorem dX6_init_9 : decode (am_b mX6_init) 9 = .ok (.invokespecial 9, 3) := by decide +kernel
theorem dX6_init_12 : decode (am_b mX6_init) 12 = .ok (.putfield 10, 3) := by decide +kernel
theorem dX6_init_15 : decode (am_b mX6_init) 15 = .ok (.aload_n 0, 1) := by decide +kernel
theorem dX6_init_16 : decode (am_b mX6_init) 16 = .ok (.new 7, 3) := by decide +kernel
theorem dX6_init_19 : decode (am_b mX6_init) 19 = .ok (.dup, 1) := by decide +kernel
theorem dX6_init_20 : decode (am_b mX6_init) 20 = .ok (.invokespecial 9, 3) := by decide +kernel
theorem dX6_init_23 : decode (am_b mX6_init) 23 = .ok (.putfield 16, 3) := by decide +kernel
theorem dX6_init_26 : decode (am_b mX6_init) 26 = .ok (.aload_n 0, 1) := by decide +kernel
theorem dX6_init_27 : decode (am_b mX6_init) 27 = .ok (.new 19, 3) := by decide +kernel
theorem dX6_init_30 : decode (am_b mX6_init) 30 = .ok (.dup, 1) := by decide +kernel
theorem dX6_init_31 : decode (am_b mX6_init) 31 = .ok (.invokespecial 21, 3) := by decide +kernel
theorem dX6_init_34 : decode (am_b mX6_init) 34 = .ok (.putfield 22, 3) := by decide +kernel
theorem dX6_init_37 : decode (am_b mX6_init) 37 = .ok (.aload_n 0, 1) := by decide +kernel
theorem dX6_init_38 : decode (am_b mX6_init) 38 = .ok (.new 26, 3) := by decide +kernel
theorem dX6_init_41 : decode (am_b mX6_init) 41 = .ok (.dup, 1) := by decide +kernel
theorem dX6_init_42 : decode (am_b mX6_init) 42 = .ok (.invokespecial 28, 3) := by decide +kernel
theorem dX6_init_45 : decode (am_b mX6_init) 45 = .ok (.putfield 29, 3) := by decide +kernel
theorem dX6_init_48 : decode (am_b mX6_init) 48 = .ok (.aload_n 0, 1) := by decide +kernel
theorem dX6_init_49 : decode (am_b mX6_init) 49 = .ok (.new 33, 3) := by decide +kernel
theorem dX6_init_52 : decode (am_b mX6_init) 52 = .ok (.dup, 1) := by decide +kernel
theorem dX6_init_53 : decode (am_b mX6_init) 53 = .ok (.invokespecial 35, 3) := by decide +kernel
theorem dX6_init_56 : decode (am_b mX6_init) 56 = .ok (.putfield 36, 3) := by decide +kernel
theorem dX6_init_59 : decode (am_b mX6_init) 59 = .ok (.aload_n 0, 1) := by decide +kernel
theorem dX6_init_60 : decode (am_b mX6_init) 60 = .ok (.iconst 2, 1) := by decide +kernel
theorem dX6_init_61 : decode (am_b mX6_init) 61 = .ok (.anewarray 7, 3) := by decide +kernel
theorem dX6_init_64 : decode (am_b mX6_init) 64 = .ok (.putfield 40, 3) := by decide +kernel
theorem dX6_init_67 : decode (am_b mX6_init) 67 = .ok (.return_, 1) := by decide +kernel
theorem dX6_save_0 : decode (am_b mX6_save) 0 = .ok (.iload_n 1, 1) := by decide +kernel
theorem dX6_save_1 : decode (am_b mX6_save) 1 = .ok (.ifCond .lt 12, 3) := by decide +kernel
theorem dX6_save_4 : decode (am_b mX6_save) 4 = .ok (.iload_n 1, 1) := by decide +kernel
theorem dX6_save_5 : decode (am_b mX6_save) 5 = .ok (.aload_n 0, 1) := by decide +kernel
theorem dX6_save_6 : decode (am_b mX6_save) 6 = .ok (.getfield 40, 3) := by decide +kernel
theorem dX6_save_9 : decode (am_b mX6_save) 9 = .ok (.arraylength, 1) := by decide +kernel
theorem dX6_save_10 : decode (am_b mX6_save) 10 = .ok (.if_icmp .lt 6, 3) := by decide +kernel
theorem dX6_save_13 : decode (am_b mX6_save) 13 = .ok (.bipush (-2), 2) := by decide +kernel
theorem dX6_save_15 : decode (am_b mX6_save) 15 = .ok (.ireturn, 1) := by decide +kernel
theorem dX6_save_16 : decode (am_b mX6_save) 16 = .ok (.aload_n 0, 1) := by decide +kernel
theorem dX6_save_17 : decode (am_b mX6_save) 17 = .ok (.getfield 40, 3) := by decide +kernel
theorem dX6_save_20 : decode (am_b mX6_save) 20 = .ok (.iload_n 1, 1) := by decide +kernel
theorem dX6_save_21 : decode (am_b mX6_save) 21 = .ok (.aaload, 1) := by decide +kernel
theorem dX6_save_22 : decode (am_b mX6_save) 22 = .ok (.ifnonnull 16, 3) := by decide +kernel
theorem dX6_save_25 : decode (am_b mX6_save) 25 = .ok (.aload_n 0, 1) := by decide +kernel
theorem dX6_save_26 : decode (am_b mX6_save) 26 = .ok (.getfield 40, 3) := by decide +kernel
theorem dX6_save_29 : decode (am_b mX6_save) 29 = .ok (.iload_n 1, 1) := by decide +kernel
theorem dX6_save_30 : decode (am_b mX6_save) 30 = .ok (.new 7, 3) := by decide +kernel
theorem dX6_save_33 : decode (am_b mX6_save) 33 = .ok (.dup, 1) := by decide +kernel
theorem dX6_save_34 : decode (am_b mX6_save) 34 = .ok (.invokespecial 9, 3) := by decide +kernel
theorem dX6_save_37 : decode (am_b mX6_save) 37 = .ok (.aastore, 1) := by decide +kernel
theorem dX6_save_38 : decode (am_b mX6_save) 38 = .ok (.aload_n 0, 1) := by decide +kernel
theorem dX6_save_39 : decode (am_b mX6_save) 39 = .ok (.getfield 40, 3) := by decide +kernel
theorem dX6_save_42 : decode (am_b mX6_save) 42 = .ok (.iload_n 1, 1) := by decide +kernel
theorem dX6_save_43 : decode (am_b mX6_save) 43 = .ok (.aaload, 1) := by decide +kernel
theorem dX6_save_44 : decode (am_b mX6_save) 44 = .ok (.aload_n 0, 1) := by decide +kernel
theorem dX6_save_45 : decode (am_b mX6_save) 45 = .ok (.getfield 10, 3) := by decide +kernel
theorem dX6_save_48 : decode (am_b mX6_save) 48 = .ok (.invokevirtual 201, 3) := by decide +kernel
theorem dX6_save_51 : decode (am_b mX6_save) 51 = .ok (.aload_n 0, 1) := by decide +kernel
theorem dX6_save_52 : decode (am_b mX6_save) 52 = .ok (.getfield 10, 3) := by decide +kernel
theorem dX6_save_55 : decode (am_b mX6_save) 55 = .ok (.getfield 79, 3) := by decide +kernel
theorem dX6_save_58 : decode (am_b mX6_save) 58 = .ok (.ireturn, 1) := by decide +kernel
theorem dX6_come_0 : decode (am_b mX6_come) 0 = .ok (.iload_n 1, 1) := by decide +kernel
theorem dX6_come_1 : decode (am_b mX6_come) 1 = .ok (.invokestatic 76, 3) := by decide +kernel
theorem dX6_come_4 : decode (am_b mX6_come) 4 = .ok (.ifCond .ne 6, 3) := by decide +kernel
theorem dX6_come_7 : decode (am_b mX6_come) 7 = .ok (.bipush (-2), 2) := by decide +kernel
theorem dX6_come_9 : decode (am_b mX6_come) 9 = .ok (.ireturn, 1) := by decide +kernel
theorem dX6_come_10 : decode (am_b mX6_come) 10 = .ok (.aload_n 0, 1) := by decide +kernel
theorem dX6_come_11 : decode (am_b mX6_come) 11 = .ok (.getfield 10, 3) := by decide +kernel
theorem dX6_come_14 : decode (am_b mX6_come) 14 = .ok (.getfield 79, 3) := by decide +kernel
theorem dX6_come_17 : decode (am_b mX6_come) 17 = .ok (.bipush 8, 2) := by decide +kernel
theorem dX6_come_19 : decode (am_b mX6_come) 19 = .ok (.if_icmp .lt 6, 3) := by decide +kernel
theorem dX6_come_22 : decode (am_b mX6_come) 22 = .ok (.bipush (-4), 2) := by decide +kernel
theorem dX6_come_24 : decode (am_b mX6_come) 24 = .ok (.ireturn, 1) := by decide +kernel
theorem dX6_come_25 : decode (am_b mX6_come) 25 = .ok (.aload_n 0, 1) := by decide +kernel
theorem dX6_come_26 : decode (am_b mX6_come) 26 = .ok (.getfield 36, 3) := by decide +kernel
theorem dX6_come_29 : decode (am_b mX6_come) 29 = .ok (.aload_n 0, 1) := by decide +kernel
theorem dX6_come_30 : decode (am_b mX6_come) 30 = .ok (.getfield 10, 3) := by decide +kernel
theorem dX6_come_33 : decode (am_b mX6_come) 33 = .ok (.invokevirtual 48, 3) := by decide +kernel
theorem dX6_come_36 : decode (am_b mX6_come) 36 = .ok (.aload_n 0, 1) := by decide +kernel
theorem dX6_come_37 : decode (am_b mX6_come) 37 = .ok (.getfield 10, 3) := by decide +kernel
theorem dX6_come_40 : decode (am_b mX6_come) 40 = .ok (.iload_n 1, 1) := by decide +kernel
theorem dX6_come_41 : decode (am_b mX6_come) 41 = .ok (.bipush (-6), 2) := by decide +kernel
theorem dX6_come_43 : decode (am_b mX6_come) 43 = .ok (.invokevirtual 82, 3) := by decide +kernel
theorem dX6_come_46 : decode (am_b mX6_come) 46 = .ok (.aload_n 0, 1) := by decide +kernel
theorem dX6_come_47 : decode (am_b mX6_come) 47 = .ok (.getfield 10, 3) := by decide +kernel
theorem dX6_come_50 : decode (am_b mX6_come) 50 = .ok (.getfield 79, 3) := by decide +kernel
theorem dX6_come_53 : decode (am_b mX6_come) 53 = .ok (.iconst 1, 1) := by decide +kernel
theorem dX6_come_54 : decode (am_b mX6_come) 54 = .ok (.isub, 1) := by decide +kernel
theorem dX6_come_55 : decode (am_b mX6_come) 55 = .ok (.ireturn, 1) := by decide +kernel
theorem dX6_go_0 : decode (am_b mX6_go) 0 = .ok (.aload_n 0, 1) := by decide +kernel
theorem dX6_go_1 : decode (am_b mX6_go) 1 = .ok (.getfield 10, 3) := by decide +kernel
theorem dX6_go_4 : decode (am_b mX6_go) 4 = .ok (.iload_n 1, 1) := by decide +kernel
theorem dX6_go_5 : decode (am_b mX6_go) 5 = .ok (.invokevirtual 85, 3) := by decide +kernel
theorem dX6_go_8 : decode (am_b mX6_go) 8 = .ok (.ifCond .ne 5, 3) := by decide +kernel
theorem dX6_go_11 : decode (am_b mX6_go) 11 = .ok (.iconst (-1), 1) := by decide +kernel
theorem dX6_go_12 : decode (am_b mX6_go) 12 = .ok (.ireturn, 1) := by decide +kernel
theorem dX6_go_13 : decode (am_b mX6_go) 13 = .ok (.aload_n 0, 1) := by decide +kernel
theorem dX6_go_14 : decode (am_b mX6_go) 14 = .ok (.getfield 36, 3) := by decide +kernel
theorem dX6_go_17 : decode (am_b mX6_go) 17 = .ok (.aload_n 0, 1) := by decide +kernel
theorem dX6_go_18 : decode (am_b mX6_go) 18 = .ok (.getfield 10, 3) := by decide +kernel
theorem dX6_go_21 : decode (am_b mX6_go) 21 = .ok (.invokevirtual 48, 3) := by decide +kernel
theorem dX6_go_24 : decode (am_b mX6_go) 24 = .ok (.aload_n 0, 1) := by decide +kernel
theorem dX6_go_25 : decode (am_b mX6_go) 25 = .ok (.getfield 10, 3) := by decide +kernel
theorem dX6_go_28 : decode (am_b mX6_go) 28 = .ok (.getfield 88, 3) := by decide +kernel
theorem dX6_go_31 : decode (am_b mX6_go) 31 = .ok (.iload_n 1, 1) := by decide +kernel
theorem dX6_go_32 : decode (am_b mX6_go) 32 = .ok (.iaload, 1) := by decide +kernel
theorem dX6_go_33 : decode (am_b mX6_go) 33 = .ok (.istore_n 2, 1) := by decide +kernel
theorem dX6_go_34 : decode (am_b mX6_go) 34 = .ok (.aload_n 0, 1) := by decide +kernel
theorem dX6_go_35 : decode (am_b mX6_go) 35 = .ok (.getfield 10, 3) := by decide +kernel
theorem dX6_go_38 : decode (am_b mX6_go) 38 = .ok (.iload_n 1, 1) := by decide +kernel
theorem dX6_go_39 : decode (am_b mX6_go) 39 = .ok (.invokevirtual 91, 3) := by decide +kernel
theorem dX6_go_42 : decode (am_b mX6_go) 42 = .ok (.iload_n 2, 1) := by decide +kernel
theorem dX6_go_43 : decode (am_b mX6_go) 43 = .ok (.ireturn, 1) := by decide +kernel
theorem dX6_height_0 : decode (am_b mX6_height) 0 = .ok (.aload_n 0, 1) := by decide +kernel
theorem dX6_height_1 : decode (am_b mX6_height) 1 = .ok (.getfield 10, 3) := by decide +kernel
theorem dX6_height_4 : decode (am_b mX6_height) 4 = .ok (.iload_n 1, 1) := by decide +kernel
theorem dX6_height_5 : decode (am_b mX6_height) 5 = .ok (.invokevirtual 85, 3) := by decide +kernel
theorem dX6_height_8 : decode (am_b mX6_height) 8 = .ok (.ifCond .ne 5, 3) := by decide +kernel
theorem dX6_height_11 : decode (am_b mX6_height) 11 = .ok (.iconst (-1), 1) := by decide +kernel
theorem dX6_height_12 : decode (am_b mX6_height) 12 = .ok (.ireturn, 1) := by decide +kernel
theorem dX6_height_13 : decode (am_b mX6_height) 13 = .ok (.iload_n 2, 1) := by decide +kernel
theorem dX6_height_14 : decode (am_b mX6_height) 14 = .ok (.invokestatic 76, 3) := by decide +kernel
theorem dX6_height_17 : decode (am_b mX6_height) 17 = .ok (.ifCond .ne 6, 3) := by decide +kernel
theorem dX6_height_20 : decode (am_b mX6_height) 20 = .ok (.bipush (-2), 2) := by decide +kernel
theorem dX6_height_22 : decode (am_b mX6_height) 22 = .ok (.ireturn, 1) := by decide +kernel
theorem dX6_height_23 : decode (am_b mX6_height) 23 = .ok (.aload_n 0, 1) := by decide +kernel
theorem dX6_height_24 : decode (am_b mX6_height) 24 = .ok (.getfield 36, 3) := by decide +kernel
theorem dX6_height_27 : decode (am_b mX6_height) 27 = .ok (.aload_n 0, 1) := by decide +kernel
theorem dX6_height_28 : decode (am_b mX6_height) 28 = .ok (.getfield 10, 3) := by decide +kernel
theorem dX6_height_31 : decode (am_b mX6_height) 31 = .ok (.invokevirtual 48, 3) := by decide +kernel
theorem dX6_height_34 : decode (am_b mX6_height) 34 = .ok (.aload_n 0, 1) := by decide +kernel
theorem dX6_height_35 : decode (am_b mX6_height) 35 = .ok (.getfield 10, 3) := by decide +kernel
theorem dX6_height_38 : decode (am_b mX6_height) 38 = .ok (.getfield 95, 3) := by decide +kernel
theorem dX6_height_41 : decode (am_b mX6_height) 41 = .ok (.iload_n 1, 1) := by decide +kernel
theorem dX6_height_42 : decode (am_b mX6_height) 42 = .ok (.iaload, 1) := by decide +kernel
theorem dX6_height_43 : decode (am_b mX6_height) 43 = .ok (.istore_n 3, 1) := by decide +kernel
theorem dX6_height_44 : decode (am_b mX6_height) 44 = .ok (.aload_n 0, 1) := by decide +kernel
theorem dX6_height_45 : decode (am_b mX6_height) 45 = .ok (.getfield 10, 3) := by decide +kernel
theorem dX6_height_48 : decode (am_b mX6_height) 48 = .ok (.getfield 95, 3) := by decide +kernel
theorem dX6_height_51 : decode (am_b mX6_height) 51 = .ok (.iload_n 1, 1) := by decide +kernel
theorem dX6_height_52 : decode (am_b mX6_height) 52 = .ok (.iload_n 2, 1) := by decide +kernel
theorem dX6_height_53 : decode (am_b mX6_height) 53 = .ok (.iastore, 1) := by decide +kernel
theorem dX6_height_54 : decode (am_b mX6_height) 54 = .ok (.iload_n 3, 1) := by decide +kernel
theorem dX6_height_55 : decode (am_b mX6_height) 55 = .ok (.ireturn, 1) := by decide +kernel
theorem dX6_pitch_0 : decode (am_b mX6_pitch) 0 = .ok (.iload_n 1, 1) := by decide +kernel
theorem dX6_pitch_1 : decode (am_b mX6_pitch) 1 = .ok (.invokestatic 60, 3) := by decide +kernel
theorem dX6_pitch_4 : decode (am_b mX6_pitch) 4 = .ok (.ifCond .ne 5, 3) := by decide +kernel
theorem dX6_pitch_7 : decode (am_b mX6_pitch) 7 = .ok (.iconst (-1), 1) := by decide +kernel
theorem dX6_pitch_8 : decode (am_b mX6_pitch) 8 = .ok (.ireturn, 1) := by decide +kernel
theorem dX6_pitch_9 : decode (am_b mX6_pitch) 9 = .ok (.iload_n 2, 1) := by decide +kernel
theorem dX6_pitch_10 : decode (am_b mX6_pitch) 10 = .ok (.tableswitch 90 0 2 #[26, 43, 52], 26) := by decide +kernel
theorem dX6_pitch_36 : decode (am_b mX6_pitch) 36 = .ok (.aload_n 0, 1) := by decide +kernel
theorem dX6_pitch_37 : decode (am_b mX6_pitch) 37 = .ok (.getfield 10, 3) := by decide +kernel
theorem dX6_pitch_40 : decode (am_b mX6_pitch) 40 = .ok (.iload_n 1, 1) := by decide +kernel
theorem dX6_pitch_41 : decode (am_b mX6_pitch) 41 = .ok (.invokevirtual 64, 3) := by decide +kernel
theorem dX6_pitch_44 : decode (am_b mX6_pitch) 44 = .ok (.ifCond .eq 7, 3) := by decide +kernel
theorem dX6_pitch_47 : decode (am_b mX6_pitch) 47 = .ok (.iconst 1, 1) := by decide +kernel
theorem dX6_pitch_48 : decode (am_b mX6_pitch) 48 = .ok (.goto 4, 3) := by decide +kernel
theorem dX6_pitch_51 : decode (am_b mX6_pitch) 51 = .ok (.iconst 0, 1) := by decide +kernel
theorem dX6_pitch_52 : decode (am_b mX6_pitch) 52 = .ok (.ireturn, 1) := by decide +kernel
theorem dX6_pitch_53 : decode (am_b mX6_pitch) 53 = .ok (.aload_n 0, 1) := by decide +kernel
theorem dX6_pitch_54 : decode (am_b mX6_pitch) 54 = .ok (.getfield 10, 3) := by decide +kernel
theorem dX6_pitch_57 : decode (am_b mX6_pitch) 57 = .ok (.iload_n 1, 1) := by decide +kernel
theorem dX6_pitch_58 : decode (am_b mX6_pitch) 58 = .ok (.invokevirtual 155, 3) := by decide +kernel
theorem dX6_pitch_61 : decode (am_b mX6_pitch) 61 = .ok (.ireturn, 1) := by decide +kernel
theorem dX6_pitch_62 : decode (am_b mX6_pitch) 62 = .ok (.aload_n 0, 1) := by decide +kernel
theorem dX6_pitch_63 : decode (am_b mX6_pitch) 63 = .ok (.getfield 22, 3) := by decide +kernel
theorem dX6_pitch_66 : decode (am_b mX6_pitch) 66 = .ok (.aload_n 0, 1) := by decide +kernel
theorem dX6_pitch_67 : decode (am_b mX6_pitch) 67 = .ok (.getfield 10, 3) := by decide +kernel
theorem dX6_pitch_70 : decode (am_b mX6_pitch) 70 = .ok (.bipush (-6), 2) := by decide +kernel
theorem dX6_pitch_72 : decode (am_b mX6_pitch) 72 = .ok (.invokevirtual 137, 3) := by decide +kernel
theorem dX6_pitch_75 : decode (am_b mX6_pitch) 75 = .ok (.aload_n 0, 1) := by decide +kernel
theorem dX6_pitch_76 : decode (am_b mX6_pitch) 76 = .ok (.getfield 22, 3) := by decide +kernel
theorem dX6_pitch_79 : decode (am_b mX6_pitch) 79 = .ok (.iload_n 1, 1) := by decide +kernel
theorem dX6_pitch_80 : decode (am_b mX6_pitch) 80 = .ok (.aload_n 0, 1) := by decide +kernel
theorem dX6_pitch_81 : decode (am_b mX6_pitch) 81 = .ok (.getfield 10, 3) := by decide +kernel
theorem dX6_pitch_84 : decode (am_b mX6_pitch) 84 = .ok (.iconst 4, 1) := by decide +kernel
theorem dX6_pitch_85 : decode (am_b mX6_pitch) 85 = .ok (.invokevirtual 52, 3) := by decide +kernel
theorem dX6_pitch_88 : decode (am_b mX6_pitch) 88 = .ok (.invokevirtual 158, 3) := by decide +kernel
theorem dX6_pitch_91 : decode (am_b mX6_pitch) 91 = .ok (.ifCond .eq 7, 3) := by decide +kernel
theorem dX6_pitch_94 : decode (am_b mX6_pitch) 94 = .ok (.iconst 1, 1) := by decide +kernel
theorem dX6_pitch_95 : decode (am_b mX6_pitch) 95 = .ok (.goto 4, 3) := by decide +kernel
theorem dX6_pitch_98 : decode (am_b mX6_pitch) 98 = .ok (.iconst 0, 1) := by decide +kernel
theorem dX6_pitch_99 : decode (am_b mX6_pitch) 99 = .ok (.ireturn, 1) := by decide +kernel
theorem dX6_pitch_100 : decode (am_b mX6_pitch) 100 = .ok (.bipush (-2), 2) := by decide +kernel
theorem dX6_pitch_102 : decode (am_b mX6_pitch) 102 = .ok (.ireturn, 1) := by decide +kernel
theorem dX6_restore_0 : decode (am_b mX6_restore) 0 = .ok (.iload_n 1, 1) := by decide +kernel
theorem dX6_restore_1 : decode (am_b mX6_restore) 1 = .ok (.ifCond .lt 12, 3) := by decide +kernel
theorem dX6_restore_4 : decode (am_b mX6_restore) 4 = .ok (.iload_n 1, 1) := by decide +kernel
theorem dX6_restore_5 : decode (am_b mX6_restore) 5 = .ok (.aload_n 0, 1) := by decide +kernel
theorem dX6_restore_6 : decode (am_b mX6_restore) 6 = .ok (.getfield 40, 3) := by decide +kernel
theorem dX6_restore_9 : decode (am_b mX6_restore) 9 = .ok (.arraylength, 1) := by decide +kernel
theorem dX6_restore_10 : decode (am_b mX6_restore) 10 = .ok (.if_icmp .lt 6, 3) := by decide +kernel
theorem dX6_restore_13 : decode (am_b mX6_restore) 13 = .ok (.bipush (-2), 2) := by decide +kernel
theorem dX6_restore_15 : decode (am_b mX6_restore) 15 = .ok (.ireturn, 1) := by decide +kernel
theorem dX6_restore_16 : decode (am_b mX6_restore) 16 = .ok (.aload_n 0, 1) := by decide +kernel
theorem dX6_restore_17 : decode (am_b mX6_restore) 17 = .ok (.getfield 40, 3) := by decide +kernel
theorem dX6_restore_20 : decode (am_b mX6_restore) 20 = .ok (.iload_n 1, 1) := by decide +kernel
theorem dX6_restore_21 : decode (am_b mX6_restore) 21 = .ok (.aaload, 1) := by decide +kernel
theorem dX6_restore_22 : decode (am_b mX6_restore) 22 = .ok (.astore_n 2, 1) := by decide +kernel
theorem dX6_restore_23 : decode (am_b mX6_restore) 23 = .ok (.aload_n 2, 1) := by decide +kernel
theorem dX6_restore_24 : decode (am_b mX6_restore) 24 = .ok (.ifnonnull 6, 3) := by decide +kernel
theorem dX6_restore_27 : decode (am_b mX6_restore) 27 = .ok (.bipush (-5), 2) := by decide +kernel
theorem dX6_restore_29 : decode (am_b mX6_restore) 29 = .ok (.ireturn, 1) := by decide +kernel
theorem dX6_restore_30 : decode (am_b mX6_restore) 30 = .ok (.aload_n 0, 1) := by decide +kernel
theorem dX6_restore_31 : decode (am_b mX6_restore) 31 = .ok (.getfield 36, 3) := by decide +kernel
theorem dX6_restore_34 : decode (am_b mX6_restore) 34 = .ok (.aload_n 0, 1) := by decide +kernel
theorem dX6_restore_35 : decode (am_b mX6_restore) 35 = .ok (.getfield 10, 3) := by decide +kernel
theorem dX6_restore_38 : decode (am_b mX6_restore) 38 = .ok (.invokevirtual 48, 3) := by decide +kernel
theorem dX6_restore_41 : decode (am_b mX6_restore) 41 = .ok (.aload_n 0, 1) := by decide +kernel
theorem dX6_restore_42 : decode (am_b mX6_restore) 42 = .ok (.getfield 10, 3) := by decide +kernel
theorem dX6_restore_45 : decode (am_b mX6_restore) 45 = .ok (.aload_n 2, 1) := by decide +kernel
theorem dX6_restore_46 : decode (am_b mX6_restore) 46 = .ok (.invokevirtual 201, 3) := by decide +kernel
theorem dX6_restore_49 : decode (am_b mX6_restore) 49 = .ok (.aload_n 0, 1) := by decide +kernel
theorem dX6_restore_50 : decode (am_b mX6_restore) 50 = .ok (.getfield 10, 3) := by decide +kernel
theorem dX6_restore_53 : decode (am_b mX6_restore) 53 = .ok (.getfield 79, 3) := by decide +kernel
theorem dX6_restore_56 : decode (am_b mX6_restore) 56 = .ok (.ireturn, 1) := by decide +kernel
theorem dX6_roof_0 : decode (am_b mX6_roof) 0 = .ok (.iload_n 1, 1) := by decide +kernel
theorem dX6_roof_1 : decode (am_b mX6_roof) 1 = .ok (.invokestatic 60, 3) := by decide +kernel
theorem dX6_roof_4 : decode (am_b mX6_roof) 4 = .ok (.ifCond .ne 5, 3) := by decide +kernel
theorem dX6_roof_7 : decode (am_b mX6_roof) 7 = .ok (.iconst (-1), 1) := by decide +kernel
theorem dX6_roof_8 : decode (am_b mX6_roof) 8 = .ok (.ireturn, 1) := by decide +kernel
theorem dX6_roof_9 : decode (am_b mX6_roof) 9 = .ok (.aload_n 0, 1) := by decide +kernel
theorem dX6_roof_10 : decode (am_b mX6_roof) 10 = .ok (.getfield 10, 3) := by decide +kernel
theorem dX6_roof_13 : decode (am_b mX6_roof) 13 = .ok (.iload_n 1, 1) := by decide +kernel
theorem dX6_roof_14 : decode (am_b mX6_roof) 14 = .ok (.invokevirtual 64, 3) := by decide +kernel
theorem dX6_roof_17 : decode (am_b mX6_roof) 17 = .ok (.iload_n 2, 1) := by decide +kernel
theorem dX6_roof_18 : decode (am_b mX6_roof) 18 = .ok (.if_icmp .ne 6, 3) := by decide +kernel
theorem dX6_roof_21 : decode (am_b mX6_roof) 21 = .ok (.bipush (-5), 2) := by decide +kernel
theorem dX6_roof_23 : decode (am_b mX6_roof) 23 = .ok (.ireturn, 1) := by decide +kernel
theorem dX6_roof_24 : decode (am_b mX6_roof) 24 = .ok (.aload_n 0, 1) := by decide +kernel
theorem dX6_roof_25 : decode (am_b mX6_roof) 25 = .ok (.getfield 36, 3) := by decide +kernel
theorem dX6_roof_28 : decode (am_b mX6_roof) 28 = .ok (.aload_n 0, 1) := by decide +kernel
theorem dX6_roof_29 : decode (am_b mX6_roof) 29 = .ok (.getfield 10, 3) := by decide +kernel
theorem dX6_roof_32 : decode (am_b mX6_roof) 32 = .ok (.invokevirtual 48, 3) := by decide +kernel
theorem dX6_roof_35 : decode (am_b mX6_roof) 35 = .ok (.aload_n 0, 1) := by decide +kernel
theorem dX6_roof_36 : decode (am_b mX6_roof) 36 = .ok (.getfield 10, 3) := by decide +kernel
theorem dX6_roof_39 : decode (am_b mX6_roof) 39 = .ok (.dup, 1) := by decide +kernel
theorem dX6_roof_40 : decode (am_b mX6_roof) 40 = .ok (.getfield 67, 3) := by decide +kernel
theorem dX6_roof_43 : decode (am_b mX6_roof) 43 = .ok (.iconst 1, 1) := by decide +kernel
theorem dX6_roof_44 : decode (am_b mX6_roof) 44 = .ok (.iload_n 1, 1) := by decide +kernel
theorem dX6_roof_45 : decode (am_b mX6_roof) 45 = .ok (.ishl, 1) := by decide +kernel
theorem dX6_roof_46 : decode (am_b mX6_roof) 46 = .ok (.ixor, 1) := by decide +kernel
theorem dX6_roof_47 : decode (am_b mX6_roof) 47 = .ok (.putfield 67, 3) := by decide +kernel
theorem dX6_roof_50 : decode (am_b mX6_roof) 50 = .ok (.aload_n 0, 1) := by decide +kernel
theorem dX6_roof_51 : decode (am_b mX6_roof) 51 = .ok (.getfield 10, 3) := by decide +kernel
theorem dX6_roof_54 : decode (am_b mX6_roof) 54 = .ok (.getfield 67, 3) := by decide +kernel
theorem dX6_roof_57 : decode (am_b mX6_roof) 57 = .ok (.invokestatic 71, 3) := by decide +kernel
theorem dX6_roof_60 : decode (am_b mX6_roof) 60 = .ok (.ireturn, 1) := by decide +kernel
theorem dX6_set_0 : decode (am_b mX6_set) 0 = .ok (.iload_n 1, 1) := by decide +kernel
theorem dX6_set_1 : decode (am_b mX6_set) 1 = .ok (.ifCond .lt 11, 3) := by decide +kernel
theorem dX6_set_4 : decode (am_b mX6_set) 4 = .ok (.iload_n 1, 1) := by decide +kernel
theorem dX6_set_5 : decode (am_b mX6_set) 5 = .ok (.getstatic 44, 3) := by decide +kernel
theorem dX6_set_8 : decode (am_b mX6_set) 8 = .ok (.arraylength, 1) := by decide +kernel
theorem dX6_set_9 : decode (am_b mX6_set) 9 = .ok (.if_icmp .lt 6, 3) := by decide +kernel
theorem dX6_set_12 : decode (am_b mX6_set) 12 = .ok (.bipush (-2), 2) := by decide +kernel
theorem dX6_set_14 : decode (am_b mX6_set) 14 = .ok (.ireturn, 1) := by decide +kernel
theorem dX6_set_15 : decode (am_b mX6_set) 15 = .ok (.iload_n 2, 1) := by decide +kernel
theorem dX6_set_16 : decode (am_b mX6_set) 16 = .ok (.ifCond .lt 12, 3) := by decide +kernel
theorem dX6_set_19 : decode (am_b mX6_set) 19 = .ok (.iload_n 2, 1) := by decide +kernel
theorem dX6_set_20 : decode (am_b mX6_set) 20 = .ok (.getstatic 44, 3) := by decide +kernel
theorem dX6_set_23 : decode (am_b mX6_set) 23 = .ok (.iload_n 1, 1) := by decide +kernel
theorem dX6_set_24 : decode (am_b mX6_set) 24 = .ok (.iaload, 1) := by decide +kernel
theorem dX6_set_25 : decode (am_b mX6_set) 25 = .ok (.if_icmp .le 6, 3) := by decide +kernel
theorem dX6_set_28 : decode (am_b mX6_set) 28 = .ok (.bipush (-2), 2) := by decide +kernel
theorem dX6_set_30 : decode (am_b mX6_set) 30 = .ok (.ireturn, 1) := by decide +kernel
theorem dX6_set_31 : decode (am_b mX6_set) 31 = .ok (.aload_n 0, 1) := by decide +kernel
theorem dX6_set_32 : decode (am_b mX6_set) 32 = .ok (.getfield 36, 3) := by decide +kernel
theorem dX6_set_35 : decode (am_b mX6_set) 35 = .ok (.aload_n 0, 1) := by decide +kernel
theorem dX6_set_36 : decode (am_b mX6_set) 36 = .ok (.getfield 10, 3) := by decide +kernel
theorem dX6_set_39 : decode (am_b mX6_set) 39 = .ok (.invokevirtual 48, 3) := by decide +kernel
theorem dX6_set_42 : decode (am_b mX6_set) 42 = .ok (.aload_n 0, 1) := by decide +kernel
theorem dX6_set_43 : decode (am_b mX6_set) 43 = .ok (.getfield 10, 3) := by decide +kernel
theorem dX6_set_46 : decode (am_b mX6_set) 46 = .ok (.iload_n 1, 1) := by decide +kernel
theorem dX6_set_47 : decode (am_b mX6_set) 47 = .ok (.invokevirtual 52, 3) := by decide +kernel
theorem dX6_set_50 : decode (am_b mX6_set) 50 = .ok (.istore_n 3, 1) := by decide +kernel
theorem dX6_set_51 : decode (am_b mX6_set) 51 = .ok (.aload_n 0, 1) := by decide +kernel
theorem dX6_set_52 : decode (am_b mX6_set) 52 = .ok (.getfield 10, 3) := by decide +kernel
theorem dX6_set_55 : decode (am_b mX6_set) 55 = .ok (.iload_n 1, 1) := by decide +kernel
theorem dX6_set_56 : decode (am_b mX6_set) 56 = .ok (.iload_n 2, 1) := by decide +kernel
theorem dX6_set_57 : decode (am_b mX6_set) 57 = .ok (.invokevirtual 56, 3) := by decide +kernel
theorem dX6_set_60 : decode (am_b mX6_set) 60 = .ok (.iload_n 3, 1) := by decide +kernel
theorem dX6_set_61 : decode (am_b mX6_set) 61 = .ok (.ireturn, 1) := by decide +kernel
theorem dX6_shuffle_0 : decode (am_b mX6_shuffle) 0 = .ok (.iload_n 1, 1) := by decide +kernel
theorem dX6_shuffle_1 : decode (am_b mX6_shuffle) 1 = .ok (.ifCond .ge 6, 3) := by decide +kernel
theorem dX6_shuffle_4 : decode (am_b mX6_shuffle) 4 = .ok (.bipush (-2), 2) := by decide +kernel
theorem dX6_shuffle_6 : decode (am_b mX6_shuffle) 6 = .ok (.ireturn, 1) := by decide +kernel
theorem dX6_shuffle_7 : decode (am_b mX6_shuffle) 7 = .ok (.aload_n 0, 1) := by decide +kernel
theorem dX6_shuffle_8 : decode (am_b mX6_shuffle) 8 = .ok (.getfield 36, 3) := by decide +kernel
theorem dX6_shuffle_11 : decode (am_b mX6_shuffle) 11 = .ok (.aload_n 0, 1) := by decide +kernel
theorem dX6_shuffle_12 : decode (am_b mX6_shuffle) 12 = .ok (.getfield 10, 3) := by decide +kernel
theorem dX6_shuffle_15 : decode (am_b mX6_shuffle) 15 = .ok (.invokevirtual 48, 3) := by decide +kernel
theorem dX6_shuffle_18 : decode (am_b mX6_shuffle) 18 = .ok (.aload_n 0, 1) := by decide +kernel
theorem dX6_shuffle_19 : decode (am_b mX6_shuffle) 19 = .ok (.getfield 10, 3) := by decide +kernel
theorem dX6_shuffle_22 : decode (am_b mX6_shuffle) 22 = .ok (.getfield 105, 3) := by decide +kernel
theorem dX6_shuffle_25 : decode (am_b mX6_shuffle) 25 = .ok (.l2i, 1) := by decide +kernel
theorem dX6_shuffle_26 : decode (am_b mX6_shuffle) 26 = .ok (.istore_n 2, 1) := by decide +kernel
theorem dX6_shuffle_27 : decode (am_b mX6_shuffle) 27 = .ok (.aload_n 0, 1) := by decide +kernel
theorem dX6_shuffle_28 : decode (am_b mX6_shuffle) 28 = .ok (.getfield 10, 3) := by decide +kernel
theorem dX6_shuffle_31 : decode (am_b mX6_shuffle) 31 = .ok (.iload_n 1, 1) := by decide +kernel
theorem dX6_shuffle_32 : decode (am_b mX6_shuffle) 32 = .ok (.i2l, 1) := by decide +kernel
theorem dX6_shuffle_33 : decode (am_b mX6_shuffle) 33 = .ok (.putfield 105, 3) := by decide +kernel
theorem dX6_shuffle_36 : decode (am_b mX6_shuffle) 36 = .ok (.iload_n 2, 1) := by decide +kernel
theorem dX6_shuffle_37 : decode (am_b mX6_shuffle) 37 = .ok (.ireturn, 1) := by decide +kernel
theorem dX6_stoppingFrom_0 : decode (am_b mX6_stoppingFrom) 0 = .ok (.aload_n 0, 1) := by decide +kernel
theorem dX6_stoppingFrom_1 : decode (am_b mX6_stoppingFrom) 1 = .ok (.getfield 22, 3) := by decide +kernel
theorem dX6_stoppingFrom_4 : decode (am_b mX6_stoppingFrom) 4 = .ok (.aload_n 0, 1) := by decide +kernel
theorem dX6_stoppingFrom_5 : decode (am_b mX6_stoppingFrom) 5 = .ok (.getfield 10, 3) := by decide +kernel
theorem dX6_stoppingFrom_8 : decode (am_b mX6_stoppingFrom) 8 = .ok (.bipush (-6), 2) := by decide +kernel
theorem dX6_stoppingFrom_10 : decode (am_b mX6_stoppingFrom) 10 = .ok (.invokevirtual 137, 3) := by decide +kernel
theorem dX6_stoppingFrom_13 : decode (am_b mX6_stoppingFrom) 13 = .ok (.aload_n 0, 1) := by decide +kernel
theorem dX6_stoppingFrom_14 : decode (am_b mX6_stoppingFrom) 14 = .ok (.getfield 22, 3) := by decide +kernel
theorem dX6_stoppingFrom_17 : decode (am_b mX6_stoppingFrom) 17 = .ok (.iload_n 1, 1) := by decide +kernel
theorem dX6_stoppingFrom_18 : decode (am_b mX6_stoppingFrom) 18 = .ok (.invokevirtual 168, 3) := by decide +kernel
theorem dX6_stoppingFrom_21 : decode (am_b mX6_stoppingFrom) 21 = .ok (.aload_n 0, 1) := by decide +kernel
theorem dX6_stoppingFrom_22 : decode (am_b mX6_stoppingFrom) 22 = .ok (.getfield 10, 3) := by decide +kernel
theorem dX6_stoppingFrom_25 : decode (am_b mX6_stoppingFrom) 25 = .ok (.getfield 102, 3) := by decide +kernel
theorem dX6_stoppingFrom_28 : decode (am_b mX6_stoppingFrom) 28 = .ok (.iload_n 2, 1) := by decide +kernel
theorem dX6_stoppingFrom_29 : decode (am_b mX6_stoppingFrom) 29 = .ok (.iaload, 1) := by decide +kernel
theorem dX6_stoppingFrom_30 : decode (am_b mX6_stoppingFrom) 30 = .ok (.aload_n 0, 1) := by decide +kernel
theorem dX6_stoppingFrom_31 : decode (am_b mX6_stoppingFrom) 31 = .ok (.getfield 10, 3) := by decide +kernel
theorem dX6_stoppingFrom_34 : decode (am_b mX6_stoppingFrom) 34 = .ok (.getfield 95, 3) := by decide +kernel
theorem dX6_stoppingFrom_37 : decode (am_b mX6_stoppingFrom) 37 = .ok (.iload_n 2, 1) := by decide +kernel
theorem dX6_stoppingFrom_38 : decode (am_b mX6_stoppingFrom) 38 = .ok (.iaload, 1) := by decide +kernel
theorem dX6_stoppingFrom_39 : decode (am_b mX6_stoppingFrom) 39 = .ok (.invokevirtual 215, 3) := by decide +kernel
theorem dX6_stoppingFrom_42 : decode (am_b mX6_stoppingFrom) 42 = .ok (.ireturn, 1) := by decide +kernel
theorem dX6_stoppingNowhere_0 : decode (am_b mX6_stoppingNowhere) 0 = .ok (.aload_n 0, 1) := by decide +kernel
theorem dX6_stoppingNowhere_1 : decode (am_b mX6_stoppingNowhere) 1 = .ok (.getfield 22, 3) := by decide +kernel
theorem dX6_stoppingNowhere_4 : decode (am_b mX6_stoppingNowhere) 4 = .ok (.aload_n 0, 1) := by decide +kernel
theorem dX6_stoppingNowhere_5 : decode (am_b mX6_stoppingNowhere) 5 = .ok (.getfield 10, 3) := by decide +kernel
theorem dX6_stoppingNowhere_8 : decode (am_b mX6_stoppingNowhere) 8 = .ok (.bipush (-6), 2) := by decide +kernel
theorem dX6_stoppingNowhere_10 : decode (am_b mX6_stoppingNowhere) 10 = .ok (.invokevirtual 137, 3) := by decide +kernel
theorem dX6_stoppingNowhere_13 : decode (am_b mX6_stoppingNowhere) 13 = .ok (.aload_n 0, 1) := by decide +kernel
theorem dX6_stoppingNowhere_14 : decode (am_b mX6_stoppingNowhere) 14 = .ok (.getfield 22, 3) := by decide +kernel
theorem dX6_stoppingNowhere_17 : decode (am_b mX6_stoppingNowhere) 17 = .ok (.getfield 218, 3) := by decide +kernel
theorem dX6_stoppingNowhere_20 : decode (am_b mX6_stoppingNowhere) 20 = .ok (.getfield 222, 3) := by decide +kernel
theorem dX6_stoppingNowhere_23 : decode (am_b mX6_stoppingNowhere) 23 = .ok (.aload_n 0, 1) := by decide +kernel
theorem dX6_stoppingNowhere_24 : decode (am_b mX6_stoppingNowhere) 24 = .ok (.getfield 22, 3) := by decide +kernel
theorem dX6_stoppingNowhere_27 : decode (am_b mX6_stoppingNowhere) 27 = .ok (.getfield 225, 3) := by decide +kernel
theorem dX6_stoppingNowhere_30 : decode (am_b mX6_stoppingNowhere) 30 = .ok (.getfield 222, 3) := by decide +kernel
theorem dX6_stoppingNowhere_33 : decode (am_b mX6_stoppingNowhere) 33 = .ok (.iadd, 1) := by decide +kernel
theorem dX6_stoppingNowhere_34 : decode (am_b mX6_stoppingNowhere) 34 = .ok (.ireturn, 1) := by decide +kernel
theorem dX6_undo_0 : decode (am_b mX6_undo) 0 = .ok (.aload_n 0, 1) := by decide +kernel
theorem dX6_undo_1 : decode (am_b mX6_undo) 1 = .ok (.getfield 36, 3) := by decide +kernel
theorem dX6_undo_4 : decode (am_b mX6_undo) 4 = .ok (.getfield 192, 3) := by decide +kernel
theorem dX6_undo_7 : decode (am_b mX6_undo) 7 = .ok (.ifCond .ne 6, 3) := by decide +kernel
theorem dX6_undo_10 : decode (am_b mX6_undo) 10 = .ok (.bipush (-5), 2) := by decide +kernel
theorem dX6_undo_12 : decode (am_b mX6_undo) 12 = .ok (.ireturn, 1) := by decide +kernel
theorem dX6_undo_13 : decode (am_b mX6_undo) 13 = .ok (.aload_n 0, 1) := by decide +kernel
theorem dX6_undo_14 : decode (am_b mX6_undo) 14 = .ok (.getfield 36, 3) := by decide +kernel
theorem dX6_undo_17 : decode (am_b mX6_undo) 17 = .ok (.aload_n 0, 1) := by decide +kernel
theorem dX6_undo_18 : decode (am_b mX6_undo) 18 = .ok (.getfield 10, 3) := by decide +kernel
theorem dX6_undo_21 : decode (am_b mX6_undo) 21 = .ok (.invokevirtual 212, 3) := by decide +kernel
theorem dX6_undo_24 : decode (am_b mX6_undo) 24 = .ok (.aload_n 0, 1) := by decide +kernel
theorem dX6_undo_25 : decode (am_b mX6_undo) 25 = .ok (.getfield 36, 3) := by decide +kernel
theorem dX6_undo_28 : decode (am_b mX6_undo) 28 = .ok (.getfield 192, 3) := by decide +kernel
theorem dX6_undo_31 : decode (am_b mX6_undo) 31 = .ok (.ireturn, 1) := by decide +kernel
theorem dX6_bestHeight_0 : decode (am_b mX6_bestHeight) 0 = .ok (.aload_n 0, 1) := by decide +kernel
theorem dX6_bestHeight_1 : decode (am_b mX6_bestHeight) 1 = .ok (.getfield 10, 3) := by decide +kernel
theorem dX6_bestHeight_4 : decode (am_b mX6_bestHeight) 4 = .ok (.iload_n 1, 1) := by decide +kernel
theorem dX6_bestHeight_5 : decode (am_b mX6_bestHeight) 5 = .ok (.invokevirtual 85, 3) := by decide +kernel
theorem dX6_bestHeight_8 : decode (am_b mX6_bestHeight) 8 = .ok (.ifCond .ne 5, 3) := by decide +kernel
theorem dX6_bestHeight_11 : decode (am_b mX6_bestHeight) 11 = .ok (.iconst (-1), 1) := by decide +kernel
theorem dX6_bestHeight_12 : decode (am_b mX6_bestHeight) 12 = .ok (.ireturn, 1) := by decide +kernel
theorem dX6_bestHeight_13 : decode (am_b mX6_bestHeight) 13 = .ok (.aload_n 0, 1) := by decide +kernel
theorem dX6_bestHeight_14 : decode (am_b mX6_bestHeight) 14 = .ok (.getfield 10, 3) := by decide +kernel
theorem dX6_bestHeight_17 : decode (am_b mX6_bestHeight) 17 = .ok (.iload_n 1, 1) := by decide +kernel
theorem dX6_bestHeight_18 : decode (am_b mX6_bestHeight) 18 = .ok (.invokevirtual 161, 3) := by decide +kernel
theorem dX6_bestHeight_21 : decode (am_b mX6_bestHeight) 21 = .ok (.ifCond .ne 6, 3) := by decide +kernel
theorem dX6_bestHeight_24 : decode (am_b mX6_bestHeight) 24 = .ok (.bipush (-5), 2) := by decide +kernel
theorem dX6_bestHeight_26 : decode (am_b mX6_bestHeight) 26 = .ok (.ireturn, 1) := by decide +kernel
theorem dX6_bestHeight_27 : decode (am_b mX6_bestHeight) 27 = .ok (.aload_n 0, 1) := by decide +kernel
theorem dX6_bestHeight_28 : decode (am_b mX6_bestHeight) 28 = .ok (.getfield 22, 3) := by decide +kernel
theorem dX6_bestHeight_31 : decode (am_b mX6_bestHeight) 31 = .ok (.aload_n 0, 1) := by decide +kernel
theorem dX6_bestHeight_32 : decode (am_b mX6_bestHeight) 32 = .ok (.getfield 10, 3) := by decide +kernel
theorem dX6_bestHeight_35 : decode (am_b mX6_bestHeight) 35 = .ok (.iload_n 1, 1) := by decide +kernel
theorem dX6_bestHeight_36 : decode (am_b mX6_bestHeight) 36 = .ok (.invokevirtual 137, 3) := by decide +kernel
theorem dX6_bestHeight_39 : decode (am_b mX6_bestHeight) 39 = .ok (.iconst 1, 1) := by decide +kernel
theorem dX6_bestHeight_40 : decode (am_b mX6_bestHeight) 40 = .ok (.istore_n 2, 1) := by decide +kernel
theorem dX6_bestHeight_41 : decode (am_b mX6_bestHeight) 41 = .ok (.aload_n 0, 1) := by decide +kernel
theorem dX6_bestHeight_42 : decode (am_b mX6_bestHeight) 42 = .ok (.getfield 22, 3) := by decide +kernel
theorem dX6_bestHeight_45 : decode (am_b mX6_bestHeight) 45 = .ok (.aload_n 0, 1) := by decide +kernel
theorem dX6_bestHeight_46 : decode (am_b mX6_bestHeight) 46 = .ok (.getfield 10, 3) := by decide +kernel
theorem dX6_bestHeight_49 : decode (am_b mX6_bestHeight) 49 = .ok (.getfield 102, 3) := by decide +kernel
theorem dX6_bestHeight_52 : decode (am_b mX6_bestHeight) 52 = .ok (.iload_n 1, 1) := by decide +kernel
theorem dX6_bestHeight_53 : decode (am_b mX6_bestHeight) 53 = .ok (.iaload, 1) := by decide +kernel
theorem dX6_bestHeight_54 : decode (am_b mX6_bestHeight) 54 = .ok (.iload_n 2, 1) := by decide +kernel
theorem dX6_bestHeight_55 : decode (am_b mX6_bestHeight) 55 = .ok (.invokevirtual 141, 3) := by decide +kernel
theorem dX6_bestHeight_58 : decode (am_b mX6_bestHeight) 58 = .ok (.istore_n 3, 1) := by decide +kernel
theorem dX6_bestHeight_59 : decode (am_b mX6_bestHeight) 59 = .ok (.iconst 2, 1) := by decide +kernel
theorem dX6_bestHeight_60 : decode (am_b mX6_bestHeight) 60 = .ok (.istore 4, 2) := by decide +kernel
theorem dX6_bestHeight_62 : decode (am_b mX6_bestHeight) 62 = .ok (.iload 4, 2) := by decide +kernel
theorem dX6_bestHeight_64 : decode (am_b mX6_bestHeight) 64 = .ok (.bipush 9, 2) := by decide +kernel
theorem dX6_bestHeight_66 : decode (am_b mX6_bestHeight) 66 = .ok (.if_icmp .gt 41, 3) := by decide +kernel
theorem dX6_bestHeight_69 : decode (am_b mX6_bestHeight) 69 = .ok (.aload_n 0, 1) := by decide +kernel
theorem dX6_bestHeight_70 : decode (am_b mX6_bestHeight) 70 = .ok (.getfield 22, 3) := by decide +kernel
theorem dX6_bestHeight_73 : decode (am_b mX6_bestHeight) 73 = .ok (.aload_n 0, 1) := by decide +kernel
theorem dX6_bestHeight_74 : decode (am_b mX6_bestHeight) 74 = .ok (.getfield 10, 3) := by decide +kernel
theorem dX6_bestHeight_77 : decode (am_b mX6_bestHeight) 77 = .ok (.getfield 102, 3) := by decide +kernel
theorem dX6_bestHeight_80 : decode (am_b mX6_bestHeight) 80 = .ok (.iload_n 1, 1) := by decide +kernel
theorem dX6_bestHeight_81 : decode (am_b mX6_bestHeight) 81 = .ok (.iaload, 1) := by decide +kernel
theorem dX6_bestHeight_82 : decode (am_b mX6_bestHeight) 82 = .ok (.iload 4, 2) := by decide +kernel
theorem dX6_bestHeight_84 : decode (am_b mX6_bestHeight) 84 = .ok (.invokevirtual 141, 3) := by decide +kernel
theorem dX6_bestHeight_87 : decode (am_b mX6_bestHeight) 87 = .ok (.istore 5, 2) := by decide +kernel
theorem dX6_bestHeight_89 : decode (am_b mX6_bestHeight) 89 = .ok (.iload 5, 2) := by decide +kernel
theorem dX6_bestHeight_91 : decode (am_b mX6_bestHeight) 91 = .ok (.iload_n 3, 1) := by decide +kernel
theorem dX6_bestHeight_92 : decode (am_b mX6_bestHeight) 92 = .ok (.if_icmp .le 9, 3) := by decide +kernel
theorem dX6_bestHeight_95 : decode (am_b mX6_bestHeight) 95 = .ok (.iload 4, 2) := by decide +kernel
theorem dX6_bestHeight_97 : decode (am_b mX6_bestHeight) 97 = .ok (.istore_n 2, 1) := by decide +kernel
theorem dX6_bestHeight_98 : decode (am_b mX6_bestHeight) 98 = .ok (.iload 5, 2) := by decide +kernel
theorem dX6_bestHeight_100 : decode (am_b mX6_bestHeight) 100 = .ok (.istore_n 3, 1) := by decide +kernel
theorem dX6_bestHeight_101 : decode (am_b mX6_bestHeight) 101 = .ok (.iinc 4 1, 3) := by decide +kernel
theorem dX6_bestHeight_104 : decode (am_b mX6_bestHeight) 104 = .ok (.goto (-42), 3) := by decide +kernel
theorem dX6_bestHeight_107 : decode (am_b mX6_bestHeight) 107 = .ok (.iload_n 2, 1) := by decide +kernel
theorem dX6_bestHeight_108 : decode (am_b mX6_bestHeight) 108 = .ok (.ireturn, 1) := by decide +kernel
theorem dX6_booth_0 : decode (am_b mX6_booth) 0 = .ok (.aload_n 0, 1) := by decide +kernel
theorem dX6_booth_1 : decode (am_b mX6_booth) 1 = .ok (.getfield 10, 3) := by decide +kernel
theorem dX6_booth_4 : decode (am_b mX6_booth) 4 = .ok (.iload_n 1, 1) := by decide +kernel
theorem dX6_booth_5 : decode (am_b mX6_booth) 5 = .ok (.invokevirtual 85, 3) := by decide +kernel
theorem dX6_booth_8 : decode (am_b mX6_booth) 8 = .ok (.ifCond .ne 5, 3) := by decide +kernel
theorem dX6_booth_11 : decode (am_b mX6_booth) 11 = .ok (.iconst (-1), 1) := by decide +kernel
theorem dX6_booth_12 : decode (am_b mX6_booth) 12 = .ok (.ireturn, 1) := by decide +kernel
theorem dX6_booth_13 : decode (am_b mX6_booth) 13 = .ok (.iload_n 2, 1) := by decide +kernel
theorem dX6_booth_14 : decode (am_b mX6_booth) 14 = .ok (.tableswitch 149 0 7 #[46, 56, 66, 105, 112, 119, 129, 139], 46) := by decide +kernel
theorem dX6_booth_60 : decode (am_b mX6_booth) 60 = .ok (.aload_n 0, 1) := by decide +kernel
theorem dX6_booth_61 : decode (am_b mX6_booth) 61 = .ok (.getfield 10, 3) := by decide +kernel
theorem dX6_booth_64 : decode (am_b mX6_booth) 64 = .ok (.getfield 95, 3) := by decide +kernel
theorem dX6_booth_67 : decode (am_b mX6_booth) 67 = .ok (.iload_n 1, 1) := by decide +kernel
theorem dX6_booth_68 : decode (am_b mX6_booth) 68 = .ok (.iaload, 1) := by decide +kernel
theorem dX6_booth_69 : decode (am_b mX6_booth) 69 = .ok (.ireturn, 1) := by decide +kernel
theorem dX6_booth_70 : decode (am_b mX6_booth) 70 = .ok (.aload_n 0, 1) := by decide +kernel
theorem dX6_booth_71 : decode (am_b mX6_booth) 71 = .ok (.getfield 10, 3) := by decide +kernel
theorem dX6_booth_74 : decode (am_b mX6_booth) 74 = .ok (.getfield 102, 3) := by decide +kernel
theorem dX6_booth_77 : decode (am_b mX6_booth) 77 = .ok (.iload_n 1, 1) := by decide +kernel
theorem dX6_booth_78 : decode (am_b mX6_booth) 78 = .ok (.iaload, 1) := by decide +kernel
theorem dX6_booth_79 : decode (am_b mX6_booth) 79 = .ok (.ireturn, 1) := by decide +kernel
theorem dX6_booth_80 : decode (am_b mX6_booth) 80 = .ok (.aload_n 0, 1) := by decide +kernel
theorem dX6_booth_81 : decode (am_b mX6_booth) 81 = .ok (.getfield 22, 3) := by decide +kernel
theorem dX6_booth_84 : decode (am_b mX6_booth) 84 = .ok (.aload_n 0, 1) := by decide +kernel
theorem dX6_booth_85 : decode (am_b mX6_booth) 85 = .ok (.getfield 10, 3) := by decide +kernel
theorem dX6_booth_88 : decode (am_b mX6_booth) 88 = .ok (.bipush (-6), 2) := by decide +kernel
theorem dX6_booth_90 : decode (am_b mX6_booth) 90 = .ok (.invokevirtual 137, 3) := by decide +kernel
theorem dX6_booth_93 : decode (am_b mX6_booth) 93 = .ok (.aload_n 0, 1) := by decide +kernel
theorem dX6_booth_94 : decode (am_b mX6_booth) 94 = .ok (.getfield 22, 3) := by decide +kernel
theorem dX6_booth_97 : decode (am_b mX6_booth) 97 = .ok (.aload_n 0, 1) := by decide +kernel
theorem dX6_booth_98 : decode (am_b mX6_booth) 98 = .ok (.getfield 10, 3) := by decide +kernel
theorem dX6_booth_101 : decode (am_b mX6_booth) 101 = .ok (.getfield 102, 3) := by decide +kernel
theorem dX6_booth_104 : decode (am_b mX6_booth) 104 = .ok (.iload_n 1, 1) := by decide +kernel
theorem dX6_booth_105 : decode (am_b mX6_booth) 105 = .ok (.iaload, 1) := by decide +kernel
theorem dX6_booth_106 : decode (am_b mX6_booth) 106 = .ok (.aload_n 0, 1) := by decide +kernel
theorem dX6_booth_107 : decode (am_b mX6_booth) 107 = .ok (.getfield 10, 3) := by decide +kernel
theorem dX6_booth_110 : decode (am_b mX6_booth) 110 = .ok (.getfield 95, 3) := by decide +kernel
theorem dX6_booth_113 : decode (am_b mX6_booth) 113 = .ok (.iload_n 1, 1) := by decide +kernel
theorem dX6_booth_114 : decode (am_b mX6_booth) 114 = .ok (.iaload, 1) := by decide +kernel
theorem dX6_booth_115 : decode (am_b mX6_booth) 115 = .ok (.invokevirtual 141, 3) := by decide +kernel
theorem dX6_booth_118 : decode (am_b mX6_booth) 118 = .ok (.ireturn, 1) := by decide +kernel
theorem dX6_booth_119 : decode (am_b mX6_booth) 119 = .ok (.aload_n 0, 1) := by decide +kernel
theorem dX6_booth_120 : decode (am_b mX6_booth) 120 = .ok (.iconst 1, 1) := by decide +kernel
theorem dX6_booth_121 : decode (am_b mX6_booth) 121 = .ok (.iload_n 1, 1) := by decide +kernel
theorem dX6_booth_122 : decode (am_b mX6_booth) 122 = .ok (.invokevirtual 145, 3) := by decide +kernel
theorem dX6_booth_125 : decode (am_b mX6_booth) 125 = .ok (.ireturn, 1) := by decide +kernel
theorem dX6_booth_126 : decode (am_b mX6_booth) 126 = .ok (.aload_n 0, 1) := by decide +kernel
theorem dX6_booth_127 : decode (am_b mX6_booth) 127 = .ok (.iconst 0, 1) := by decide +kernel
theorem dX6_booth_128 : decode (am_b mX6_booth) 128 = .ok (.iload_n 1, 1) := by decide +kernel
theorem dX6_booth_129 : decode (am_b mX6_booth) 129 = .ok (.invokevirtual 145, 3) := by decide +kernel
theorem dX6_booth_132 : decode (am_b mX6_booth) 132 = .ok (.ireturn, 1) := by decide +kernel
theorem dX6_booth_133 : decode (am_b mX6_booth) 133 = .ok (.aload_n 0, 1) := by decide +kernel
theorem dX6_booth_134 : decode (am_b mX6_booth) 134 = .ok (.getfield 10, 3) := by decide +kernel
theorem dX6_booth_137 : decode (am_b mX6_booth) 137 = .ok (.getfield 88, 3) := by decide +kernel
theorem dX6_booth_140 : decode (am_b mX6_booth) 140 = .ok (.iload_n 1, 1) := by decide +kernel
theorem dX6_booth_141 : decode (am_b mX6_booth) 141 = .ok (.iaload, 1) := by decide +kernel
theorem dX6_booth_142 : decode (am_b mX6_booth) 142 = .ok (.ireturn, 1) := by decide +kernel
theorem dX6_booth_143 : decode (am_b mX6_booth) 143 = .ok (.aload_n 0, 1) := by decide +kernel
theorem dX6_booth_144 : decode (am_b mX6_booth) 144 = .ok (.getfield 10, 3) := by decide +kernel
theorem dX6_booth_147 : decode (am_b mX6_booth) 147 = .ok (.getfield 149, 3) := by decide +kernel
theorem dX6_booth_150 : decode (am_b mX6_booth) 150 = .ok (.iload_n 1, 1) := by decide +kernel
theorem dX6_booth_151 : decode (am_b mX6_booth) 151 = .ok (.iaload, 1) := by decide +kernel
theorem dX6_booth_152 : decode (am_b mX6_booth) 152 = .ok (.ireturn, 1) := by decide +kernel
theorem dX6_booth_153 : decode (am_b mX6_booth) 153 = .ok (.aload_n 0, 1) := by decide +kernel
theorem dX6_booth_154 : decode (am_b mX6_booth) 154 = .ok (.getfield 10, 3) := by decide +kernel
theorem dX6_booth_157 : decode (am_b mX6_booth) 157 = .ok (.getfield 152, 3) := by decide +kernel
theorem dX6_booth_160 : decode (am_b mX6_booth) 160 = .ok (.iload_n 1, 1) := by decide +kernel
theorem dX6_booth_161 : decode (am_b mX6_booth) 161 = .ok (.iaload, 1) := by decide +kernel
theorem dX6_booth_162 : decode (am_b mX6_booth) 162 = .ok (.ireturn, 1) := by decide +kernel
theorem dX6_booth_163 : decode (am_b mX6_booth) 163 = .ok (.bipush (-2), 2) := by decide +kernel
theorem dX6_booth_165 : decode (am_b mX6_booth) 165 = .ok (.ireturn, 1) := by decide +kernel
theorem dX6_count_0 : decode (am_b mX6_count) 0 = .ok (.iload_n 1, 1) := by decide +kernel
theorem dX6_count_1 : decode (am_b mX6_count) 1 = .ok (.ifCond .lt 20, 3) := by decide +kernel
theorem dX6_count_4 : decode (am_b mX6_count) 4 = .ok (.iload_n 1, 1) := by decide +kernel
theorem dX6_count_5 : decode (am_b mX6_count) 5 = .ok (.getstatic 177, 3) := by decide +kernel
theorem dX6_count_8 : decode (am_b mX6_count) 8 = .ok (.arraylength, 1) := by decide +kernel
theorem dX6_count_9 : decode (am_b mX6_count) 9 = .ok (.if_icmp .ge 12, 3) := by decide +kernel
theorem dX6_count_12 : decode (am_b mX6_count) 12 = .ok (.aload_n 0, 1) := by decide +kernel
theorem dX6_count_13 : decode (am_b mX6_count) 13 = .ok (.getfield 10, 3) := by decide +kernel
theorem dX6_count_16 : decode (am_b mX6_count) 16 = .ok (.iload_n 1, 1) := by decide +kernel
theorem dX6_count_17 : decode (am_b mX6_count) 17 = .ok (.invokevirtual 52, 3) := by decide +kernel
theorem dX6_count_20 : decode (am_b mX6_count) 20 = .ok (.ireturn, 1) := by decide +kernel
theorem dX6_count_21 : decode (am_b mX6_count) 21 = .ok (.iload_n 1, 1) := by decide +kernel
theorem dX6_count_22 : decode (am_b mX6_count) 22 = .ok (.tableswitch 159 6 16 #[58, 67, 75, 83, 91, 114, 119, 127, 135, 143, 151], 58) := by decide +kernel
theorem dX6_count_80 : decode (am_b mX6_count) 80 = .ok (.aload_n 0, 1) := by decide +kernel
theorem dX6_count_81 : decode (am_b mX6_count) 81 = .ok (.getfield 10, 3) := by decide +kernel
theorem dX6_count_84 : decode (am_b mX6_count) 84 = .ok (.getfield 105, 3) := by decide +kernel
theorem dX6_count_87 : decode (am_b mX6_count) 87 = .ok (.l2i, 1) := by decide +kernel
theorem dX6_count_88 : decode (am_b mX6_count) 88 = .ok (.ireturn, 1) := by decide +kernel
theorem dX6_count_89 : decode (am_b mX6_count) 89 = .ok (.aload_n 0, 1) := by decide +kernel
theorem dX6_count_90 : decode (am_b mX6_count) 90 = .ok (.getfield 10, 3) := by decide +kernel
theorem dX6_count_93 : decode (am_b mX6_count) 93 = .ok (.getfield 79, 3) := by decide +kernel
theorem dX6_count_96 : decode (am_b mX6_count) 96 = .ok (.ireturn, 1) := by decide +kernel
theorem dX6_count_97 : decode (am_b mX6_count) 97 = .ok (.aload_n 0, 1) := by decide +kernel
theorem dX6_count_98 : decode (am_b mX6_count) 98 = .ok (.getfield 10, 3) := by decide +kernel
theorem dX6_count_101 : decode (am_b mX6_count) 101 = .ok (.invokevirtual 180, 3) := by decide +kernel
theorem dX6_count_104 : decode (am_b mX6_count) 104 = .ok (.ireturn, 1) := by decide +kernel
theorem dX6_count_105 : decode (am_b mX6_count) 105 = .ok (.aload_n 0, 1) := by decide +kernel
theorem dX6_count_106 : decode (am_b mX6_count) 106 = .ok (.getfield 10, 3) := by decide +kernel
theorem dX6_count_109 : decode (am_b mX6_count) 109 = .ok (.getfield 67, 3) := by decide +kernel
theorem dX6_count_112 : decode (am_b mX6_count) 112 = .ok (.ireturn, 1) := by decide +kernel
theorem dX6_count_113 : decode (am_b mX6_count) 113 = .ok (.aload_n 0, 1) := by decide +kernel
theorem dX6_count_114 : decode (am_b mX6_count) 114 = .ok (.getfield 10, 3) := by decide +kernel
theorem dX6_count_117 : decode (am_b mX6_count) 117 = .ok (.iconst 0, 1) := by decide +kernel
theorem dX6_count_118 : decode (am_b mX6_count) 118 = .ok (.invokevirtual 52, 3) := by decide +kernel
theorem dX6_count_121 : decode (am_b mX6_count) 121 = .ok (.aload_n 0, 1) := by decide +kernel
theorem dX6_count_122 : decode (am_b mX6_count) 122 = .ok (.getfield 10, 3) := by decide +kernel
theorem dX6_count_125 : decode (am_b mX6_count) 125 = .ok (.iconst 1, 1) := by decide +kernel
theorem dX6_count_126 : decode (am_b mX6_count) 126 = .ok (.invokevirtual 52, 3) := by decide +kernel
theorem dX6_count_129 : decode (am_b mX6_count) 129 = .ok (.iadd, 1) := by decide +kernel
theorem dX6_count_130 : decode (am_b mX6_count) 130 = .ok (.aload_n 0, 1) := by decide +kernel
theorem dX6_count_131 : decode (am_b mX6_count) 131 = .ok (.invokevirtual 183, 3) := by decide +kernel
theorem dX6_count_134 : decode (am_b mX6_count) 134 = .ok (.isub, 1) := by decide +kernel
theorem dX6_count_135 : decode (am_b mX6_count) 135 = .ok (.ireturn, 1) := by decide +kernel
theorem dX6_count_136 : decode (am_b mX6_count) 136 = .ok (.aload_n 0, 1) := by decide +kernel
theorem dX6_count_137 : decode (am_b mX6_count) 137 = .ok (.invokevirtual 183, 3) := by decide +kernel
theorem dX6_count_140 : decode (am_b mX6_count) 140 = .ok (.ireturn, 1) := by decide +kernel
theorem dX6_count_141 : decode (am_b mX6_count) 141 = .ok (.aload_n 0, 1) := by decide +kernel
theorem dX6_count_142 : decode (am_b mX6_count) 142 = .ok (.getfield 10, 3) := by decide +kernel
theorem dX6_count_145 : decode (am_b mX6_count) 145 = .ok (.getfield 109, 3) := by decide +kernel
theorem dX6_count_148 : decode (am_b mX6_count) 148 = .ok (.ireturn, 1) := by decide +kernel
theorem dX6_count_149 : decode (am_b mX6_count) 149 = .ok (.aload_n 0, 1) := by decide +kernel
theorem dX6_count_150 : decode (am_b mX6_count) 150 = .ok (.getfield 10, 3) := by decide +kernel
theorem dX6_count_153 : decode (am_b mX6_count) 153 = .ok (.getfield 186, 3) := by decide +kernel
theorem dX6_count_156 : decode (am_b mX6_count) 156 = .ok (.ireturn, 1) := by decide +kernel
theorem dX6_count_157 : decode (am_b mX6_count) 157 = .ok (.aload_n 0, 1) := by decide +kernel
theorem dX6_count_158 : decode (am_b mX6_count) 158 = .ok (.getfield 10, 3) := by decide +kernel
theorem dX6_count_161 : decode (am_b mX6_count) 161 = .ok (.getfield 189, 3) := by decide +kernel
theorem dX6_count_164 : decode (am_b mX6_count) 164 = .ok (.ireturn, 1) := by decide +kernel
theorem dX6_count_165 : decode (am_b mX6_count) 165 = .ok (.aload_n 0, 1) := by decide +kernel
theorem dX6_count_166 : decode (am_b mX6_count) 166 = .ok (.getfield 29, 3) := by decide +kernel
theorem dX6_count_169 : decode (am_b mX6_count) 169 = .ok (.getfield 134, 3) := by decide +kernel
theorem dX6_count_172 : decode (am_b mX6_count) 172 = .ok (.ireturn, 1) := by decide +kernel
theorem dX6_count_173 : decode (am_b mX6_count) 173 = .ok (.aload_n 0, 1) := by decide +kernel
theorem dX6_count_174 : decode (am_b mX6_count) 174 = .ok (.getfield 36, 3) := by decide +kernel
theorem dX6_count_177 : decode (am_b mX6_count) 177 = .ok (.getfield 192, 3) := by decide +kernel
theorem dX6_count_180 : decode (am_b mX6_count) 180 = .ok (.ireturn, 1) := by decide +kernel
theorem dX6_count_181 : decode (am_b mX6_count) 181 = .ok (.bipush (-2), 2) := by decide +kernel
theorem dX6_count_183 : decode (am_b mX6_count) 183 = .ok (.ireturn, 1) := by decide +kernel
theorem dX6_fault_0 : decode (am_b mX6_fault) 0 = .ok (.aload_n 0, 1) := by decide +kernel
theorem dX6_fault_1 : decode (am_b mX6_fault) 1 = .ok (.getfield 29, 3) := by decide +kernel
theorem dX6_fault_4 : decode (am_b mX6_fault) 4 = .ok (.invokevirtual 118, 3) := by decide +kernel
theorem dX6_fault_7 : decode (am_b mX6_fault) 7 = .ok (.ireturn, 1) := by decide +kernel
theorem dX6_ifStood_0 : decode (am_b mX6_ifStood) 0 = .ok (.aload_n 0, 1) := by decide +kernel
theorem dX6_ifStood_1 : decode (am_b mX6_ifStood) 1 = .ok (.getfield 10, 3) := by decide +kernel
theorem dX6_ifStood_4 : decode (am_b mX6_ifStood) 4 = .ok (.iload_n 1, 1) := by decide +kernel
theorem dX6_ifStood_5 : decode (am_b mX6_ifStood) 5 = .ok (.invokevirtual 85, 3) := by decide +kernel
theorem dX6_ifStood_8 : decode (am_b mX6_ifStood) 8 = .ok (.ifCond .eq 10, 3) := by decide +kernel
theorem dX6_ifStood_11 : decode (am_b mX6_ifStood) 11 = .ok (.iload_n 2, 1) := by decide +kernel
theorem dX6_ifStood_12 : decode (am_b mX6_ifStood) 12 = .ok (.invokestatic 60, 3) := by decide +kernel
theorem dX6_ifStood_15 : decode (am_b mX6_ifStood) 15 = .ok (.ifCond .ne 5, 3) := by decide +kernel
theorem dX6_ifStood_18 : decode (am_b mX6_ifStood) 18 = .ok (.iconst (-1), 1) := by decide +kernel
theorem dX6_ifStood_19 : decode (am_b mX6_ifStood) 19 = .ok (.ireturn, 1) := by decide +kernel
theorem dX6_ifStood_20 : decode (am_b mX6_ifStood) 20 = .ok (.aload_n 0, 1) := by decide +kernel
theorem dX6_ifStood_21 : decode (am_b mX6_ifStood) 21 = .ok (.getfield 10, 3) := by decide +kernel
theorem dX6_ifStood_24 : decode (am_b mX6_ifStood) 24 = .ok (.iload_n 2, 1) := by decide +kernel
theorem dX6_ifStood_25 : decode (am_b mX6_ifStood) 25 = .ok (.iload_n 1, 1) := by decide +kernel
theorem dX6_ifStood_26 : decode (am_b mX6_ifStood) 26 = .ok (.invokevirtual 98, 3) := by decide +kernel
theorem dX6_ifStood_29 : decode (am_b mX6_ifStood) 29 = .ok (.ifCond .eq 6, 3) := by decide +kernel
theorem dX6_ifStood_32 : decode (am_b mX6_ifStood) 32 = .ok (.bipush (-5), 2) := by decide +kernel
theorem dX6_ifStood_34 : decode (am_b mX6_ifStood) 34 = .ok (.ireturn, 1) := by decide +kernel
theorem dX6_ifStood_35 : decode (am_b mX6_ifStood) 35 = .ok (.aload_n 0, 1) := by decide +kernel
theorem dX6_ifStood_36 : decode (am_b mX6_ifStood) 36 = .ok (.getfield 22, 3) := by decide +kernel
theorem dX6_ifStood_39 : decode (am_b mX6_ifStood) 39 = .ok (.aload_n 0, 1) := by decide +kernel
theorem dX6_ifStood_40 : decode (am_b mX6_ifStood) 40 = .ok (.getfield 10, 3) := by decide +kernel
theorem dX6_ifStood_43 : decode (am_b mX6_ifStood) 43 = .ok (.iload_n 1, 1) := by decide +kernel
theorem dX6_ifStood_44 : decode (am_b mX6_ifStood) 44 = .ok (.invokevirtual 137, 3) := by decide +kernel
theorem dX6_ifStood_47 : decode (am_b mX6_ifStood) 47 = .ok (.aload_n 0, 1) := by decide +kernel
theorem dX6_ifStood_48 : decode (am_b mX6_ifStood) 48 = .ok (.getfield 22, 3) := by decide +kernel
theorem dX6_ifStood_51 : decode (am_b mX6_ifStood) 51 = .ok (.iload_n 2, 1) := by decide +kernel
theorem dX6_ifStood_52 : decode (am_b mX6_ifStood) 52 = .ok (.aload_n 0, 1) := by decide +kernel
theorem dX6_ifStood_53 : decode (am_b mX6_ifStood) 53 = .ok (.getfield 10, 3) := by decide +kernel
theorem dX6_ifStood_56 : decode (am_b mX6_ifStood) 56 = .ok (.getfield 95, 3) := by decide +kernel
theorem dX6_ifStood_59 : decode (am_b mX6_ifStood) 59 = .ok (.iload_n 1, 1) := by decide +kernel
theorem dX6_ifStood_60 : decode (am_b mX6_ifStood) 60 = .ok (.iaload, 1) := by decide +kernel
theorem dX6_ifStood_61 : decode (am_b mX6_ifStood) 61 = .ok (.invokevirtual 141, 3) := by decide +kernel
theorem dX6_ifStood_64 : decode (am_b mX6_ifStood) 64 = .ok (.ireturn, 1) := by decide +kernel
theorem dX6_read_0 : decode (am_b mX6_read) 0 = .ok (.aload_n 0, 1) := by decide +kernel
theorem dX6_read_1 : decode (am_b mX6_read) 1 = .ok (.getfield 29, 3) := by decide +kernel
theorem dX6_read_4 : decode (am_b mX6_read) 4 = .ok (.invokevirtual 118, 3) := by decide +kernel
theorem dX6_read_7 : decode (am_b mX6_read) 7 = .ok (.bipush (-6), 2) := by decide +kernel
theorem dX6_read_9 : decode (am_b mX6_read) 9 = .ok (.if_icmp .eq 6, 3) := by decide +kernel
theorem dX6_read_12 : decode (am_b mX6_read) 12 = .ok (.bipush (-3), 2) := by decide +kernel
theorem dX6_read_14 : decode (am_b mX6_read) 14 = .ok (.ireturn, 1) := by decide +kernel
theorem dX6_read_15 : decode (am_b mX6_read) 15 = .ok (.aload_n 0, 1) := by decide +kernel
theorem dX6_read_16 : decode (am_b mX6_read) 16 = .ok (.getfield 29, 3) := by decide +kernel
theorem dX6_read_19 : decode (am_b mX6_read) 19 = .ok (.invokevirtual 122, 3) := by decide +kernel
theorem dX6_read_22 : decode (am_b mX6_read) 22 = .ok (.ifCond .eq 6, 3) := by decide +kernel
theorem dX6_read_25 : decode (am_b mX6_read) 25 = .ok (.bipush (-5), 2) := by decide +kernel
theorem dX6_read_27 : decode (am_b mX6_read) 27 = .ok (.ireturn, 1) := by decide +kernel
theorem dX6_read_28 : decode (am_b mX6_read) 28 = .ok (.aload_n 0, 1) := by decide +kernel
theorem dX6_read_29 : decode (am_b mX6_read) 29 = .ok (.getfield 36, 3) := by decide +kernel
theorem dX6_read_32 : decode (am_b mX6_read) 32 = .ok (.aload_n 0, 1) := by decide +kernel
theorem dX6_read_33 : decode (am_b mX6_read) 33 = .ok (.getfield 10, 3) := by decide +kernel
theorem dX6_read_36 : decode (am_b mX6_read) 36 = .ok (.invokevirtual 48, 3) := by decide +kernel
theorem dX6_read_39 : decode (am_b mX6_read) 39 = .ok (.aload_n 0, 1) := by decide +kernel
theorem dX6_read_40 : decode (am_b mX6_read) 40 = .ok (.getfield 10, 3) := by decide +kernel
theorem dX6_read_43 : decode (am_b mX6_read) 43 = .ok (.invokevirtual 126, 3) := by decide +kernel
theorem dX6_read_46 : decode (am_b mX6_read) 46 = .ok (.iconst 0, 1) := by decide +kernel
theorem dX6_read_47 : decode (am_b mX6_read) 47 = .ok (.istore_n 1, 1) := by decide +kernel
theorem dX6_read_48 : decode (am_b mX6_read) 48 = .ok (.iload_n 1, 1) := by decide +kernel
theorem dX6_read_49 : decode (am_b mX6_read) 49 = .ok (.aload_n 0, 1) := by decide +kernel
theorem dX6_read_50 : decode (am_b mX6_read) 50 = .ok (.getfield 29, 3) := by decide +kernel
theorem dX6_read_53 : decode (am_b mX6_read) 53 = .ok (.getfield 129, 3) := by decide +kernel
theorem dX6_read_56 : decode (am_b mX6_read) 56 = .ok (.if_icmp .ge 40, 3) := by decide +kernel
theorem dX6_read_59 : decode (am_b mX6_read) 59 = .ok (.iload_n 1, 1) := by decide +kernel
theorem dX6_read_60 : decode (am_b mX6_read) 60 = .ok (.bipush 8, 2) := by decide +kernel
theorem dX6_read_62 : decode (am_b mX6_read) 62 = .ok (.if_icmp .ge 34, 3) := by decide +kernel
theorem dX6_read_65 : decode (am_b mX6_read) 65 = .ok (.aload_n 0, 1) := by decide +kernel
theorem dX6_read_66 : decode (am_b mX6_read) 66 = .ok (.getfield 10, 3) := by decide +kernel
theorem dX6_read_69 : decode (am_b mX6_read) 69 = .ok (.aload_n 0, 1) := by decide +kernel
theorem dX6_read_70 : decode (am_b mX6_read) 70 = .ok (.getfield 29, 3) := by decide +kernel
theorem dX6_read_73 : decode (am_b mX6_read) 73 = .ok (.getfield 132, 3) := by decide +kernel
theorem dX6_read_76 : decode (am_b mX6_read) 76 = .ok (.iload_n 1, 1) := by decide +kernel
theorem dX6_read_77 : decode (am_b mX6_read) 77 = .ok (.iaload, 1) := by decide +kernel
theorem dX6_read_78 : decode (am_b mX6_read) 78 = .ok (.aload_n 0, 1) := by decide +kernel
theorem dX6_read_79 : decode (am_b mX6_read) 79 = .ok (.getfield 29, 3) := by decide +kernel
theorem dX6_read_82 : decode (am_b mX6_read) 82 = .ok (.getfield 133, 3) := by decide +kernel
theorem dX6_read_85 : decode (am_b mX6_read) 85 = .ok (.iload_n 1, 1) := by decide +kernel
theorem dX6_read_86 : decode (am_b mX6_read) 86 = .ok (.iaload, 1) := by decide +kernel
theorem dX6_read_87 : decode (am_b mX6_read) 87 = .ok (.invokevirtual 82, 3) := by decide +kernel
theorem dX6_read_90 : decode (am_b mX6_read) 90 = .ok (.iinc 1 1, 3) := by decide +kernel
theorem dX6_read_93 : decode (am_b mX6_read) 93 = .ok (.goto (-45), 3) := by decide +kernel
theorem dX6_read_96 : decode (am_b mX6_read) 96 = .ok (.aload_n 0, 1) := by decide +kernel
theorem dX6_read_97 : decode (am_b mX6_read) 97 = .ok (.getfield 29, 3) := by decide +kernel
theorem dX6_read_100 : decode (am_b mX6_read) 100 = .ok (.iconst 0, 1) := by decide +kernel
theorem dX6_read_101 : decode (am_b mX6_read) 101 = .ok (.putfield 134, 3) := by decide +kernel
theorem dX6_read_104 : decode (am_b mX6_read) 104 = .ok (.aload_n 0, 1) := by decide +kernel
theorem dX6_read_105 : decode (am_b mX6_read) 105 = .ok (.getfield 10, 3) := by decide +kernel
theorem dX6_read_108 : decode (am_b mX6_read) 108 = .ok (.getfield 79, 3) := by decide +kernel
theorem dX6_read_111 : decode (am_b mX6_read) 111 = .ok (.ireturn, 1) := by decide +kernel
theorem dX6_seen_0 : decode (am_b mX6_seen) 0 = .ok (.aload_n 0, 1) := by decide +kernel
theorem dX6_seen_1 : decode (am_b mX6_seen) 1 = .ok (.getfield 10, 3) := by decide +kernel
theorem dX6_seen_4 : decode (am_b mX6_seen) 4 = .ok (.iload_n 1, 1) := by decide +kernel
theorem dX6_seen_5 : decode (am_b mX6_seen) 5 = .ok (.invokevirtual 85, 3) := by decide +kernel
theorem dX6_seen_8 : decode (am_b mX6_seen) 8 = .ok (.ifCond .ne 5, 3) := by decide +kernel
theorem dX6_seen_11 : decode (am_b mX6_seen) 11 = .ok (.iconst (-1), 1) := by decide +kernel
theorem dX6_seen_12 : decode (am_b mX6_seen) 12 = .ok (.ireturn, 1) := by decide +kernel
theorem dX6_seen_13 : decode (am_b mX6_seen) 13 = .ok (.iload_n 2, 1) := by decide +kernel
theorem dX6_seen_14 : decode (am_b mX6_seen) 14 = .ok (.ifCond .eq 8, 3) := by decide +kernel
theorem dX6_seen_17 : decode (am_b mX6_seen) 17 = .ok (.iload_n 2, 1) := by decide +kernel
theorem dX6_seen_18 : decode (am_b mX6_seen) 18 = .ok (.iconst 1, 1) := by decide +kernel
theorem dX6_seen_19 : decode (am_b mX6_seen) 19 = .ok (.if_icmp .ne 12, 3) := by decide +kernel
theorem dX6_seen_22 : decode (am_b mX6_seen) 22 = .ok (.iload_n 3, 1) := by decide +kernel
theorem dX6_seen_23 : decode (am_b mX6_seen) 23 = .ok (.ifCond .eq 11, 3) := by decide +kernel
theorem dX6_seen_26 : decode (am_b mX6_seen) 26 = .ok (.iload_n 3, 1) := by decide +kernel
theorem dX6_seen_27 : decode (am_b mX6_seen) 27 = .ok (.iconst 1, 1) := by decide +kernel
theorem dX6_seen_28 : decode (am_b mX6_seen) 28 = .ok (.if_icmp .eq 6, 3) := by decide +kernel
theorem dX6_seen_31 : decode (am_b mX6_seen) 31 = .ok (.bipush (-2), 2) := by decide +kernel
theorem dX6_seen_33 : decode (am_b mX6_seen) 33 = .ok (.ireturn, 1) := by decide +kernel
theorem dX6_seen_34 : decode (am_b mX6_seen) 34 = .ok (.aload_n 0, 1) := by decide +kernel
theorem dX6_seen_35 : decode (am_b mX6_seen) 35 = .ok (.getfield 10, 3) := by decide +kernel
theorem dX6_seen_38 : decode (am_b mX6_seen) 38 = .ok (.iload_n 1, 1) := by decide +kernel
theorem dX6_seen_39 : decode (am_b mX6_seen) 39 = .ok (.invokevirtual 161, 3) := by decide +kernel
theorem dX6_seen_42 : decode (am_b mX6_seen) 42 = .ok (.ifCond .ne 5, 3) := by decide +kernel
theorem dX6_seen_45 : decode (am_b mX6_seen) 45 = .ok (.iconst 0, 1) := by decide +kernel
theorem dX6_seen_46 : decode (am_b mX6_seen) 46 = .ok (.ireturn, 1) := by decide +kernel
theorem dX6_seen_47 : decode (am_b mX6_seen) 47 = .ok (.iload_n 2, 1) := by decide +kernel
theorem dX6_seen_48 : decode (am_b mX6_seen) 48 = .ok (.ifCond .ne 7, 3) := by decide +kernel
theorem dX6_seen_51 : decode (am_b mX6_seen) 51 = .ok (.iconst 1, 1) := by decide +kernel
theorem dX6_seen_52 : decode (am_b mX6_seen) 52 = .ok (.goto 4, 3) := by decide +kernel
theorem dX6_seen_55 : decode (am_b mX6_seen) 55 = .ok (.iconst 0, 1) := by decide +kernel
theorem dX6_seen_56 : decode (am_b mX6_seen) 56 = .ok (.istore 4, 2) := by decide +kernel
theorem dX6_seen_58 : decode (am_b mX6_seen) 58 = .ok (.iload_n 3, 1) := by decide +kernel
theorem dX6_seen_59 : decode (am_b mX6_seen) 59 = .ok (.iconst 1, 1) := by decide +kernel
theorem dX6_seen_60 : decode (am_b mX6_seen) 60 = .ok (.if_icmp .ne 22, 3) := by decide +kernel
theorem dX6_seen_63 : decode (am_b mX6_seen) 63 = .ok (.aload_n 0, 1) := by decide +kernel
theorem dX6_seen_64 : decode (am_b mX6_seen) 64 = .ok (.getfield 10, 3) := by decide +kernel
theorem dX6_seen_67 : decode (am_b mX6_seen) 67 = .ok (.iload_n 1, 1) := by decide +kernel
theorem dX6_seen_68 : decode (am_b mX6_seen) 68 = .ok (.iload 4, 2) := by decide +kernel
theorem dX6_seen_70 : decode (am_b mX6_seen) 70 = .ok (.invokevirtual 164, 3) := by decide +kernel
theorem dX6_seen_73 : decode (am_b mX6_seen) 73 = .ok (.ifCond .eq 7, 3) := by decide +kernel
theorem dX6_seen_76 : decode (am_b mX6_seen) 76 = .ok (.iconst 0, 1) := by decide +kernel
theorem dX6_seen_77 : decode (am_b mX6_seen) 77 = .ok (.goto 4, 3) := by decide +kernel
theorem dX6_seen_80 : decode (am_b mX6_seen) 80 = .ok (.iconst 1, 1) := by decide +kernel
theorem dX6_seen_81 : decode (am_b mX6_seen) 81 = .ok (.ireturn, 1) := by decide +kernel
theorem dX6_seen_82 : decode (am_b mX6_seen) 82 = .ok (.aload_n 0, 1) := by decide +kernel
theorem dX6_seen_83 : decode (am_b mX6_seen) 83 = .ok (.getfield 22, 3) := by decide +kernel
theorem dX6_seen_86 : decode (am_b mX6_seen) 86 = .ok (.aload_n 0, 1) := by decide +kernel
theorem dX6_seen_87 : decode (am_b mX6_seen) 87 = .ok (.getfield 10, 3) := by decide +kernel
theorem dX6_seen_90 : decode (am_b mX6_seen) 90 = .ok (.bipush (-6), 2) := by decide +kernel
theorem dX6_seen_92 : decode (am_b mX6_seen) 92 = .ok (.invokevirtual 137, 3) := by decide +kernel
theorem dX6_seen_95 : decode (am_b mX6_seen) 95 = .ok (.aload_n 0, 1) := by decide +kernel
theorem dX6_seen_96 : decode (am_b mX6_seen) 96 = .ok (.getfield 22, 3) := by decide +kernel
theorem dX6_seen_99 : decode (am_b mX6_seen) 99 = .ok (.iload 4, 2) := by decide +kernel
theorem dX6_seen_101 : decode (am_b mX6_seen) 101 = .ok (.invokevirtual 168, 3) := by decide +kernel
theorem dX6_seen_104 : decode (am_b mX6_seen) 104 = .ok (.astore 5, 2) := by decide +kernel
theorem dX6_seen_106 : decode (am_b mX6_seen) 106 = .ok (.aload 5, 2) := by decide +kernel
theorem dX6_seen_108 : decode (am_b mX6_seen) 108 = .ok (.aload_n 0, 1) := by decide +kernel
theorem dX6_seen_109 : decode (am_b mX6_seen) 109 = .ok (.getfield 10, 3) := by decide +kernel
theorem dX6_seen_112 : decode (am_b mX6_seen) 112 = .ok (.getfield 102, 3) := by decide +kernel
theorem dX6_seen_115 : decode (am_b mX6_seen) 115 = .ok (.iload_n 1, 1) := by decide +kernel
theorem dX6_seen_116 : decode (am_b mX6_seen) 116 = .ok (.iaload, 1) := by decide +kernel
theorem dX6_seen_117 : decode (am_b mX6_seen) 117 = .ok (.aload_n 0, 1) := by decide +kernel
theorem dX6_seen_118 : decode (am_b mX6_seen) 118 = .ok (.getfield 10, 3) := by decide +kernel
theorem dX6_seen_121 : decode (am_b mX6_seen) 121 = .ok (.getfield 95, 3) := by decide +kernel
theorem dX6_seen_124 : decode (am_b mX6_seen) 124 = .ok (.iload_n 1, 1) := by decide +kernel
theorem dX6_seen_125 : decode (am_b mX6_seen) 125 = .ok (.iaload, 1) := by decide +kernel
theorem dX6_seen_126 : decode (am_b mX6_seen) 126 = .ok (.invokevirtual 172, 3) := by decide +kernel
theorem dX6_seen_129 : decode (am_b mX6_seen) 129 = .ok (.ifCond .eq 7, 3) := by decide +kernel
theorem dX6_seen_132 : decode (am_b mX6_seen) 132 = .ok (.iconst 1, 1) := by decide +kernel
theorem dX6_seen_133 : decode (am_b mX6_seen) 133 = .ok (.goto 4, 3) := by decide +kernel
theorem dX6_seen_136 : decode (am_b mX6_seen) 136 = .ok (.iconst 0, 1) := by decide +kernel
theorem dX6_seen_137 : decode (am_b mX6_seen) 137 = .ok (.ireturn, 1) := by decide +kernel
theorem dX6_stand_0 : decode (am_b mX6_stand) 0 = .ok (.aload_n 0, 1) := by decide +kernel
theorem dX6_stand_1 : decode (am_b mX6_stand) 1 = .ok (.getfield 10, 3) := by decide +kernel
theorem dX6_stand_4 : decode (am_b mX6_stand) 4 = .ok (.iload_n 1, 1) := by decide +kernel
theorem dX6_stand_5 : decode (am_b mX6_stand) 5 = .ok (.invokevirtual 85, 3) := by decide +kernel
theorem dX6_stand_8 : decode (am_b mX6_stand) 8 = .ok (.ifCond .eq 16, 3) := by decide +kernel
theorem dX6_stand_11 : decode (am_b mX6_stand) 11 = .ok (.iload_n 2, 1) := by decide +kernel
theorem dX6_stand_12 : decode (am_b mX6_stand) 12 = .ok (.bipush (-6), 2) := by decide +kernel
theorem dX6_stand_14 : decode (am_b mX6_stand) 14 = .ok (.if_icmp .eq 12, 3) := by decide +kernel
theorem dX6_stand_17 : decode (am_b mX6_stand) 17 = .ok (.iload_n 2, 1) := by decide +kernel
theorem dX6_stand_18 : decode (am_b mX6_stand) 18 = .ok (.invokestatic 60, 3) := by decide +kernel
theorem dX6_stand_21 : decode (am_b mX6_stand) 21 = .ok (.ifCond .ne 5, 3) := by decide +kernel
theorem dX6_stand_24 : decode (am_b mX6_stand) 24 = .ok (.iconst (-1), 1) := by decide +kernel
theorem dX6_stand_25 : decode (am_b mX6_stand) 25 = .ok (.ireturn, 1) := by decide +kernel
theorem dX6_stand_26 : decode (am_b mX6_stand) 26 = .ok (.aload_n 0, 1) := by decide +kernel
theorem dX6_stand_27 : decode (am_b mX6_stand) 27 = .ok (.getfield 10, 3) := by decide +kernel
theorem dX6_stand_30 : decode (am_b mX6_stand) 30 = .ok (.iload_n 2, 1) := by decide +kernel
theorem dX6_stand_31 : decode (am_b mX6_stand) 31 = .ok (.iload_n 1, 1) := by decide +kernel
theorem dX6_stand_32 : decode (am_b mX6_stand) 32 = .ok (.invokevirtual 98, 3) := by decide +kernel
theorem dX6_stand_35 : decode (am_b mX6_stand) 35 = .ok (.ifCond .eq 6, 3) := by decide +kernel
theorem dX6_stand_38 : decode (am_b mX6_stand) 38 = .ok (.bipush (-5), 2) := by decide +kernel
theorem dX6_stand_40 : decode (am_b mX6_stand) 40 = .ok (.ireturn, 1) := by decide +kernel
theorem dX6_stand_41 : decode (am_b mX6_stand) 41 = .ok (.aload_n 0, 1) := by decide +kernel
theorem dX6_stand_42 : decode (am_b mX6_stand) 42 = .ok (.getfield 36, 3) := by decide +kernel
theorem dX6_stand_45 : decode (am_b mX6_stand) 45 = .ok (.aload_n 0, 1) := by decide +kernel
theorem dX6_stand_46 : decode (am_b mX6_stand) 46 = .ok (.getfield 10, 3) := by decide +kernel
theorem dX6_stand_49 : decode (am_b mX6_stand) 49 = .ok (.invokevirtual 48, 3) := by decide +kernel
theorem dX6_stand_52 : decode (am_b mX6_stand) 52 = .ok (.aload_n 0, 1) := by decide +kernel
theorem dX6_stand_53 : decode (am_b mX6_stand) 53 = .ok (.getfield 10, 3) := by decide +kernel
theorem dX6_stand_56 : decode (am_b mX6_stand) 56 = .ok (.getfield 102, 3) := by decide +kernel
theorem dX6_stand_59 : decode (am_b mX6_stand) 59 = .ok (.iload_n 1, 1) := by decide +kernel
theorem dX6_stand_60 : decode (am_b mX6_stand) 60 = .ok (.iaload, 1) := by decide +kernel
theorem dX6_stand_61 : decode (am_b mX6_stand) 61 = .ok (.istore_n 3, 1) := by decide +kernel
theorem dX6_stand_62 : decode (am_b mX6_stand) 62 = .ok (.aload_n 0, 1) := by decide +kernel
theorem dX6_stand_63 : decode (am_b mX6_stand) 63 = .ok (.getfield 10, 3) := by decide +kernel
theorem dX6_stand_66 : decode (am_b mX6_stand) 66 = .ok (.getfield 102, 3) := by decide +kernel
theorem dX6_stand_69 : decode (am_b mX6_stand) 69 = .ok (.iload_n 1, 1) := by decide +kernel
theorem dX6_stand_70 : decode (am_b mX6_stand) 70 = .ok (.iload_n 2, 1) := by decide +kernel
theorem dX6_stand_71 : decode (am_b mX6_stand) 71 = .ok (.iastore, 1) := by decide +kernel
theorem dX6_stand_72 : decode (am_b mX6_stand) 72 = .ok (.iload_n 3, 1) := by decide +kernel
theorem dX6_stand_73 : decode (am_b mX6_stand) 73 = .ok (.ireturn, 1) := by decide +kernel
theorem dX6_bestPitch_0 : decode (am_b mX6_bestPitch) 0 = .ok (.aload_n 0, 1) := by decide +kernel
theorem dX6_bestPitch_1 : decode (am_b mX6_bestPitch) 1 = .ok (.getfield 10, 3) := by decide +kernel
theorem dX6_bestPitch_4 : decode (am_b mX6_bestPitch) 4 = .ok (.iload_n 1, 1) := by decide +kernel
theorem dX6_bestPitch_5 : decode (am_b mX6_bestPitch) 5 = .ok (.invokevirtual 85, 3) := by decide +kernel
theorem dX6_bestPitch_8 : decode (am_b mX6_bestPitch) 8 = .ok (.ifCond .ne 5, 3) := by decide +kernel
theorem dX6_bestPitch_11 : decode (am_b mX6_bestPitch) 11 = .ok (.iconst (-1), 1) := by decide +kernel
theorem dX6_bestPitch_12 : decode (am_b mX6_bestPitch) 12 = .ok (.ireturn, 1) := by decide +kernel
theorem dX6_bestPitch_13 : decode (am_b mX6_bestPitch) 13 = .ok (.aload_n 0, 1) := by decide +kernel
theorem dX6_bestPitch_14 : decode (am_b mX6_bestPitch) 14 = .ok (.getfield 22, 3) := by decide +kernel
theorem dX6_bestPitch_17 : decode (am_b mX6_bestPitch) 17 = .ok (.aload_n 0, 1) := by decide +kernel
theorem dX6_bestPitch_18 : decode (am_b mX6_bestPitch) 18 = .ok (.getfield 10, 3) := by decide +kernel
theorem dX6_bestPitch_21 : decode (am_b mX6_bestPitch) 21 = .ok (.iload_n 1, 1) := by decide +kernel
theorem dX6_bestPitch_22 : decode (am_b mX6_bestPitch) 22 = .ok (.invokevirtual 137, 3) := by decide +kernel
theorem dX6_bestPitch_25 : decode (am_b mX6_bestPitch) 25 = .ok (.aload_n 0, 1) := by decide +kernel
theorem dX6_bestPitch_26 : decode (am_b mX6_bestPitch) 26 = .ok (.getfield 22, 3) := by decide +kernel
theorem dX6_bestPitch_29 : decode (am_b mX6_bestPitch) 29 = .ok (.aload_n 0, 1) := by decide +kernel
theorem dX6_bestPitch_30 : decode (am_b mX6_bestPitch) 30 = .ok (.getfield 10, 3) := by decide +kernel
theorem dX6_bestPitch_33 : decode (am_b mX6_bestPitch) 33 = .ok (.getfield 95, 3) := by decide +kernel
theorem dX6_bestPitch_36 : decode (am_b mX6_bestPitch) 36 = .ok (.iload_n 1, 1) := by decide +kernel
theorem dX6_bestPitch_37 : decode (am_b mX6_bestPitch) 37 = .ok (.iaload, 1) := by decide +kernel
theorem dX6_bestPitch_38 : decode (am_b mX6_bestPitch) 38 = .ok (.iconst 0, 1) := by decide +kernel
theorem dX6_bestPitch_39 : decode (am_b mX6_bestPitch) 39 = .ok (.invokevirtual 198, 3) := by decide +kernel
theorem dX6_bestPitch_42 : decode (am_b mX6_bestPitch) 42 = .ok (.ireturn, 1) := by decide +kernel
theorem dX6_ifPlayed_0 : decode (am_b mX6_ifPlayed) 0 = .ok (.iload_n 1, 1) := by decide +kernel
theorem dX6_ifPlayed_1 : decode (am_b mX6_ifPlayed) 1 = .ok (.iconst 1, 1) := by decide +kernel
theorem dX6_ifPlayed_2 : decode (am_b mX6_ifPlayed) 2 = .ok (.if_icmp .lt 18, 3) := by decide +kernel
theorem dX6_ifPlayed_5 : decode (am_b mX6_ifPlayed) 5 = .ok (.iload_n 1, 1) := by decide +kernel
theorem dX6_ifPlayed_6 : decode (am_b mX6_ifPlayed) 6 = .ok (.bipush 100, 2) := by decide +kernel
theorem dX6_ifPlayed_8 : decode (am_b mX6_ifPlayed) 8 = .ok (.if_icmp .gt 12, 3) := by decide +kernel
theorem dX6_ifPlayed_11 : decode (am_b mX6_ifPlayed) 11 = .ok (.iload_n 2, 1) := by decide +kernel
theorem dX6_ifPlayed_12 : decode (am_b mX6_ifPlayed) 12 = .ok (.ifCond .eq 11, 3) := by decide +kernel
theorem dX6_ifPlayed_15 : decode (am_b mX6_ifPlayed) 15 = .ok (.iload_n 2, 1) := by decide +kernel
theorem dX6_ifPlayed_16 : decode (am_b mX6_ifPlayed) 16 = .ok (.iconst 1, 1) := by decide +kernel
theorem dX6_ifPlayed_17 : decode (am_b mX6_ifPlayed) 17 = .ok (.if_icmp .eq 6, 3) := by decide +kernel
theorem dX6_ifPlayed_20 : decode (am_b mX6_ifPlayed) 20 = .ok (.bipush (-2), 2) := by decide +kernel
theorem dX6_ifPlayed_22 : decode (am_b mX6_ifPlayed) 22 = .ok (.ireturn, 1) := by decide +kernel
theorem dX6_ifPlayed_23 : decode (am_b mX6_ifPlayed) 23 = .ok (.aload_n 0, 1) := by decide +kernel
theorem dX6_ifPlayed_24 : decode (am_b mX6_ifPlayed) 24 = .ok (.getfield 16, 3) := by decide +kernel
theorem dX6_ifPlayed_27 : decode (am_b mX6_ifPlayed) 27 = .ok (.aload_n 0, 1) := by decide +kernel
theorem dX6_ifPlayed_28 : decode (am_b mX6_ifPlayed) 28 = .ok (.getfield 10, 3) := by decide +kernel
theorem dX6_ifPlayed_31 : decode (am_b mX6_ifPlayed) 31 = .ok (.invokevirtual 201, 3) := by decide +kernel
theorem dX6_ifPlayed_34 : decode (am_b mX6_ifPlayed) 34 = .ok (.iconst 0, 1) := by decide +kernel
theorem dX6_ifPlayed_35 : decode (am_b mX6_ifPlayed) 35 = .ok (.istore_n 3, 1) := by decide +kernel
theorem dX6_ifPlayed_36 : decode (am_b mX6_ifPlayed) 36 = .ok (.iconst 0, 1) := by decide +kernel
theorem dX6_ifPlayed_37 : decode (am_b mX6_ifPlayed) 37 = .ok (.istore 4, 2) := by decide +kernel
theorem dX6_ifPlayed_39 : decode (am_b mX6_ifPlayed) 39 = .ok (.iload 4, 2) := by decide +kernel
theorem dX6_ifPlayed_41 : decode (am_b mX6_ifPlayed) 41 = .ok (.iload_n 1, 1) := by decide +kernel
theorem dX6_ifPlayed_42 : decode (am_b mX6_ifPlayed) 42 = .ok (.if_icmp .ge 23, 3) := by decide +kernel
theorem dX6_ifPlayed_45 : decode (am_b mX6_ifPlayed) 45 = .ok (.iload_n 3, 1) := by decide +kernel
theorem dX6_ifPlayed_46 : decode (am_b mX6_ifPlayed) 46 = .ok (.aload_n 0, 1) := by decide +kernel
theorem dX6_ifPlayed_47 : decode (am_b mX6_ifPlayed) 47 = .ok (.getfield 16, 3) := by decide +kernel
theorem dX6_ifPlayed_50 : decode (am_b mX6_ifPlayed) 50 = .ok (.aload_n 0, 1) := by decide +kernel
theorem dX6_ifPlayed_51 : decode (am_b mX6_ifPlayed) 51 = .ok (.getfield 22, 3) := by decide +kernel
theorem dX6_ifPlayed_54 : decode (am_b mX6_ifPlayed) 54 = .ok (.invokestatic 112, 3) := by decide +kernel
theorem dX6_ifPlayed_57 : decode (am_b mX6_ifPlayed) 57 = .ok (.iadd, 1) := by decide +kernel
theorem dX6_ifPlayed_58 : decode (am_b mX6_ifPlayed) 58 = .ok (.istore_n 3, 1) := by decide +kernel
theorem dX6_ifPlayed_59 : decode (am_b mX6_ifPlayed) 59 = .ok (.iinc 4 1, 3) := by decide +kernel
theorem dX6_ifPlayed_62 : decode (am_b mX6_ifPlayed) 62 = .ok (.goto (-23), 3) := by decide +kernel
theorem dX6_ifPlayed_65 : decode (am_b mX6_ifPlayed) 65 = .ok (.iload_n 2, 1) := by decide +kernel
theorem dX6_ifPlayed_66 : decode (am_b mX6_ifPlayed) 66 = .ok (.ifCond .ne 7, 3) := by decide +kernel
theorem dX6_ifPlayed_69 : decode (am_b mX6_ifPlayed) 69 = .ok (.iload_n 3, 1) := by decide +kernel
theorem dX6_ifPlayed_70 : decode (am_b mX6_ifPlayed) 70 = .ok (.goto 18, 3) := by decide +kernel
theorem dX6_ifPlayed_73 : decode (am_b mX6_ifPlayed) 73 = .ok (.aload_n 0, 1) := by decide +kernel
theorem dX6_ifPlayed_74 : decode (am_b mX6_ifPlayed) 74 = .ok (.getfield 16, 3) := by decide +kernel
theorem dX6_ifPlayed_77 : decode (am_b mX6_ifPlayed) 77 = .ok (.getfield 186, 3) := by decide +kernel
theorem dX6_ifPlayed_80 : decode (am_b mX6_ifPlayed) 80 = .ok (.aload_n 0, 1) := by decide +kernel
theorem dX6_ifPlayed_81 : decode (am_b mX6_ifPlayed) 81 = .ok (.getfield 10, 3) := by decide +kernel
theorem dX6_ifPlayed_84 : decode (am_b mX6_ifPlayed) 84 = .ok (.getfield 186, 3) := by decide +kernel
theorem dX6_ifPlayed_87 : decode (am_b mX6_ifPlayed) 87 = .ok (.isub, 1) := by decide +kernel
theorem dX6_ifPlayed_88 : decode (am_b mX6_ifPlayed) 88 = .ok (.ireturn, 1) := by decide +kernel
theorem dX6_play_0 : decode (am_b mX6_play) 0 = .ok (.aload_n 0, 1) := by decide +kernel
theorem dX6_play_1 : decode (am_b mX6_play) 1 = .ok (.getfield 10, 3) := by decide +kernel
theorem dX6_play_4 : decode (am_b mX6_play) 4 = .ok (.getfield 109, 3) := by decide +kernel
theorem dX6_play_7 : decode (am_b mX6_play) 7 = .ok (.sipush 9999, 3) := by decide +kernel
theorem dX6_play_10 : decode (am_b mX6_play) 10 = .ok (.if_icmp .lt 6, 3) := by decide +kernel
theorem dX6_play_13 : decode (am_b mX6_play) 13 = .ok (.bipush (-4), 2) := by decide +kernel
theorem dX6_play_15 : decode (am_b mX6_play) 15 = .ok (.ireturn, 1) := by decide +kernel
theorem dX6_play_16 : decode (am_b mX6_play) 16 = .ok (.aload_n 0, 1) := by decide +kernel
theorem dX6_play_17 : decode (am_b mX6_play) 17 = .ok (.getfield 36, 3) := by decide +kernel
theorem dX6_play_20 : decode (am_b mX6_play) 20 = .ok (.aload_n 0, 1) := by decide +kernel
theorem dX6_play_21 : decode (am_b mX6_play) 21 = .ok (.getfield 10, 3) := by decide +kernel
theorem dX6_play_24 : decode (am_b mX6_play) 24 = .ok (.invokevirtual 48, 3) := by decide +kernel
theorem dX6_play_27 : decode (am_b mX6_play) 27 = .ok (.aload_n 0, 1) := by decide +kernel
theorem dX6_play_28 : decode (am_b mX6_play) 28 = .ok (.getfield 10, 3) := by decide +kernel
theorem dX6_play_31 : decode (am_b mX6_play) 31 = .ok (.aload_n 0, 1) := by decide +kernel
theorem dX6_play_32 : decode (am_b mX6_play) 32 = .ok (.getfield 22, 3) := by decide +kernel
theorem dX6_play_35 : decode (am_b mX6_play) 35 = .ok (.invokestatic 112, 3) := by decide +kernel
theorem dX6_play_38 : decode (am_b mX6_play) 38 = .ok (.ireturn, 1) := by decide +kernel
theorem dL_law_0 : decode (am_b mL_law) 0 = .ok (.new 7, 3) := by decide +kernel
theorem dL_law_3 : decode (am_b mL_law) 3 = .ok (.dup, 1) := by decide +kernel
theorem dL_law_4 : decode (am_b mL_law) 4 = .ok (.invokespecial 9, 3) := by decide +kernel
theorem dL_law_7 : decode (am_b mL_law) 7 = .ok (.astore_n 1, 1) := by decide +kernel
theorem dL_law_8 : decode (am_b mL_law) 8 = .ok (.new 10, 3) := by decide +kernel
theorem dL_law_11 : decode (am_b mL_law) 11 = .ok (.dup, 1) := by decide +kernel
theorem dL_law_12 : decode (am_b mL_law) 12 = .ok (.invokespecial 12, 3) := by decide +kernel
theorem dL_law_15 : decode (am_b mL_law) 15 = .ok (.astore_n 2, 1) := by decide +kernel
theorem dL_law_16 : decode (am_b mL_law) 16 = .ok (.iconst 0, 1) := by decide +kernel
theorem dL_law_17 : decode (am_b mL_law) 17 = .ok (.istore_n 3, 1) := by decide +kernel
theorem dL_law_18 : decode (am_b mL_law) 18 = .ok (.iload_n 3, 1) := by decide +kernel
theorem dL_law_19 : decode (am_b mL_law) 19 = .ok (.aload_n 0, 1) := by decide +kernel
theorem dL_law_20 : decode (am_b mL_law) 20 = .ok (.arraylength, 1) := by decide +kernel
theorem dL_law_21 : decode (am_b mL_law) 21 = .ok (.iconst 4, 1) := by decide +kernel
theorem dL_law_22 : decode (am_b mL_law) 22 = .ok (.isub, 1) := by decide +kernel
theorem dL_law_23 : decode (am_b mL_law) 23 = .ok (.if_icmp .gt 775, 3) := by decide +kernel
theorem dL_law_26 : decode (am_b mL_law) 26 = .ok (.aload_n 0, 1) := by decide +kernel
theorem dL_law_27 : decode (am_b mL_law) 27 = .ok (.iload_n 3, 1) := by decide +kernel
theorem dL_law_28 : decode (am_b mL_law) 28 = .ok (.iaload, 1) := by decide +kernel
theorem dL_law_29 : decode (am_b mL_law) 29 = .ok (.bipush 31, 2) := by decide +kernel
theorem dL_law_31 : decode (am_b mL_law) 31 = .ok (.iand, 1) := by decide +kernel
theorem dL_law_32 : decode (am_b mL_law) 32 = .ok (.tableswitch 760 0 23 #[112, 145, 194, 217, 240, 273, 306, 329, 342, 355, 388, 421, 464, 487, 510, 543, 566, 599, 622, 675, 688, 701, 714, 737], 112) := by decide +kernel
theorem dL_law_144 : decode (am_b mL_law) 144 = .ok (.aload_n 1, 1) := by decide +kernel
theorem dL_law_145 : decode (am_b mL_law) 145 = .ok (.aload_n 0, 1) := by decide +kernel
theorem dL_law_146 : decode (am_b mL_law) 146 = .ok (.iload_n 3, 1) := by decide +kernel
theorem dL_law_147 : decode (am_b mL_law) 147 = .ok (.iconst 1, 1) := by decide +kernel
theorem dL_law_148 : decode (am_b mL_law) 148 = .ok (.iadd, 1) := by decide +kernel
theorem dL_law_149 : decode (am_b mL_law) 149 = .ok (.iaload, 1) := by decide +kernel
theorem dL_law_150 : decode (am_b mL_law) 150 = .ok (.aload_n 0, 1) := by decide +kernel
theorem dL_law_151 : decode (am_b mL_law) 151 = .ok (.iload_n 3, 1) := by decide +kernel
theorem dL_law_152 : decode (am_b mL_law) 152 = .ok (.iconst 2, 1) := by decide +kernel
theorem dL_law_153 : decode (am_b mL_law) 153 = .ok (.iadd, 1) := by decide +kernel
theorem dL_law_154 : decode (am_b mL_law) 154 = .ok (.iaload, 1) := by decide +kernel
theorem dL_law_155 : decode (am_b mL_law) 155 = .ok (.invokevirtual 13, 3) := by decide +kernel
theorem dL_law_158 : decode (am_b mL_law) 158 = .ok (.aload_n 2, 1) := by decide +kernel
theorem dL_law_159 : decode (am_b mL_law) 159 = .ok (.aload_n 0, 1) := by decide +kernel
theorem dL_law_160 : decode (am_b mL_law) 160 = .ok (.iload_n 3, 1) := by decide +kernel
theorem dL_law_161 : decode (am_b mL_law) 161 = .ok (.iconst 1, 1) := by decide +kernel
theorem dL_law_162 : decode (am_b mL_law) 162 = .ok (.iadd, 1) := by decide +kernel
theorem dL_law_163 : decode (am_b mL_law) 163 = .ok (.iaload, 1) := by decide +kernel
theorem dL_law_164 : decode (am_b mL_law) 164 = .ok (.aload_n 0, 1) := by decide +kernel
theorem dL_law_165 : decode (am_b mL_law) 165 = .ok (.iload_n 3, 1) := by decide +kernel
theorem dL_law_166 : decode (am_b mL_law) 166 = .ok (.iconst 2, 1) := by decide +kernel
theorem dL_law_167 : decode (am_b mL_law) 167 = .ok (.iadd, 1) := by decide +kernel
theorem dL_law_168 : decode (am_b mL_law) 168 = .ok (.iaload, 1) := by decide +kernel
theorem dL_law_169 : decode (am_b mL_law) 169 = .ok (.invokevirtual 17, 3) := by decide +kernel
theorem dL_law_172 : decode (am_b mL_law) 172 = .ok (.if_icmp .eq 620, 3) := by decide +kernel
theorem dL_law_175 : decode (am_b mL_law) 175 = .ok (.iconst 0, 1) := by decide +kernel
theorem dL_law_176 : decode (am_b mL_law) 176 = .ok (.ireturn, 1) := by decide +kernel
theorem dL_law_177 : decode (am_b mL_law) 177 = .ok (.aload_n 1, 1) := by decide +kernel
theorem dL_law_178 : decode (am_b mL_law) 178 = .ok (.aload_n 0, 1) := by decide +kernel
theorem dL_law_179 : decode (am_b mL_law) 179 = .ok (.iload_n 3, 1) := by decide +kernel
theorem dL_law_180 : decode (am_b mL_law) 180 = .ok (.iconst 1, 1) := by decide +kernel
theorem dL_law_181 : decode (am_b mL_law) 181 = .ok (.iadd, 1) := by decide +kernel
theorem dL_law_182 : decode (am_b mL_law) 182 = .ok (.iaload, 1) := by decide +kernel
theorem dL_law_183 : decode (am_b mL_law) 183 = .ok (.aload_n 0, 1) := by decide +kernel
theorem dL_law_184 : decode (am_b mL_law) 184 = .ok (.iload_n 3, 1) := by decide +kernel
theorem dL_law_185 : decode (am_b mL_law) 185 = .ok (.iconst 2, 1) := by decide +kernel
theorem dL_law_186 : decode (am_b mL_law) 186 = .ok (.iadd, 1) := by decide +kernel
theorem dL_law_187 : decode (am_b mL_law) 187 = .ok (.iaload, 1) := by decide +kernel
theorem dL_law_188 : decode (am_b mL_law) 188 = .ok (.ifCond .eq 7, 3) := by decide +kernel
theorem dL_law_191 : decode (am_b mL_law) 191 = .ok (.iconst 1, 1) := by decide +kernel
theorem dL_law_192 : decode (am_b mL_law) 192 = .ok (.goto 4, 3) := by decide +kernel
theorem dL_law_195 : decode (am_b mL_law) 195 = .ok (.iconst 0, 1) := by decide +kernel
theorem dL_law_196 : decode (am_b mL_law) 196 = .ok (.invokevirtual 18, 3) := by decide +kernel
theorem dL_law_199 : decode (am_b mL_law) 199 = .ok (.aload_n 2, 1) := by decide +kernel
theorem dL_law_200 : decode (am_b mL_law) 200 = .ok (.aload_n 0, 1) := by decide +kernel
theorem dL_law_201 : decode (am_b mL_law) 201 = .ok (.iload_n 3, 1) := by decide +kernel
theorem dL_law_202 : decode (am_b mL_law) 202 = .ok (.iconst 1, 1) := by decide +kernel
theorem dL_law_203 : decode (am_b mL_law) 203 = .ok (.iadd, 1) := by decide +kernel
theorem dL_law_204 : decode (am_b mL_law) 204 = .ok (.iaload, 1) := by decide +kernel
theorem dL_law_205 : decode (am_b mL_law) 205 = .ok (.aload_n 0, 1) := by decide +kernel
theorem dL_law_206 : decode (am_b mL_law) 206 = .ok (.iload_n 3, 1) := by decide +kernel
theorem dL_law_207 : decode (am_b mL_law) 207 = .ok (.iconst 2, 1) := by decide +kernel
theorem dL_law_208 : decode (am_b mL_law) 208 = .ok (.iadd, 1) := by decide +kernel
theorem dL_law_209 : decode (am_b mL_law) 209 = .ok (.iaload, 1) := by decide +kernel
theorem dL_law_210 : decode (am_b mL_law) 210 = .ok (.ifCond .eq 7, 3) := by decide +kernel
theorem dL_law_213 : decode (am_b mL_law) 213 = .ok (.iconst 1, 1) := by decide +kernel
theorem dL_law_214 : decode (am_b mL_law) 214 = .ok (.goto 4, 3) := by decide +kernel
theorem dL_law_217 : decode (am_b mL_law) 217 = .ok (.iconst 0, 1) := by decide +kernel
theorem dL_law_218 : decode (am_b mL_law) 218 = .ok (.invokevirtual 22, 3) := by decide +kernel
theorem dL_law_221 : decode (am_b mL_law) 221 = .ok (.if_icmp .eq 571, 3) := by decide +kernel
theorem dL_law_224 : decode (am_b mL_law) 224 = .ok (.iconst 0, 1) := by decide +kernel
theorem dL_law_225 : decode (am_b mL_law) 225 = .ok (.ireturn, 1) := by decide +kernel
theorem dL_law_226 : decode (am_b mL_law) 226 = .ok (.aload_n 1, 1) := by decide +kernel
theorem dL_law_227 : decode (am_b mL_law) 227 = .ok (.aload_n 0, 1) := by decide +kernel
theorem dL_law_228 : decode (am_b mL_law) 228 = .ok (.iload_n 3, 1) := by decide +kernel
theorem dL_law_229 : decode (am_b mL_law) 229 = .ok (.iconst 1, 1) := by decide +kernel
theorem dL_law_230 : decode (am_b mL_law) 230 = .ok (.iadd, 1) := by decide +kernel
theorem dL_law_231 : decode (am_b mL_law) 231 = .ok (.iaload, 1) := by decide +kernel
theorem dL_law_232 : decode (am_b mL_law) 232 = .ok (.invokevirtual 23, 3) := by decide +kernel
theorem dL_law_235 : decode (am_b mL_law) 235 = .ok (.aload_n 2, 1) := by decide +kernel
theorem dL_law_236 : decode (am_b mL_law) 236 = .ok (.aload_n 0, 1) := by decide +kernel
theorem dL_law_237 : decode (am_b mL_law) 237 = .ok (.iload_n 3, 1) := by decide +kernel
theorem dL_law_238 : decode (am_b mL_law) 238 = .ok (.iconst 1, 1) := by decide +kernel
theorem dL_law_239 : decode (am_b mL_law) 239 = .ok (.iadd, 1) := by decide +kernel
theorem dL_law_240 : decode (am_b mL_law) 240 = .ok (.iaload, 1) := by decide +kernel
theorem dL_law_241 : decode (am_b mL_law) 241 = .ok (.invokevirtual 27, 3) := by decide +kernel
theorem dL_law_244 : decode (am_b mL_law) 244 = .ok (.if_icmp .eq 548, 3) := by decide +kernel
theorem dL_law_247 : decode (am_b mL_law) 247 = .ok (.iconst 0, 1) := by decide +kernel
theorem dL_law_248 : decode (am_b mL_law) 248 = .ok (.ireturn, 1) := by decide +kernel
theorem dL_law_249 : decode (am_b mL_law) 249 = .ok (.aload_n 1, 1) := by decide +kernel
theorem dL_law_250 : decode (am_b mL_law) 250 = .ok (.aload_n 0, 1) := by decide +kernel
theorem dL_law_251 : decode (am_b mL_law) 251 = .ok (.iload_n 3, 1) := by decide +kernel
theorem dL_law_252 : decode (am_b mL_law) 252 = .ok (.iconst 1, 1) := by decide +kernel
theorem dL_law_253 : decode (am_b mL_law) 253 = .ok (.iadd, 1) := by decide +kernel
theorem dL_law_254 : decode (am_b mL_law) 254 = .ok (.iaload, 1) := by decide +kernel
theorem dL_law_255 : decode (am_b mL_law) 255 = .ok (.invokevirtual 28, 3) := by decide +kernel
theorem dL_law_258 : decode (am_b mL_law) 258 = .ok (.aload_n 2, 1) := by decide +kernel
theorem dL_law_259 : decode (am_b mL_law) 259 = .ok (.aload_n 0, 1) := by decide +kernel
theorem dL_law_260 : decode (am_b mL_law) 260 = .ok (.iload_n 3, 1) := by decide +kernel
theorem dL_law_261 : decode (am_b mL_law) 261 = .ok (.iconst 1, 1) := by decide +kernel
theorem dL_law_262 : decode (am_b mL_law) 262 = .ok (.iadd, 1) := by decide +kernel
theorem dL_law_263 : decode (am_b mL_law) 263 = .ok (.iaload, 1) := by decide +kernel
theorem dL_law_264 : decode (am_b mL_law) 264 = .ok (.invokevirtual 31, 3) := by decide +kernel
theorem dL_law_267 : decode (am_b mL_law) 267 = .ok (.if_icmp .eq 525, 3) := by decide +kernel
theorem dL_law_270 : decode (am_b mL_law) 270 = .ok (.iconst 0, 1) := by decide +kernel
theorem dL_law_271 : decode (am_b mL_law) 271 = .ok (.ireturn, 1) := by decide +kernel
theorem dL_law_272 : decode (am_b mL_law) 272 = .ok (.aload_n 1, 1) := by decide +kernel
theorem dL_law_273 : decode (am_b mL_law) 273 = .ok (.aload_n 0, 1) := by decide +kernel
theorem dL_law_274 : decode (am_b mL_law) 274 = .ok (.iload_n 3, 1) := by decide +kernel
theorem dL_law_275 : decode (am_b mL_law) 275 = .ok (.iconst 1, 1) := by decide +kernel
theorem dL_law_276 : decode (am_b mL_law) 276 = .ok (.iadd, 1) := by decide +kernel
theorem dL_law_277 : decode (am_b mL_law) 277 = .ok (.iaload, 1) := by decide +kernel
theorem dL_law_278 : decode (am_b mL_law) 278 = .ok (.aload_n 0, 1) := by decide +kernel
theorem dL_law_279 : decode (am_b mL_law) 279 = .ok (.iload_n 3, 1) := by decide +kernel
theorem dL_law_280 : decode (am_b mL_law) 280 = .ok (.iconst 2, 1) := by decide +kernel
theorem dL_law_281 : decode (am_b mL_law) 281 = .ok (.iadd, 1) := by decide +kernel
theorem dL_law_282 : decode (am_b mL_law) 282 = .ok (.iaload, 1) := by decide +kernel
theorem dL_law_283 : decode (am_b mL_law) 283 = .ok (.invokevirtual 32, 3) := by decide +kernel
theorem dL_law_286 : decode (am_b mL_law) 286 = .ok (.aload_n 2, 1) := by decide +kernel
theorem dL_law_287 : decode (am_b mL_law) 287 = .ok (.aload_n 0, 1) := by decide +kernel
theorem dL_law_288 : decode (am_b mL_law) 288 = .ok (.iload_n 3, 1) := by decide +kernel
theorem dL_law_289 : decode (am_b mL_law) 289 = .ok (.iconst 1, 1) := by decide +kernel
theorem dL_law_290 : decode (am_b mL_law) 290 = .ok (.iadd, 1) := by decide +kernel
theorem dL_law_291 : decode (am_b mL_law) 291 = .ok (.iaload, 1) := by decide +kernel
theorem dL_law_292 : decode (am_b mL_law) 292 = .ok (.aload_n 0, 1) := by decide +kernel
theorem dL_law_293 : decode (am_b mL_law) 293 = .ok (.iload_n 3, 1) := by decide +kernel
theorem dL_law_294 : decode (am_b mL_law) 294 = .ok (.iconst 2, 1) := by decide +kernel
theorem dL_law_295 : decode (am_b mL_law) 295 = .ok (.iadd, 1) := by decide +kernel
theorem dL_law_296 : decode (am_b mL_law) 296 = .ok (.iaload, 1) := by decide +kernel
theorem dL_law_297 : decode (am_b mL_law) 297 = .ok (.invokevirtual 35, 3) := by decide +kernel
theorem dL_law_300 : decode (am_b mL_law) 300 = .ok (.if_icmp .eq 492, 3) := by decide +kernel
theorem dL_law_303 : decode (am_b mL_law) 303 = .ok (.iconst 0, 1) := by decide +kernel
theorem dL_law_304 : decode (am_b mL_law) 304 = .ok (.ireturn, 1) := by decide +kernel
theorem dL_law_305 : decode (am_b mL_law) 305 = .ok (.aload_n 1, 1) := by decide +kernel
theorem dL_law_306 : decode (am_b mL_law) 306 = .ok (.aload_n 0, 1) := by decide +kernel
theorem dL_law_307 : decode (am_b mL_law) 307 = .ok (.iload_n 3, 1) := by decide +kernel
theorem dL_law_308 : decode (am_b mL_law) 308 = .ok (.iconst 1, 1) := by decide +kernel
theorem dL_law_309 : decode (am_b mL_law) 309 = .ok (.iadd, 1) := by decide +kernel
theorem dL_law_310 : decode (am_b mL_law) 310 = .ok (.iaload, 1) := by decide +kernel
theorem dL_law_311 : decode (am_b mL_law) 311 = .ok (.aload_n 0, 1) := by decide +kernel
theorem dL_law_312 : decode (am_b mL_law) 312 = .ok (.iload_n 3, 1) := by decide +kernel
theorem dL_law_313 : decode (am_b mL_law) 313 = .ok (.iconst 2, 1) := by decide +kernel
theorem dL_law_314 : decode (am_b mL_law) 314 = .ok (.iadd, 1) := by decide +kernel
theorem dL_law_315 : decode (am_b mL_law) 315 = .ok (.iaload, 1) := by decide +kernel
theorem dL_law_316 : decode (am_b mL_law) 316 = .ok (.invokevirtual 36, 3) := by decide +kernel
theorem dL_law_319 : decode (am_b mL_law) 319 = .ok (.aload_n 2, 1) := by decide +kernel
theorem dL_law_320 : decode (am_b mL_law) 320 = .ok (.aload_n 0, 1) := by decide +kernel
theorem dL_law_321 : decode (am_b mL_law) 321 = .ok (.iload_n 3, 1) := by decide +kernel
theorem dL_law_322 : decode (am_b mL_law) 322 = .ok (.iconst 1, 1) := by decide +kernel
theorem dL_law_323 : decode (am_b mL_law) 323 = .ok (.iadd, 1) := by decide +kernel
theorem dL_law_324 : decode (am_b mL_law) 324 = .ok (.iaload, 1) := by decide +kernel
theorem dL_law_325 : decode (am_b mL_law) 325 = .ok (.aload_n 0, 1) := by decide +kernel
theorem dL_law_326 : decode (am_b mL_law) 326 = .ok (.iload_n 3, 1) := by decide +kernel
theorem dL_law_327 : decode (am_b mL_law) 327 = .ok (.iconst 2, 1) := by decide +kernel
theorem dL_law_328 : decode (am_b mL_law) 328 = .ok (.iadd, 1) := by decide +kernel
theorem dL_law_329 : decode (am_b mL_law) 329 = .ok (.iaload, 1) := by decide +kernel
theorem dL_law_330 : decode (am_b mL_law) 330 = .ok (.invokevirtual 39, 3) := by decide +kernel
theorem dL_law_333 : decode (am_b mL_law) 333 = .ok (.if_icmp .eq 459, 3) := by decide +kernel
theorem dL_law_336 : decode (am_b mL_law) 336 = .ok (.iconst 0, 1) := by decide +kernel
theorem dL_law_337 : decode (am_b mL_law) 337 = .ok (.ireturn, 1) := by decide +kernel
theorem dL_law_338 : decode (am_b mL_law) 338 = .ok (.aload_n 1, 1) := by decide +kernel
theorem dL_law_339 : decode (am_b mL_law) 339 = .ok (.aload_n 0, 1) := by decide +kernel
theorem dL_law_340 : decode (am_b mL_law) 340 = .ok (.iload_n 3, 1) := by decide +kernel
theorem dL_law_341 : decode (am_b mL_law) 341 = .ok (.iconst 1, 1) := by decide +kernel
theorem dL_law_342 : decode (am_b mL_law) 342 = .ok (.iadd, 1) := by decide +kernel
theorem dL_law_343 : decode (am_b mL_law) 343 = .ok (.iaload, 1) := by decide +kernel
theorem dL_law_344 : decode (am_b mL_law) 344 = .ok (.invokevirtual 40, 3) := by decide +kernel
theorem dL_law_347 : decode (am_b mL_law) 347 = .ok (.aload_n 2, 1) := by decide +kernel
theorem dL_law_348 : decode (am_b mL_law) 348 = .ok (.aload_n 0, 1) := by decide +kernel
theorem dL_law_349 : decode (am_b mL_law) 349 = .ok (.iload_n 3, 1) := by decide +kernel
theorem dL_law_350 : decode (am_b mL_law) 350 = .ok (.iconst 1, 1) := by decide +kernel
theorem dL_law_351 : decode (am_b mL_law) 351 = .ok (.iadd, 1) := by decide +kernel
theorem dL_law_352 : decode (am_b mL_law) 352 = .ok (.iaload, 1) := by decide +kernel
theorem dL_law_353 : decode (am_b mL_law) 353 = .ok (.invokevirtual 43, 3) := by decide +kernel
theorem dL_law_356 : decode (am_b mL_law) 356 = .ok (.if_icmp .eq 436, 3) := by decide +kernel
theorem dL_law_359 : decode (am_b mL_law) 359 = .ok (.iconst 0, 1) := by decide +kernel
theorem dL_law_360 : decode (am_b mL_law) 360 = .ok (.ireturn, 1) := by decide +kernel
theorem dL_law_361 : decode (am_b mL_law) 361 = .ok (.aload_n 1, 1) := by decide +kernel
theorem dL_law_362 : decode (am_b mL_law) 362 = .ok (.invokevirtual 44, 3) := by decide +kernel
theorem dL_law_365 : decode (am_b mL_law) 365 = .ok (.aload_n 2, 1) := by decide +kernel
theorem dL_law_366 : decode (am_b mL_law) 366 = .ok (.invokevirtual 48, 3) := by decide +kernel
theorem dL_law_369 : decode (am_b mL_law) 369 = .ok (.if_icmp .eq 423, 3) := by decide +kernel
theorem dL_law_372 : decode (am_b mL_law) 372 = .ok (.iconst 0, 1) := by decide +kernel
theorem dL_law_373 : decode (am_b mL_law) 373 = .ok (.ireturn, 1) := by decide +kernel
theorem dL_law_374 : decode (am_b mL_law) 374 = .ok (.aload_n 1, 1) := by decide +kernel
theorem dL_law_375 : decode (am_b mL_law) 375 = .ok (.invokevirtual 49, 3) := by decide +kernel
theorem dL_law_378 : decode (am_b mL_law) 378 = .ok (.aload_n 2, 1) := by decide +kernel
theorem dL_law_379 : decode (am_b mL_law) 379 = .ok (.invokevirtual 52, 3) := by decide +kernel
theorem dL_law_382 : decode (am_b mL_law) 382 = .ok (.if_icmp .eq 410, 3) := by decide +kernel
theorem dL_law_385 : decode (am_b mL_law) 385 = .ok (.iconst 0, 1) := by decide +kernel
theorem dL_law_386 : decode (am_b mL_law) 386 = .ok (.ireturn, 1) := by decide +kernel
theorem dL_law_387 : decode (am_b mL_law) 387 = .ok (.aload_n 1, 1) := by decide +kernel
theorem dL_law_388 : decode (am_b mL_law) 388 = .ok (.aload_n 0, 1) := by decide +kernel
theorem dL_law_389 : decode (am_b mL_law) 389 = .ok (.iload_n 3, 1) := by decide +kernel
theorem dL_law_390 : decode (am_b mL_law) 390 = .ok (.iconst 1, 1) := by decide +kernel
theorem dL_law_391 : decode (am_b mL_law) 391 = .ok (.iadd, 1) := by decide +kernel
theorem dL_law_392 : decode (am_b mL_law) 392 = .ok (.iaload, 1) := by decide +kernel
theorem dL_law_393 : decode (am_b mL_law) 393 = .ok (.aload_n 0, 1) := by decide +kernel
theorem dL_law_394 : decode (am_b mL_law) 394 = .ok (.iload_n 3, 1) := by decide +kernel
theorem dL_law_395 : decode (am_b mL_law) 395 = .ok (.iconst 2, 1) := by decide +kernel
theorem dL_law_396 : decode (am_b mL_law) 396 = .ok (.iadd, 1) := by decide +kernel
theorem dL_law_397 : decode (am_b mL_law) 397 = .ok (.iaload, 1) := by decide +kernel
theorem dL_law_398 : decode (am_b mL_law) 398 = .ok (.invokevirtual 53, 3) := by decide +kernel
theorem dL_law_401 : decode (am_b mL_law) 401 = .ok (.aload_n 2, 1) := by decide +kernel
theorem dL_law_402 : decode (am_b mL_law) 402 = .ok (.aload_n 0, 1) := by decide +kernel
theorem dL_law_403 : decode (am_b mL_law) 403 = .ok (.iload_n 3, 1) := by decide +kernel
theorem dL_law_404 : decode (am_b mL_law) 404 = .ok (.iconst 1, 1) := by decide +kernel
theorem dL_law_405 : decode (am_b mL_law) 405 = .ok (.iadd, 1) := by decide +kernel
theorem dL_law_406 : decode (am_b mL_law) 406 = .ok (.iaload, 1) := by decide +kernel
theorem dL_law_407 : decode (am_b mL_law) 407 = .ok (.aload_n 0, 1) := by decide +kernel
theorem dL_law_408 : decode (am_b mL_law) 408 = .ok (.iload_n 3, 1) := by decide +kernel
theorem dL_law_409 : decode (am_b mL_law) 409 = .ok (.iconst 2, 1) := by decide +kernel
theorem dL_law_410 : decode (am_b mL_law) 410 = .ok (.iadd, 1) := by decide +kernel
theorem dL_law_411 : decode (am_b mL_law) 411 = .ok (.iaload, 1) := by decide +kernel
theorem dL_law_412 : decode (am_b mL_law) 412 = .ok (.invokevirtual 56, 3) := by decide +kernel
theorem dL_law_415 : decode (am_b mL_law) 415 = .ok (.if_icmp .eq 377, 3) := by decide +kernel
theorem dL_law_418 : decode (am_b mL_law) 418 = .ok (.iconst 0, 1) := by decide +kernel
theorem dL_law_419 : decode (am_b mL_law) 419 = .ok (.ireturn, 1) := by decide +kernel
theorem dL_law_420 : decode (am_b mL_law) 420 = .ok (.aload_n 1, 1) := by decide +kernel
theorem dL_law_421 : decode (am_b mL_law) 421 = .ok (.aload_n 0, 1) := by decide +kernel
theorem dL_law_422 : decode (am_b mL_law) 422 = .ok (.iload_n 3, 1) := by decide +kernel
theorem dL_law_423 : decode (am_b mL_law) 423 = .ok (.iconst 1, 1) := by decide +kernel
theorem dL_law_424 : decode (am_b mL_law) 424 = .ok (.iadd, 1) := by decide +kernel
theorem dL_law_425 : decode (am_b mL_law) 425 = .ok (.iaload, 1) := by decide +kernel
theorem dL_law_426 : decode (am_b mL_law) 426 = .ok (.aload_n 0, 1) := by decide +kernel
theorem dL_law_427 : decode (am_b mL_law) 427 = .ok (.iload_n 3, 1) := by decide +kernel
theorem dL_law_428 : decode (am_b mL_law) 428 = .ok (.iconst 2, 1) := by decide +kernel
theorem dL_law_429 : decode (am_b mL_law) 429 = .ok (.iadd, 1) := by decide +kernel
theorem dL_law_430 : decode (am_b mL_law) 430 = .ok (.iaload, 1) := by decide +kernel
theorem dL_law_431 : decode (am_b mL_law) 431 = .ok (.invokevirtual 57, 3) := by decide +kernel
theorem dL_law_434 : decode (am_b mL_law) 434 = .ok (.aload_n 2, 1) := by decide +kernel
theorem dL_law_435 : decode (am_b mL_law) 435 = .ok (.aload_n 0, 1) := by decide +kernel
theorem dL_law_436 : decode (am_b mL_law) 436 = .ok (.iload_n 3, 1) := by decide +kernel
theorem dL_law_437 : decode (am_b mL_law) 437 = .ok (.iconst 1, 1) := by decide +kernel
theorem dL_law_438 : decode (am_b mL_law) 438 = .ok (.iadd, 1) := by decide +kernel
theorem dL_law_439 : decode (am_b mL_law) 439 = .ok (.iaload, 1) := by decide +kernel
theorem dL_law_440 : decode (am_b mL_law) 440 = .ok (.aload_n 0, 1) := by decide +kernel
theorem dL_law_441 : decode (am_b mL_law) 441 = .ok (.iload_n 3, 1) := by decide +kernel
theorem dL_law_442 : decode (am_b mL_law) 442 = .ok (.iconst 2, 1) := by decide +kernel
theorem dL_law_443 : decode (am_b mL_law) 443 = .ok (.iadd, 1) := by decide +kernel
theorem dL_law_444 : decode (am_b mL_law) 444 = .ok (.iaload, 1) := by decide +kernel
theorem dL_law_445 : decode (am_b mL_law) 445 = .ok (.invokevirtual 60, 3) := by decide +kernel
theorem dL_law_448 : decode (am_b mL_law) 448 = .ok (.if_icmp .eq 344, 3) := by decide +kernel
theorem dL_law_451 : decode (am_b mL_law) 451 = .ok (.iconst 0, 1) := by decide +kernel
theorem dL_law_452 : decode (am_b mL_law) 452 = .ok (.ireturn, 1) := by decide +kernel
theorem dL_law_453 : decode (am_b mL_law) 453 = .ok (.aload_n 1, 1) := by decide +kernel
theorem dL_law_454 : decode (am_b mL_law) 454 = .ok (.aload_n 0, 1) := by decide +kernel
theorem dL_law_455 : decode (am_b mL_law) 455 = .ok (.iload_n 3, 1) := by decide +kernel
theorem dL_law_456 : decode (am_b mL_law) 456 = .ok (.iconst 1, 1) := by decide +kernel
theorem dL_law_457 : decode (am_b mL_law) 457 = .ok (.iadd, 1) := by decide +kernel
theorem dL_law_458 : decode (am_b mL_law) 458 = .ok (.iaload, 1) := by decide +kernel
theorem dL_law_459 : decode (am_b mL_law) 459 = .ok (.aload_n 0, 1) := by decide +kernel
theorem dL_law_460 : decode (am_b mL_law) 460 = .ok (.iload_n 3, 1) := by decide +kernel
theorem dL_law_461 : decode (am_b mL_law) 461 = .ok (.iconst 2, 1) := by decide +kernel
theorem dL_law_462 : decode (am_b mL_law) 462 = .ok (.iadd, 1) := by decide +kernel
theorem dL_law_463 : decode (am_b mL_law) 463 = .ok (.iaload, 1) := by decide +kernel
theorem dL_law_464 : decode (am_b mL_law) 464 = .ok (.aload_n 0, 1) := by decide +kernel
theorem dL_law_465 : decode (am_b mL_law) 465 = .ok (.iload_n 3, 1) := by decide +kernel
theorem dL_law_466 : decode (am_b mL_law) 466 = .ok (.iconst 3, 1) := by decide +kernel
theorem dL_law_467 : decode (am_b mL_law) 467 = .ok (.iadd, 1) := by decide +kernel
theorem dL_law_468 : decode (am_b mL_law) 468 = .ok (.iaload, 1) := by decide +kernel
theorem dL_law_469 : decode (am_b mL_law) 469 = .ok (.invokevirtual 61, 3) := by decide +kernel
theorem dL_law_472 : decode (am_b mL_law) 472 = .ok (.aload_n 2, 1) := by decide +kernel
theorem dL_law_473 : decode (am_b mL_law) 473 = .ok (.aload_n 0, 1) := by decide +kernel
theorem dL_law_474 : decode (am_b mL_law) 474 = .ok (.iload_n 3, 1) := by decide +kernel
theorem dL_law_475 : decode (am_b mL_law) 475 = .ok (.iconst 1, 1) := by decide +kernel
theorem dL_law_476 : decode (am_b mL_law) 476 = .ok (.iadd, 1) := by decide +kernel
theorem dL_law_477 : decode (am_b mL_law) 477 = .ok (.iaload, 1) := by decide +kernel
theorem dL_law_478 : decode (am_b mL_law) 478 = .ok (.aload_n 0, 1) := by decide +kernel
theorem dL_law_479 : decode (am_b mL_law) 479 = .ok (.iload_n 3, 1) := by decide +kernel
theorem dL_law_480 : decode (am_b mL_law) 480 = .ok (.iconst 2, 1) := by decide +kernel
theorem dL_law_481 : decode (am_b mL_law) 481 = .ok (.iadd, 1) := by decide +kernel
theorem dL_law_482 : decode (am_b mL_law) 482 = .ok (.iaload, 1) := by decide +kernel
theorem dL_law_483 : decode (am_b mL_law) 483 = .ok (.aload_n 0, 1) := by decide +kernel
theorem dL_law_484 : decode (am_b mL_law) 484 = .ok (.iload_n 3, 1) := by decide +kernel
theorem dL_law_485 : decode (am_b mL_law) 485 = .ok (.iconst 3, 1) := by decide +kernel
theorem dL_law_486 : decode (am_b mL_law) 486 = .ok (.iadd, 1) := by decide +kernel
theorem dL_law_487 : decode (am_b mL_law) 487 = .ok (.iaload, 1) := by decide +kernel
theorem dL_law_488 : decode (am_b mL_law) 488 = .ok (.invokevirtual 65, 3) := by decide +kernel
theorem dL_law_491 : decode (am_b mL_law) 491 = .ok (.if_icmp .eq 301, 3) := by decide +kernel
theorem dL_law_494 : decode (am_b mL_law) 494 = .ok (.iconst 0, 1) := by decide +kernel
theorem dL_law_495 : decode (am_b mL_law) 495 = .ok (.ireturn, 1) := by decide +kernel
theorem dL_law_496 : decode (am_b mL_law) 496 = .ok (.aload_n 1, 1) := by decide +kernel
theorem dL_law_497 : decode (am_b mL_law) 497 = .ok (.aload_n 0, 1) := by decide +kernel
theorem dL_law_498 : decode (am_b mL_law) 498 = .ok (.iload_n 3, 1) := by decide +kernel
theorem dL_law_499 : decode (am_b mL_law) 499 = .ok (.iconst 1, 1) := by decide +kernel
theorem dL_law_500 : decode (am_b mL_law) 500 = .ok (.iadd, 1) := by decide +kernel
theorem dL_law_501 : decode (am_b mL_law) 501 = .ok (.iaload, 1) := by decide +kernel
theorem dL_law_502 : decode (am_b mL_law) 502 = .ok (.invokevirtual 66, 3) := by decide +kernel
theorem dL_law_505 : decode (am_b mL_law) 505 = .ok (.aload_n 2, 1) := by decide +kernel
theorem dL_law_506 : decode (am_b mL_law) 506 = .ok (.aload_n 0, 1) := by decide +kernel
theorem dL_law_507 : decode (am_b mL_law) 507 = .ok (.iload_n 3, 1) := by decide +kernel
theorem dL_law_508 : decode (am_b mL_law) 508 = .ok (.iconst 1, 1) := by decide +kernel
theorem dL_law_509 : decode (am_b mL_law) 509 = .ok (.iadd, 1) := by decide +kernel
theorem dL_law_510 : decode (am_b mL_law) 510 = .ok (.iaload, 1) := by decide +kernel
theorem dL_law_511 : decode (am_b mL_law) 511 = .ok (.invokevirtual 69, 3) := by decide +kernel
theorem dL_law_514 : decode (am_b mL_law) 514 = .ok (.if_icmp .eq 278, 3) := by decide +kernel
theorem dL_law_517 : decode (am_b mL_law) 517 = .ok (.iconst 0, 1) := by decide +kernel
theorem dL_law_518 : decode (am_b mL_law) 518 = .ok (.ireturn, 1) := by decide +kernel
theorem dL_law_519 : decode (am_b mL_law) 519 = .ok (.aload_n 1, 1) := by decide +kernel
theorem dL_law_520 : decode (am_b mL_law) 520 = .ok (.aload_n 0, 1) := by decide +kernel
theorem dL_law_521 : decode (am_b mL_law) 521 = .ok (.iload_n 3, 1) := by decide +kernel
theorem dL_law_522 : decode (am_b mL_law) 522 = .ok (.iconst 1, 1) := by decide +kernel
theorem dL_law_523 : decode (am_b mL_law) 523 = .ok (.iadd, 1) := by decide +kernel
theorem dL_law_524 : decode (am_b mL_law) 524 = .ok (.iaload, 1) := by decide +kernel
theorem dL_law_525 : decode (am_b mL_law) 525 = .ok (.invokevirtual 70, 3) := by decide +kernel
theorem dL_law_528 : decode (am_b mL_law) 528 = .ok (.aload_n 2, 1) := by decide +kernel
theorem dL_law_529 : decode (am_b mL_law) 529 = .ok (.aload_n 0, 1) := by decide +kernel
theorem dL_law_530 : decode (am_b mL_law) 530 = .ok (.iload_n 3, 1) := by decide +kernel
theorem dL_law_531 : decode (am_b mL_law) 531 = .ok (.iconst 1, 1) := by decide +kernel
theorem dL_law_532 : decode (am_b mL_law) 532 = .ok (.iadd, 1) := by decide +kernel
theorem dL_law_533 : decode (am_b mL_law) 533 = .ok (.iaload, 1) := by decide +kernel
theorem dL_law_534 : decode (am_b mL_law) 534 = .ok (.invokevirtual 73, 3) := by decide +kernel
theorem dL_law_537 : decode (am_b mL_law) 537 = .ok (.if_icmp .eq 255, 3) := by decide +kernel
theorem dL_law_540 : decode (am_b mL_law) 540 = .ok (.iconst 0, 1) := by decide +kernel
theorem dL_law_541 : decode (am_b mL_law) 541 = .ok (.ireturn, 1) := by decide +kernel
theorem dL_law_542 : decode (am_b mL_law) 542 = .ok (.aload_n 1, 1) := by decide +kernel
theorem dL_law_543 : decode (am_b mL_law) 543 = .ok (.aload_n 0, 1) := by decide +kernel
theorem dL_law_544 : decode (am_b mL_law) 544 = .ok (.iload_n 3, 1) := by decide +kernel
theorem dL_law_545 : decode (am_b mL_law) 545 = .ok (.iconst 1, 1) := by decide +kernel
theorem dL_law_546 : decode (am_b mL_law) 546 = .ok (.iadd, 1) := by decide +kernel
theorem dL_law_547 : decode (am_b mL_law) 547 = .ok (.iaload, 1) := by decide +kernel
theorem dL_law_548 : decode (am_b mL_law) 548 = .ok (.aload_n 0, 1) := by decide +kernel
theorem dL_law_549 : decode (am_b mL_law) 549 = .ok (.iload_n 3, 1) := by decide +kernel
theorem dL_law_550 : decode (am_b mL_law) 550 = .ok (.iconst 2, 1) := by decide +kernel
theorem dL_law_551 : decode (am_b mL_law) 551 = .ok (.iadd, 1) := by decide +kernel
theorem dL_law_552 : decode (am_b mL_law) 552 = .ok (.iaload, 1) := by decide +kernel
theorem dL_law_553 : decode (am_b mL_law) 553 = .ok (.invokevirtual 74, 3) := by decide +kernel
theorem dL_law_556 : decode (am_b mL_law) 556 = .ok (.aload_n 2, 1) := by decide +kernel
theorem dL_law_557 : decode (am_b mL_law) 557 = .ok (.aload_n 0, 1) := by decide +kernel
theorem dL_law_558 : decode (am_b mL_law) 558 = .ok (.iload_n 3, 1) := by decide +kernel
theorem dL_law_559 : decode (am_b mL_law) 559 = .ok (.iconst 1, 1) := by decide +kernel
theorem dL_law_560 : decode (am_b mL_law) 560 = .ok (.iadd, 1) := by decide +kernel
theorem dL_law_561 : decode (am_b mL_law) 561 = .ok (.iaload, 1) := by decide +kernel
theorem dL_law_562 : decode (am_b mL_law) 562 = .ok (.aload_n 0, 1) := by decide +kernel
theorem dL_law_563 : decode (am_b mL_law) 563 = .ok (.iload_n 3, 1) := by decide +kernel
theorem dL_law_564 : decode (am_b mL_law) 564 = .ok (.iconst 2, 1) := by decide +kernel
theorem dL_law_565 : decode (am_b mL_law) 565 = .ok (.iadd, 1) := by decide +kernel
theorem dL_law_566 : decode (am_b mL_law) 566 = .ok (.iaload, 1) := by decide +kernel
theorem dL_law_567 : decode (am_b mL_law) 567 = .ok (.invokevirtual 77, 3) := by decide +kernel
theorem dL_law_570 : decode (am_b mL_law) 570 = .ok (.if_icmp .eq 222, 3) := by decide +kernel
theorem dL_law_573 : decode (am_b mL_law) 573 = .ok (.iconst 0, 1) := by decide +kernel
theorem dL_law_574 : decode (am_b mL_law) 574 = .ok (.ireturn, 1) := by decide +kernel
theorem dL_law_575 : decode (am_b mL_law) 575 = .ok (.aload_n 1, 1) := by decide +kernel
theorem dL_law_576 : decode (am_b mL_law) 576 = .ok (.aload_n 0, 1) := by decide +kernel
theorem dL_law_577 : decode (am_b mL_law) 577 = .ok (.iload_n 3, 1) := by decide +kernel
theorem dL_law_578 : decode (am_b mL_law) 578 = .ok (.iconst 1, 1) := by decide +kernel
theorem dL_law_579 : decode (am_b mL_law) 579 = .ok (.iadd, 1) := by decide +kernel
theorem dL_law_580 : decode (am_b mL_law) 580 = .ok (.iaload, 1) := by decide +kernel
theorem dL_law_581 : decode (am_b mL_law) 581 = .ok (.invokevirtual 78, 3) := by decide +kernel
theorem dL_law_584 : decode (am_b mL_law) 584 = .ok (.aload_n 2, 1) := by decide +kernel
theorem dL_law_585 : decode (am_b mL_law) 585 = .ok (.aload_n 0, 1) := by decide +kernel
theorem dL_law_586 : decode (am_b mL_law) 586 = .ok (.iload_n 3, 1) := by decide +kernel
theorem dL_law_587 : decode (am_b mL_law) 587 = .ok (.iconst 1, 1) := by decide +kernel
theorem dL_law_588 : decode (am_b mL_law) 588 = .ok (.iadd, 1) := by decide +kernel
theorem dL_law_589 : decode (am_b mL_law) 589 = .ok (.iaload, 1) := by decide +kernel
theorem dL_law_590 : decode (am_b mL_law) 590 = .ok (.invokevirtual 81, 3) := by decide +kernel
theorem dL_law_593 : decode (am_b mL_law) 593 = .ok (.if_icmp .eq 199, 3) := by decide +kernel
theorem dL_law_596 : decode (am_b mL_law) 596 = .ok (.iconst 0, 1) := by decide +kernel
theorem dL_law_597 : decode (am_b mL_law) 597 = .ok (.ireturn, 1) := by decide +kernel
theorem dL_law_598 : decode (am_b mL_law) 598 = .ok (.aload_n 1, 1) := by decide +kernel
theorem dL_law_599 : decode (am_b mL_law) 599 = .ok (.aload_n 0, 1) := by decide +kernel
theorem dL_law_600 : decode (am_b mL_law) 600 = .ok (.iload_n 3, 1) := by decide +kernel
theorem dL_law_601 : decode (am_b mL_law) 601 = .ok (.iconst 1, 1) := by decide +kernel
theorem dL_law_602 : decode (am_b mL_law) 602 = .ok (.iadd, 1) := by decide +kernel
theorem dL_law_603 : decode (am_b mL_law) 603 = .ok (.iaload, 1) := by decide +kernel
theorem dL_law_604 : decode (am_b mL_law) 604 = .ok (.aload_n 0, 1) := by decide +kernel
theorem dL_law_605 : decode (am_b mL_law) 605 = .ok (.iload_n 3, 1) := by decide +kernel
theorem dL_law_606 : decode (am_b mL_law) 606 = .ok (.iconst 2, 1) := by decide +kernel
theorem dL_law_607 : decode (am_b mL_law) 607 = .ok (.iadd, 1) := by decide +kernel
theorem dL_law_608 : decode (am_b mL_law) 608 = .ok (.iaload, 1) := by decide +kernel
theorem dL_law_609 : decode (am_b mL_law) 609 = .ok (.invokevirtual 82, 3) := by decide +kernel
theorem dL_law_612 : decode (am_b mL_law) 612 = .ok (.aload_n 2, 1) := by decide +kernel
theorem dL_law_613 : decode (am_b mL_law) 613 = .ok (.aload_n 0, 1) := by decide +kernel
theorem dL_law_614 : decode (am_b mL_law) 614 = .ok (.iload_n 3, 1) := by decide +kernel
theorem dL_law_615 : decode (am_b mL_law) 615 = .ok (.iconst 1, 1) := by decide +kernel
theorem dL_law_616 : decode (am_b mL_law) 616 = .ok (.iadd, 1) := by decide +kernel
theorem dL_law_617 : decode (am_b mL_law) 617 = .ok (.iaload, 1) := by decide +kernel
theorem dL_law_618 : decode (am_b mL_law) 618 = .ok (.aload_n 0, 1) := by decide +kernel
theorem dL_law_619 : decode (am_b mL_law) 619 = .ok (.iload_n 3, 1) := by decide +kernel
theorem dL_law_620 : decode (am_b mL_law) 620 = .ok (.iconst 2, 1) := by decide +kernel
theorem dL_law_621 : decode (am_b mL_law) 621 = .ok (.iadd, 1) := by decide +kernel
theorem dL_law_622 : decode (am_b mL_law) 622 = .ok (.iaload, 1) := by decide +kernel
theorem dL_law_623 : decode (am_b mL_law) 623 = .ok (.invokevirtual 85, 3) := by decide +kernel
theorem dL_law_626 : decode (am_b mL_law) 626 = .ok (.if_icmp .eq 166, 3) := by decide +kernel
theorem dL_law_629 : decode (am_b mL_law) 629 = .ok (.iconst 0, 1) := by decide +kernel
theorem dL_law_630 : decode (am_b mL_law) 630 = .ok (.ireturn, 1) := by decide +kernel
theorem dL_law_631 : decode (am_b mL_law) 631 = .ok (.aload_n 1, 1) := by decide +kernel
theorem dL_law_632 : decode (am_b mL_law) 632 = .ok (.aload_n 0, 1) := by decide +kernel
theorem dL_law_633 : decode (am_b mL_law) 633 = .ok (.iload_n 3, 1) := by decide +kernel
theorem dL_law_634 : decode (am_b mL_law) 634 = .ok (.iconst 1, 1) := by decide +kernel
theorem dL_law_635 : decode (am_b mL_law) 635 = .ok (.iadd, 1) := by decide +kernel
theorem dL_law_636 : decode (am_b mL_law) 636 = .ok (.iaload, 1) := by decide +kernel
theorem dL_law_637 : decode (am_b mL_law) 637 = .ok (.invokevirtual 86, 3) := by decide +kernel
theorem dL_law_640 : decode (am_b mL_law) 640 = .ok (.aload_n 2, 1) := by decide +kernel
theorem dL_law_641 : decode (am_b mL_law) 641 = .ok (.aload_n 0, 1) := by decide +kernel
theorem dL_law_642 : decode (am_b mL_law) 642 = .ok (.iload_n 3, 1) := by decide +kernel
theorem dL_law_643 : decode (am_b mL_law) 643 = .ok (.iconst 1, 1) := by decide +kernel
theorem dL_law_644 : decode (am_b mL_law) 644 = .ok (.iadd, 1) := by decide +kernel
theorem dL_law_645 : decode (am_b mL_law) 645 = .ok (.iaload, 1) := by decide +kernel
theorem dL_law_646 : decode (am_b mL_law) 646 = .ok (.invokevirtual 89, 3) := by decide +kernel
theorem dL_law_649 : decode (am_b mL_law) 649 = .ok (.if_icmp .eq 143, 3) := by decide +kernel
theorem dL_law_652 : decode (am_b mL_law) 652 = .ok (.iconst 0, 1) := by decide +kernel
theorem dL_law_653 : decode (am_b mL_law) 653 = .ok (.ireturn, 1) := by decide +kernel
theorem dL_law_654 : decode (am_b mL_law) 654 = .ok (.aload_n 1, 1) := by decide +kernel
theorem dL_law_655 : decode (am_b mL_law) 655 = .ok (.aload_n 0, 1) := by decide +kernel
theorem dL_law_656 : decode (am_b mL_law) 656 = .ok (.iload_n 3, 1) := by decide +kernel
theorem dL_law_657 : decode (am_b mL_law) 657 = .ok (.iconst 1, 1) := by decide +kernel
theorem dL_law_658 : decode (am_b mL_law) 658 = .ok (.iadd, 1) := by decide +kernel
theorem dL_law_659 : decode (am_b mL_law) 659 = .ok (.iaload, 1) := by decide +kernel
theorem dL_law_660 : decode (am_b mL_law) 660 = .ok (.i2l, 1) := by decide +kernel
theorem dL_law_661 : decode (am_b mL_law) 661 = .ok (.bipush 32, 2) := by decide +kernel
theorem dL_law_663 : decode (am_b mL_law) 663 = .ok (.lshl, 1) := by decide +kernel
theorem dL_law_664 : decode (am_b mL_law) 664 = .ok (.aload_n 0, 1) := by decide +kernel
theorem dL_law_665 : decode (am_b mL_law) 665 = .ok (.iload_n 3, 1) := by decide +kernel
theorem dL_law_666 : decode (am_b mL_law) 666 = .ok (.iconst 2, 1) := by decide +kernel
theorem dL_law_667 : decode (am_b mL_law) 667 = .ok (.iadd, 1) := by decide +kernel
theorem dL_law_668 : decode (am_b mL_law) 668 = .ok (.iaload, 1) := by decide +kernel
theorem dL_law_669 : decode (am_b mL_law) 669 = .ok (.i2l, 1) := by decide +kernel
theorem dL_law_670 : decode (am_b mL_law) 670 = .ok (.ldc2_w 90, 3) := by decide +kernel
theorem dL_law_673 : decode (am_b mL_law) 673 = .ok (.land, 1) := by decide +kernel
theorem dL_law_674 : decode (am_b mL_law) 674 = .ok (.lor, 1) := by decide +kernel
theorem dL_law_675 : decode (am_b mL_law) 675 = .ok (.invokevirtual 92, 3) := by decide +kernel
theorem dL_law_678 : decode (am_b mL_law) 678 = .ok (.aload_n 2, 1) := by decide +kernel
theorem dL_law_679 : decode (am_b mL_law) 679 = .ok (.aload_n 0, 1) := by decide +kernel
theorem dL_law_680 : decode (am_b mL_law) 680 = .ok (.iload_n 3, 1) := by decide +kernel
theorem dL_law_681 : decode (am_b mL_law) 681 = .ok (.iconst 1, 1) := by decide +kernel
theorem dL_law_682 : decode (am_b mL_law) 682 = .ok (.iadd, 1) := by decide +kernel
theorem dL_law_683 : decode (am_b mL_law) 683 = .ok (.iaload, 1) := by decide +kernel
theorem dL_law_684 : decode (am_b mL_law) 684 = .ok (.i2l, 1) := by decide +kernel
theorem dL_law_685 : decode (am_b mL_law) 685 = .ok (.bipush 32, 2) := by decide +kernel
theorem dL_law_687 : decode (am_b mL_law) 687 = .ok (.lshl, 1) := by decide +kernel
theorem dL_law_688 : decode (am_b mL_law) 688 = .ok (.aload_n 0, 1) := by decide +kernel
theorem dL_law_689 : decode (am_b mL_law) 689 = .ok (.iload_n 3, 1) := by decide +kernel
theorem dL_law_690 : decode (am_b mL_law) 690 = .ok (.iconst 2, 1) := by decide +kernel
theorem dL_law_691 : decode (am_b mL_law) 691 = .ok (.iadd, 1) := by decide +kernel
theorem dL_law_692 : decode (am_b mL_law) 692 = .ok (.iaload, 1) := by decide +kernel
theorem dL_law_693 : decode (am_b mL_law) 693 = .ok (.i2l, 1) := by decide +kernel
theorem dL_law_694 : decode (am_b mL_law) 694 = .ok (.ldc2_w 90, 3) := by decide +kernel
theorem dL_law_697 : decode (am_b mL_law) 697 = .ok (.land, 1) := by decide +kernel
theorem dL_law_698 : decode (am_b mL_law) 698 = .ok (.lor, 1) := by decide +kernel
theorem dL_law_699 : decode (am_b mL_law) 699 = .ok (.invokevirtual 96, 3) := by decide +kernel
theorem dL_law_702 : decode (am_b mL_law) 702 = .ok (.if_icmp .eq 90, 3) := by decide +kernel
theorem dL_law_705 : decode (am_b mL_law) 705 = .ok (.iconst 0, 1) := by decide +kernel
theorem dL_law_706 : decode (am_b mL_law) 706 = .ok (.ireturn, 1) := by decide +kernel
theorem dL_law_707 : decode (am_b mL_law) 707 = .ok (.aload_n 1, 1) := by decide +kernel
theorem dL_law_708 : decode (am_b mL_law) 708 = .ok (.invokevirtual 97, 3) := by decide +kernel
theorem dL_law_711 : decode (am_b mL_law) 711 = .ok (.aload_n 2, 1) := by decide +kernel
theorem dL_law_712 : decode (am_b mL_law) 712 = .ok (.invokevirtual 100, 3) := by decide +kernel
theorem dL_law_715 : decode (am_b mL_law) 715 = .ok (.if_icmp .eq 77, 3) := by decide +kernel
theorem dL_law_718 : decode (am_b mL_law) 718 = .ok (.iconst 0, 1) := by decide +kernel
theorem dL_law_719 : decode (am_b mL_law) 719 = .ok (.ireturn, 1) := by decide +kernel
theorem dL_law_720 : decode (am_b mL_law) 720 = .ok (.aload_n 1, 1) := by decide +kernel
theorem dL_law_721 : decode (am_b mL_law) 721 = .ok (.invokevirtual 101, 3) := by decide +kernel
theorem dL_law_724 : decode (am_b mL_law) 724 = .ok (.aload_n 2, 1) := by decide +kernel
theorem dL_law_725 : decode (am_b mL_law) 725 = .ok (.invokevirtual 104, 3) := by decide +kernel
theorem dL_law_728 : decode (am_b mL_law) 728 = .ok (.if_icmp .eq 64, 3) := by decide +kernel
theorem dL_law_731 : decode (am_b mL_law) 731 = .ok (.iconst 0, 1) := by decide +kernel
theorem dL_law_732 : decode (am_b mL_law) 732 = .ok (.ireturn, 1) := by decide +kernel
theorem dL_law_733 : decode (am_b mL_law) 733 = .ok (.aload_n 1, 1) := by decide +kernel
theorem dL_law_734 : decode (am_b mL_law) 734 = .ok (.invokevirtual 105, 3) := by decide +kernel
theorem dL_law_737 : decode (am_b mL_law) 737 = .ok (.aload_n 2, 1) := by decide +kernel
theorem dL_law_738 : decode (am_b mL_law) 738 = .ok (.invokevirtual 108, 3) := by decide +kernel
theorem dL_law_741 : decode (am_b mL_law) 741 = .ok (.if_icmp .eq 51, 3) := by decide +kernel
theorem dL_law_744 : decode (am_b mL_law) 744 = .ok (.iconst 0, 1) := by decide +kernel
theorem dL_law_745 : decode (am_b mL_law) 745 = .ok (.ireturn, 1) := by decide +kernel
theorem dL_law_746 : decode (am_b mL_law) 746 = .ok (.aload_n 1, 1) := by decide +kernel
theorem dL_law_747 : decode (am_b mL_law) 747 = .ok (.aload_n 0, 1) := by decide +kernel
theorem dL_law_748 : decode (am_b mL_law) 748 = .ok (.iload_n 3, 1) := by decide +kernel
theorem dL_law_749 : decode (am_b mL_law) 749 = .ok (.iconst 1, 1) := by decide +kernel
theorem dL_law_750 : decode (am_b mL_law) 750 = .ok (.iadd, 1) := by decide +kernel
theorem dL_law_751 : decode (am_b mL_law) 751 = .ok (.iaload, 1) := by decide +kernel
theorem dL_law_752 : decode (am_b mL_law) 752 = .ok (.invokevirtual 109, 3) := by decide +kernel
theorem dL_law_755 : decode (am_b mL_law) 755 = .ok (.aload_n 2, 1) := by decide +kernel
theorem dL_law_756 : decode (am_b mL_law) 756 = .ok (.aload_n 0, 1) := by decide +kernel
theorem dL_law_757 : decode (am_b mL_law) 757 = .ok (.iload_n 3, 1) := by decide +kernel
theorem dL_law_758 : decode (am_b mL_law) 758 = .ok (.iconst 1, 1) := by decide +kernel
theorem dL_law_759 : decode (am_b mL_law) 759 = .ok (.iadd, 1) := by decide +kernel
theorem dL_law_760 : decode (am_b mL_law) 760 = .ok (.iaload, 1) := by decide +kernel
theorem dL_law_761 : decode (am_b mL_law) 761 = .ok (.invokevirtual 112, 3) := by decide +kernel
theorem dL_law_764 : decode (am_b mL_law) 764 = .ok (.if_icmp .eq 28, 3) := by decide +kernel
theorem dL_law_767 : decode (am_b mL_law) 767 = .ok (.iconst 0, 1) := by decide +kernel
theorem dL_law_768 : decode (am_b mL_law) 768 = .ok (.ireturn, 1) := by decide +kernel
theorem dL_law_769 : decode (am_b mL_law) 769 = .ok (.aload_n 1, 1) := by decide +kernel
theorem dL_law_770 : decode (am_b mL_law) 770 = .ok (.aload_n 0, 1) := by decide +kernel
theorem dL_law_771 : decode (am_b mL_law) 771 = .ok (.iload_n 3, 1) := by decide +kernel
theorem dL_law_772 : decode (am_b mL_law) 772 = .ok (.iconst 1, 1) := by decide +kernel
theorem dL_law_773 : decode (am_b mL_law) 773 = .ok (.iadd, 1) := by decide +kernel
theorem dL_law_774 : decode (am_b mL_law) 774 = .ok (.iaload, 1) := by decide +kernel
theorem dL_law_775 : decode (am_b mL_law) 775 = .ok (.invokevirtual 113, 3) := by decide +kernel
theorem dL_law_778 : decode (am_b mL_law) 778 = .ok (.aload_n 2, 1) := by decide +kernel
theorem dL_law_779 : decode (am_b mL_law) 779 = .ok (.aload_n 0, 1) := by decide +kernel
theorem dL_law_780 : decode (am_b mL_law) 780 = .ok (.iload_n 3, 1) := by decide +kernel
theorem dL_law_781 : decode (am_b mL_law) 781 = .ok (.iconst 1, 1) := by decide +kernel
theorem dL_law_782 : decode (am_b mL_law) 782 = .ok (.iadd, 1) := by decide +kernel
theorem dL_law_783 : decode (am_b mL_law) 783 = .ok (.iaload, 1) := by decide +kernel
theorem dL_law_784 : decode (am_b mL_law) 784 = .ok (.invokevirtual 116, 3) := by decide +kernel
theorem dL_law_787 : decode (am_b mL_law) 787 = .ok (.if_icmp .eq 5, 3) := by decide +kernel
theorem dL_law_790 : decode (am_b mL_law) 790 = .ok (.iconst 0, 1) := by decide +kernel
theorem dL_law_791 : decode (am_b mL_law) 791 = .ok (.ireturn, 1) := by decide +kernel
theorem dL_law_792 : decode (am_b mL_law) 792 = .ok (.iinc 3 4, 3) := by decide +kernel
theorem dL_law_795 : decode (am_b mL_law) 795 = .ok (.goto (-777), 3) := by decide +kernel
theorem dL_law_798 : decode (am_b mL_law) 798 = .ok (.iconst 1, 1) := by decide +kernel
theorem dL_law_799 : decode (am_b mL_law) 799 = .ok (.ireturn, 1) := by decide +kernel
end
section
/-! printed: decode rows -/
theorem dX7_at_0 : decode (am_b mX7_at) 0 = .ok (.iload_n 0, 1) := by decide +kernel
theorem dX7_at_1 : decode (am_b mX7_at) 1 = .ok (.bipush 20, 2) := by decide +kernel
theorem dX7_at_3 : decode (am_b mX7_at) 3 = .ok (.iadd, 1) := by decide +kernel
theorem dX7_at_4 : decode (am_b mX7_at) 4 = .ok (.iconst 5, 1) := by decide +kernel
theorem dX7_at_5 : decode (am_b mX7_at) 5 = .ok (.iload_n 1, 1) := by decide +kernel
theorem dX7_at_6 : decode (am_b mX7_at) 6 = .ok (.imul, 1) := by decide +kernel
theorem dX7_at_7 : decode (am_b mX7_at) 7 = .ok (.iadd, 1) := by decide +kernel
theorem dX7_at_8 : decode (am_b mX7_at) 8 = .ok (.ireturn, 1) := by decide +kernel
theorem dX7_copies_0 : decode (am_b mX7_copies) 0 = .ok (.iconst 0, 1) := by decide +kernel
theorem dX7_copies_1 : decode (am_b mX7_copies) 1 = .ok (.istore_n 1, 1) := by decide +kernel
theorem dX7_copies_2 : decode (am_b mX7_copies) 2 = .ok (.iload_n 1, 1) := by decide +kernel
theorem dX7_copies_3 : decode (am_b mX7_copies) 3 = .ok (.bipush 60, 2) := by decide +kernel
theorem dX7_copies_5 : decode (am_b mX7_copies) 5 = .ok (.if_icmp .ge 24, 3) := by decide +kernel
theorem dX7_copies_8 : decode (am_b mX7_copies) 8 = .ok (.aload_n 0, 1) := by decide +kernel
theorem dX7_copies_9 : decode (am_b mX7_copies) 9 = .ok (.getfield 7, 3) := by decide +kernel
theorem dX7_copies_12 : decode (am_b mX7_copies) 12 = .ok (.bipush 60, 2) := by decide +kernel
theorem dX7_copies_14 : decode (am_b mX7_copies) 14 = .ok (.iload_n 1, 1) := by decide +kernel
theorem dX7_copies_15 : decode (am_b mX7_copies) 15 = .ok (.iadd, 1) := by decide +kernel
theorem dX7_copies_16 : decode (am_b mX7_copies) 16 = .ok (.aload_n 0, 1) := by decide +kernel
theorem dX7_copies_17 : decode (am_b mX7_copies) 17 = .ok (.getfield 7, 3) := by decide +kernel
theorem dX7_copies_20 : decode (am_b mX7_copies) 20 = .ok (.iload_n 1, 1) := by decide +kernel
theorem dX7_copies_21 : decode (am_b mX7_copies) 21 = .ok (.iaload, 1) := by decide +kernel
theorem dX7_copies_22 : decode (am_b mX7_copies) 22 = .ok (.iastore, 1) := by decide +kernel
theorem dX7_copies_23 : decode (am_b mX7_copies) 23 = .ok (.iinc 1 1, 3) := by decide +kernel
theorem dX7_copies_26 : decode (am_b mX7_copies) 26 = .ok (.goto (-24), 3) := by decide +kernel
theorem dX7_copies_29 : decode (am_b mX7_copies) 29 = .ok (.return_, 1) := by decide +kernel
theorem dX7_crowdOf_0 : decode (am_b mX7_crowdOf) 0 = .ok (.aload_n 0, 1) := by decide +kernel
theorem dX7_crowdOf_1 : decode (am_b mX7_crowdOf) 1 = .ok (.getfield 26, 3) := by decide +kernel
theorem dX7_crowdOf_4 : decode (am_b mX7_crowdOf) 4 = .ok (.iconst 2, 1) := by decide +kernel
theorem dX7_crowdOf_5 : decode (am_b mX7_crowdOf) 5 = .ok (.iload_n 1, 1) := by decide +kernel
theorem dX7_crowdOf_6 : decode (am_b mX7_crowdOf) 6 = .ok (.imul, 1) := by decide +kernel
theorem dX7_crowdOf_7 : decode (am_b mX7_crowdOf) 7 = .ok (.iaload, 1) := by decide +kernel
theorem dX7_crowdOf_8 : decode (am_b mX7_crowdOf) 8 = .ok (.aload_n 0, 1) := by decide +kernel
theorem dX7_crowdOf_9 : decode (am_b mX7_crowdOf) 9 = .ok (.getfield 26, 3) := by decide +kernel
theorem dX7_crowdOf_12 : decode (am_b mX7_crowdOf) 12 = .ok (.iconst 2, 1) := by decide +kernel
theorem dX7_crowdOf_13 : decode (am_b mX7_crowdOf) 13 = .ok (.iload_n 1, 1) := by decide +kernel
theorem dX7_crowdOf_14 : decode (am_b mX7_crowdOf) 14 = .ok (.imul, 1) := by decide +kernel
theorem dX7_crowdOf_15 : decode (am_b mX7_crowdOf) 15 = .ok (.iconst 1, 1) := by decide +kernel
theorem dX7_crowdOf_16 : decode (am_b mX7_crowdOf) 16 = .ok (.iadd, 1) := by decide +kernel
theorem dX7_crowdOf_17 : decode (am_b mX7_crowdOf) 17 = .ok (.iaload, 1) := by decide +kernel
theorem dX7_crowdOf_18 : decode (am_b mX7_crowdOf) 18 = .ok (.iadd, 1) := by decide +kernel
theorem dX7_crowdOf_19 : decode (am_b mX7_crowdOf) 19 = .ok (.ireturn, 1) := by decide +kernel
theorem dX7_draws_0 : decode (am_b mX7_draws) 0 = .ok (.aload_n 0, 1) := by decide +kernel
theorem dX7_draws_1 : decode (am_b mX7_draws) 1 = .ok (.getfield 7, 3) := by decide +kernel
theorem dX7_draws_4 : decode (am_b mX7_draws) 4 = .ok (.iload_n 1, 1) := by decide +kernel
theorem dX7_draws_5 : decode (am_b mX7_draws) 5 = .ok (.bipush 6, 2) := by decide +kernel
theorem dX7_draws_7 : decode (am_b mX7_draws) 7 = .ok (.iadd, 1) := by decide +kernel
theorem dX7_draws_8 : decode (am_b mX7_draws) 8 = .ok (.aload_n 0, 1) := by decide +kernel
theorem dX7_draws_9 : decode (am_b mX7_draws) 9 = .ok (.getfield 7, 3) := by decide +kernel
theorem dX7_draws_12 : decode (am_b mX7_draws) 12 = .ok (.iload_n 1, 1) := by decide +kernel
theorem dX7_draws_13 : decode (am_b mX7_draws) 13 = .ok (.bipush 6, 2) := by decide +kernel
theorem dX7_draws_15 : decode (am_b mX7_draws) 15 = .ok (.iadd, 1) := by decide +kernel
theorem dX7_draws_16 : decode (am_b mX7_draws) 16 = .ok (.iaload, 1) := by decide +kernel
theorem dX7_draws_17 : decode (am_b mX7_draws) 17 = .ok (.i2l, 1) := by decide +kernel
theorem dX7_draws_18 : decode (am_b mX7_draws) 18 = .ok (.ldc2_w 57, 3) := by decide +kernel
theorem dX7_draws_21 : decode (am_b mX7_draws) 21 = .ok (.lmul, 1) := by decide +kernel
theorem dX7_draws_22 : decode (am_b mX7_draws) 22 = .ok (.ldc2_w 59, 3) := by decide +kernel
theorem dX7_draws_25 : decode (am_b mX7_draws) 25 = .ok (.ladd, 1) := by decide +kernel
theorem dX7_draws_26 : decode (am_b mX7_draws) 26 = .ok (.ldc2_w 61, 3) := by decide +kernel
theorem dX7_draws_29 : decode (am_b mX7_draws) 29 = .ok (.lrem, 1) := by decide +kernel
theorem dX7_draws_30 : decode (am_b mX7_draws) 30 = .ok (.l2i, 1) := by decide +kernel
theorem dX7_draws_31 : decode (am_b mX7_draws) 31 = .ok (.iastore, 1) := by decide +kernel
theorem dX7_draws_32 : decode (am_b mX7_draws) 32 = .ok (.aload_n 0, 1) := by decide +kernel
theorem dX7_draws_33 : decode (am_b mX7_draws) 33 = .ok (.getfield 7, 3) := by decide +kernel
theorem dX7_draws_36 : decode (am_b mX7_draws) 36 = .ok (.iload_n 1, 1) := by decide +kernel
theorem dX7_draws_37 : decode (am_b mX7_draws) 37 = .ok (.bipush 6, 2) := by decide +kernel
theorem dX7_draws_39 : decode (am_b mX7_draws) 39 = .ok (.iadd, 1) := by decide +kernel
theorem dX7_draws_40 : decode (am_b mX7_draws) 40 = .ok (.iaload, 1) := by decide +kernel
theorem dX7_draws_41 : decode (am_b mX7_draws) 41 = .ok (.ldc 63, 2) := by decide +kernel
theorem dX7_draws_43 : decode (am_b mX7_draws) 43 = .ok (.idiv, 1) := by decide +kernel
theorem dX7_draws_44 : decode (am_b mX7_draws) 44 = .ok (.iload_n 2, 1) := by decide +kernel
theorem dX7_draws_45 : decode (am_b mX7_draws) 45 = .ok (.irem, 1) := by decide +kernel
theorem dX7_draws_46 : decode (am_b mX7_draws) 46 = .ok (.ireturn, 1) := by decide +kernel
theorem dX7_forgets_0 : decode (am_b mX7_forgets) 0 = .ok (.iconst 0, 1) := by decide +kernel
theorem dX7_forgets_1 : decode (am_b mX7_forgets) 1 = .ok (.istore_n 1, 1) := by decide +kernel
theorem dX7_forgets_2 : decode (am_b mX7_forgets) 2 = .ok (.iload_n 1, 1) := by decide +kernel
theorem dX7_forgets_3 : decode (am_b mX7_forgets) 3 = .ok (.bipush 8, 2) := by decide +kernel
theorem dX7_forgets_5 : decode (am_b mX7_forgets) 5 = .ok (.if_icmp .ge 19, 3) := by decide +kernel
theorem dX7_forgets_8 : decode (am_b mX7_forgets) 8 = .ok (.aload_n 0, 1) := by decide +kernel
theorem dX7_forgets_9 : decode (am_b mX7_forgets) 9 = .ok (.getfield 7, 3) := by decide +kernel
theorem dX7_forgets_12 : decode (am_b mX7_forgets) 12 = .ok (.bipush 12, 2) := by decide +kernel
theorem dX7_forgets_14 : decode (am_b mX7_forgets) 14 = .ok (.iload_n 1, 1) := by decide +kernel
theorem dX7_forgets_15 : decode (am_b mX7_forgets) 15 = .ok (.iadd, 1) := by decide +kernel
theorem dX7_forgets_16 : decode (am_b mX7_forgets) 16 = .ok (.iconst (-1), 1) := by decide +kernel
theorem dX7_forgets_17 : decode (am_b mX7_forgets) 17 = .ok (.iastore, 1) := by decide +kernel
theorem dX7_forgets_18 : decode (am_b mX7_forgets) 18 = .ok (.iinc 1 1, 3) := by decide +kernel
theorem dX7_forgets_21 : decode (am_b mX7_forgets) 21 = .ok (.goto (-19), 3) := by decide +kernel
theorem dX7_forgets_24 : decode (am_b mX7_forgets) 24 = .ok (.return_, 1) := by decide +kernel
theorem dX7_in_0 : decode (am_b mX7_in) 0 = .ok (.iload_n 0, 1) := by decide +kernel
theorem dX7_in_1 : decode (am_b mX7_in) 1 = .ok (.iload_n 1, 1) := by decide +kernel
theorem dX7_in_2 : decode (am_b mX7_in) 2 = .ok (.if_icmp .lt 12, 3) := by decide +kernel
theorem dX7_in_5 : decode (am_b mX7_in) 5 = .ok (.iload_n 0, 1) := by decide +kernel
theorem dX7_in_6 : decode (am_b mX7_in) 6 = .ok (.iload_n 2, 1) := by decide +kernel
theorem dX7_in_7 : decode (am_b mX7_in) 7 = .ok (.if_icmp .gt 7, 3) := by decide +kernel
theorem dX7_in_10 : decode (am_b mX7_in) 10 = .ok (.iconst 1, 1) := by decide +kernel
theorem dX7_in_11 : decode (am_b mX7_in) 11 = .ok (.goto 4, 3) := by decide +kernel
theorem dX7_in_14 : decode (am_b mX7_in) 14 = .ok (.iconst 0, 1) := by decide +kernel
theorem dX7_in_15 : decode (am_b mX7_in) 15 = .ok (.ireturn, 1) := by decide +kernel
theorem dX7_mostOf_0 : decode (am_b mX7_mostOf) 0 = .ok (.iload_n 0, 1) := by decide +kernel
theorem dX7_mostOf_1 : decode (am_b mX7_mostOf) 1 = .ok (.iconst 2, 1) := by decide +kernel
theorem dX7_mostOf_2 : decode (am_b mX7_mostOf) 2 = .ok (.if_icmp .ge 9, 3) := by decide +kernel
theorem dX7_mostOf_5 : decode (am_b mX7_mostOf) 5 = .ok (.sipush 999, 3) := by decide +kernel
theorem dX7_mostOf_8 : decode (am_b mX7_mostOf) 8 = .ok (.goto 14, 3) := by decide +kernel
theorem dX7_mostOf_11 : decode (am_b mX7_mostOf) 11 = .ok (.iload_n 0, 1) := by decide +kernel
theorem dX7_mostOf_12 : decode (am_b mX7_mostOf) 12 = .ok (.iconst 4, 1) := by decide +kernel
theorem dX7_mostOf_13 : decode (am_b mX7_mostOf) 13 = .ok (.if_icmp .ne 7, 3) := by decide +kernel
theorem dX7_mostOf_16 : decode (am_b mX7_mostOf) 16 = .ok (.iconst 5, 1) := by decide +kernel
theorem dX7_mostOf_17 : decode (am_b mX7_mostOf) 17 = .ok (.goto 5, 3) := by decide +kernel
theorem dX7_mostOf_20 : decode (am_b mX7_mostOf) 20 = .ok (.bipush 100, 2) := by decide +kernel
theorem dX7_mostOf_22 : decode (am_b mX7_mostOf) 22 = .ok (.ireturn, 1) := by decide +kernel
theorem dX7_remembers_0 : decode (am_b mX7_remembers) 0 = .ok (.aload_n 0, 1) := by decide +kernel
theorem dX7_remembers_1 : decode (am_b mX7_remembers) 1 = .ok (.getfield 40, 3) := by decide +kernel
theorem dX7_remembers_4 : decode (am_b mX7_remembers) 4 = .ok (.bipush 6, 2) := by decide +kernel
theorem dX7_remembers_6 : decode (am_b mX7_remembers) 6 = .ok (.if_icmp .ne 43, 3) := by decide +kernel
theorem dX7_remembers_9 : decode (am_b mX7_remembers) 9 = .ok (.iconst 0, 1) := by decide +kernel
theorem dX7_remembers_10 : decode (am_b mX7_remembers) 10 = .ok (.istore_n 1, 1) := by decide +kernel
theorem dX7_remembers_11 : decode (am_b mX7_remembers) 11 = .ok (.iload_n 1, 1) := by decide +kernel
theorem dX7_remembers_12 : decode (am_b mX7_remembers) 12 = .ok (.sipush 300, 3) := by decide +kernel
theorem dX7_remembers_15 : decode (am_b mX7_remembers) 15 = .ok (.if_icmp .ge 24, 3) := by decide +kernel
theorem dX7_remembers_18 : decode (am_b mX7_remembers) 18 = .ok (.aload_n 0, 1) := by decide +kernel
theorem dX7_remembers_19 : decode (am_b mX7_remembers) 19 = .ok (.getfield 13, 3) := by decide +kernel
theorem dX7_remembers_22 : decode (am_b mX7_remembers) 22 = .ok (.iload_n 1, 1) := by decide +kernel
theorem dX7_remembers_23 : decode (am_b mX7_remembers) 23 = .ok (.aload_n 0, 1) := by decide +kernel
theorem dX7_remembers_24 : decode (am_b mX7_remembers) 24 = .ok (.getfield 13, 3) := by decide +kernel
theorem dX7_remembers_27 : decode (am_b mX7_remembers) 27 = .ok (.bipush 60, 2) := by decide +kernel
theorem dX7_remembers_29 : decode (am_b mX7_remembers) 29 = .ok (.iload_n 1, 1) := by decide +kernel
theorem dX7_remembers_30 : decode (am_b mX7_remembers) 30 = .ok (.iadd, 1) := by decide +kernel
theorem dX7_remembers_31 : decode (am_b mX7_remembers) 31 = .ok (.iaload, 1) := by decide +kernel
theorem dX7_remembers_32 : decode (am_b mX7_remembers) 32 = .ok (.iastore, 1) := by decide +kernel
theorem dX7_remembers_33 : decode (am_b mX7_remembers) 33 = .ok (.iinc 1 1, 3) := by decide +kernel
theorem dX7_remembers_36 : decode (am_b mX7_remembers) 36 = .ok (.goto (-25), 3) := by decide +kernel
theorem dX7_remembers_39 : decode (am_b mX7_remembers) 39 = .ok (.aload_n 0, 1) := by decide +kernel
theorem dX7_remembers_40 : decode (am_b mX7_remembers) 40 = .ok (.dup, 1) := by decide +kernel
theorem dX7_remembers_41 : decode (am_b mX7_remembers) 41 = .ok (.getfield 40, 3) := by decide +kernel
theorem dX7_remembers_44 : decode (am_b mX7_remembers) 44 = .ok (.iconst 1, 1) := by decide +kernel
theorem dX7_remembers_45 : decode (am_b mX7_remembers) 45 = .ok (.isub, 1) := by decide +kernel
theorem dX7_remembers_46 : decode (am_b mX7_remembers) 46 = .ok (.putfield 40, 3) := by decide +kernel
theorem dX7_remembers_49 : decode (am_b mX7_remembers) 49 = .ok (.iconst 0, 1) := by decide +kernel
theorem dX7_remembers_50 : decode (am_b mX7_remembers) 50 = .ok (.istore_n 1, 1) := by decide +kernel
theorem dX7_remembers_51 : decode (am_b mX7_remembers) 51 = .ok (.iload_n 1, 1) := by decide +kernel
theorem dX7_remembers_52 : decode (am_b mX7_remembers) 52 = .ok (.bipush 60, 2) := by decide +kernel
theorem dX7_remembers_54 : decode (am_b mX7_remembers) 54 = .ok (.if_icmp .ge 29, 3) := by decide +kernel
theorem dX7_remembers_57 : decode (am_b mX7_remembers) 57 = .ok (.aload_n 0, 1) := by decide +kernel
theorem dX7_remembers_58 : decode (am_b mX7_remembers) 58 = .ok (.getfield 13, 3) := by decide +kernel
theorem dX7_remembers_61 : decode (am_b mX7_remembers) 61 = .ok (.bipush 60, 2) := by decide +kernel
theorem dX7_remembers_63 : decode (am_b mX7_remembers) 63 = .ok (.aload_n 0, 1) := by decide +kernel
theorem dX7_remembers_64 : decode (am_b mX7_remembers) 64 = .ok (.getfield 40, 3) := by decide +kernel
theorem dX7_remembers_67 : decode (am_b mX7_remembers) 67 = .ok (.imul, 1) := by decide +kernel
theorem dX7_remembers_68 : decode (am_b mX7_remembers) 68 = .ok (.iload_n 1, 1) := by decide +kernel
theorem dX7_remembers_69 : decode (am_b mX7_remembers) 69 = .ok (.iadd, 1) := by decide +kernel
theorem dX7_remembers_70 : decode (am_b mX7_remembers) 70 = .ok (.aload_n 0, 1) := by decide +kernel
theorem dX7_remembers_71 : decode (am_b mX7_remembers) 71 = .ok (.getfield 7, 3) := by decide +kernel
theorem dX7_remembers_74 : decode (am_b mX7_remembers) 74 = .ok (.iload_n 1, 1) := by decide +kernel
theorem dX7_remembers_75 : decode (am_b mX7_remembers) 75 = .ok (.iaload, 1) := by decide +kernel
theorem dX7_remembers_76 : decode (am_b mX7_remembers) 76 = .ok (.iastore, 1) := by decide +kernel
theorem dX7_remembers_77 : decode (am_b mX7_remembers) 77 = .ok (.iinc 1 1, 3) := by decide +kernel
theorem dX7_remembers_80 : decode (am_b mX7_remembers) 80 = .ok (.goto (-29), 3) := by decide +kernel
theorem dX7_remembers_83 : decode (am_b mX7_remembers) 83 = .ok (.aload_n 0, 1) := by decide +kernel
theorem dX7_remembers_84 : decode (am_b mX7_remembers) 84 = .ok (.dup, 1) := by decide +kernel
theorem dX7_remembers_85 : decode (am_b mX7_remembers) 85 = .ok (.getfield 40, 3) := by decide +kernel
theorem dX7_remembers_88 : decode (am_b mX7_remembers) 88 = .ok (.iconst 1, 1) := by decide +kernel
theorem dX7_remembers_89 : decode (am_b mX7_remembers) 89 = .ok (.iadd, 1) := by decide +kernel
theorem dX7_remembers_90 : decode (am_b mX7_remembers) 90 = .ok (.putfield 40, 3) := by decide +kernel
theorem dX7_remembers_93 : decode (am_b mX7_remembers) 93 = .ok (.return_, 1) := by decide +kernel
theorem dX7_roofs_0 : decode (am_b mX7_roofs) 0 = .ok (.iconst 0, 1) := by decide +kernel
theorem dX7_roofs_1 : decode (am_b mX7_roofs) 1 = .ok (.istore_n 1, 1) := by decide +kernel
theorem dX7_roofs_2 : decode (am_b mX7_roofs) 2 = .ok (.iconst 0, 1) := by decide +kernel
theorem dX7_roofs_3 : decode (am_b mX7_roofs) 3 = .ok (.istore_n 2, 1) := by decide +kernel
theorem dX7_roofs_4 : decode (am_b mX7_roofs) 4 = .ok (.iload_n 2, 1) := by decide +kernel
theorem dX7_roofs_5 : decode (am_b mX7_roofs) 5 = .ok (.bipush 12, 2) := by decide +kernel
theorem dX7_roofs_7 : decode (am_b mX7_roofs) 7 = .ok (.if_icmp .ge 23, 3) := by decide +kernel
theorem dX7_roofs_10 : decode (am_b mX7_roofs) 10 = .ok (.iload_n 1, 1) := by decide +kernel
theorem dX7_roofs_11 : decode (am_b mX7_roofs) 11 = .ok (.aload_n 0, 1) := by decide +kernel
theorem dX7_roofs_12 : decode (am_b mX7_roofs) 12 = .ok (.getfield 7, 3) := by decide +kernel
theorem dX7_roofs_15 : decode (am_b mX7_roofs) 15 = .ok (.bipush 8, 2) := by decide +kernel
theorem dX7_roofs_17 : decode (am_b mX7_roofs) 17 = .ok (.iaload, 1) := by decide +kernel
theorem dX7_roofs_18 : decode (am_b mX7_roofs) 18 = .ok (.iload_n 2, 1) := by decide +kernel
theorem dX7_roofs_19 : decode (am_b mX7_roofs) 19 = .ok (.ishr, 1) := by decide +kernel
theorem dX7_roofs_20 : decode (am_b mX7_roofs) 20 = .ok (.iconst 1, 1) := by decide +kernel
theorem dX7_roofs_21 : decode (am_b mX7_roofs) 21 = .ok (.iand, 1) := by decide +kernel
theorem dX7_roofs_22 : decode (am_b mX7_roofs) 22 = .ok (.iadd, 1) := by decide +kernel
theorem dX7_roofs_23 : decode (am_b mX7_roofs) 23 = .ok (.istore_n 1, 1) := by decide +kernel
theorem dX7_roofs_24 : decode (am_b mX7_roofs) 24 = .ok (.iinc 2 1, 3) := by decide +kernel
theorem dX7_roofs_27 : decode (am_b mX7_roofs) 27 = .ok (.goto (-23), 3) := by decide +kernel
theorem dX7_roofs_30 : decode (am_b mX7_roofs) 30 = .ok (.iload_n 1, 1) := by decide +kernel
theorem dX7_roofs_31 : decode (am_b mX7_roofs) 31 = .ok (.ireturn, 1) := by decide +kernel
theorem dX7_sign_0 : decode (am_b mX7_sign) 0 = .ok (.iload_n 1, 1) := by decide +kernel
theorem dX7_sign_1 : decode (am_b mX7_sign) 1 = .ok (.aload_n 0, 1) := by decide +kernel
theorem dX7_sign_2 : decode (am_b mX7_sign) 2 = .ok (.getfield 130, 3) := by decide +kernel
theorem dX7_sign_5 : decode (am_b mX7_sign) 5 = .ok (.if_icmp .ge 12, 3) := by decide +kernel
theorem dX7_sign_8 : decode (am_b mX7_sign) 8 = .ok (.aload_n 0, 1) := by decide +kernel
theorem dX7_sign_9 : decode (am_b mX7_sign) 9 = .ok (.getfield 23, 3) := by decide +kernel
theorem dX7_sign_12 : decode (am_b mX7_sign) 12 = .ok (.iload_n 1, 1) := by decide +kernel
theorem dX7_sign_13 : decode (am_b mX7_sign) 13 = .ok (.iaload, 1) := by decide +kernel
theorem dX7_sign_14 : decode (am_b mX7_sign) 14 = .ok (.goto 4, 3) := by decide +kernel
theorem dX7_sign_17 : decode (am_b mX7_sign) 17 = .ok (.iconst (-1), 1) := by decide +kernel
theorem dX7_sign_18 : decode (am_b mX7_sign) 18 = .ok (.ireturn, 1) := by decide +kernel
theorem dX7_undo_0 : decode (am_b mX7_undo) 0 = .ok (.aload_n 0, 1) := by decide +kernel
theorem dX7_undo_1 : decode (am_b mX7_undo) 1 = .ok (.getfield 40, 3) := by decide +kernel
theorem dX7_undo_4 : decode (am_b mX7_undo) 4 = .ok (.ifCond .ne 6, 3) := by decide +kernel
theorem dX7_undo_7 : decode (am_b mX7_undo) 7 = .ok (.bipush (-5), 2) := by decide +kernel
theorem dX7_undo_9 : decode (am_b mX7_undo) 9 = .ok (.ireturn, 1) := by decide +kernel
theorem dX7_undo_10 : decode (am_b mX7_undo) 10 = .ok (.aload_n 0, 1) := by decide +kernel
theorem dX7_undo_11 : decode (am_b mX7_undo) 11 = .ok (.dup, 1) := by decide +kernel
theorem dX7_undo_12 : decode (am_b mX7_undo) 12 = .ok (.getfield 40, 3) := by decide +kernel
theorem dX7_undo_15 : decode (am_b mX7_undo) 15 = .ok (.iconst 1, 1) := by decide +kernel
theorem dX7_undo_16 : decode (am_b mX7_undo) 16 = .ok (.isub, 1) := by decide +kernel
theorem dX7_undo_17 : decode (am_b mX7_undo) 17 = .ok (.putfield 40, 3) := by decide +kernel
theorem dX7_undo_20 : decode (am_b mX7_undo) 20 = .ok (.iconst 0, 1) := by decide +kernel
theorem dX7_undo_21 : decode (am_b mX7_undo) 21 = .ok (.istore_n 1, 1) := by decide +kernel
theorem dX7_undo_22 : decode (am_b mX7_undo) 22 = .ok (.iload_n 1, 1) := by decide +kernel
theorem dX7_undo_23 : decode (am_b mX7_undo) 23 = .ok (.bipush 60, 2) := by decide +kernel
theorem dX7_undo_25 : decode (am_b mX7_undo) 25 = .ok (.if_icmp .ge 29, 3) := by decide +kernel
theorem dX7_undo_28 : decode (am_b mX7_undo) 28 = .ok (.aload_n 0, 1) := by decide +kernel
theorem dX7_undo_29 : decode (am_b mX7_undo) 29 = .ok (.getfield 7, 3) := by decide +kernel
theorem dX7_undo_32 : decode (am_b mX7_undo) 32 = .ok (.iload_n 1, 1) := by decide +kernel
theorem dX7_undo_33 : decode (am_b mX7_undo) 33 = .ok (.aload_n 0, 1) := by decide +kernel
theorem dX7_undo_34 : decode (am_b mX7_undo) 34 = .ok (.getfield 13, 3) := by decide +kernel
theorem dX7_undo_37 : decode (am_b mX7_undo) 37 = .ok (.bipush 60, 2) := by decide +kernel
theorem dX7_undo_39 : decode (am_b mX7_undo) 39 = .ok (.aload_n 0, 1) := by decide +kernel
theorem dX7_undo_40 : decode (am_b mX7_undo) 40 = .ok (.getfield 40, 3) := by decide +kernel
theorem dX7_undo_43 : decode (am_b mX7_undo) 43 = .ok (.imul, 1) := by decide +kernel
theorem dX7_undo_44 : decode (am_b mX7_undo) 44 = .ok (.iload_n 1, 1) := by decide +kernel
theorem dX7_undo_45 : decode (am_b mX7_undo) 45 = .ok (.iadd, 1) := by decide +kernel
theorem dX7_undo_46 : decode (am_b mX7_undo) 46 = .ok (.iaload, 1) := by decide +kernel
theorem dX7_undo_47 : decode (am_b mX7_undo) 47 = .ok (.iastore, 1) := by decide +kernel
theorem dX7_undo_48 : decode (am_b mX7_undo) 48 = .ok (.iinc 1 1, 3) := by decide +kernel
theorem dX7_undo_51 : decode (am_b mX7_undo) 51 = .ok (.goto (-29), 3) := by decide +kernel
theorem dX7_undo_54 : decode (am_b mX7_undo) 54 = .ok (.aload_n 0, 1) := by decide +kernel
theorem dX7_undo_55 : decode (am_b mX7_undo) 55 = .ok (.getfield 40, 3) := by decide +kernel
theorem dX7_undo_58 : decode (am_b mX7_undo) 58 = .ok (.ireturn, 1) := by decide +kernel
theorem dX7_wipe_0 : decode (am_b mX7_wipe) 0 = .ok (.aload_n 0, 1) := by decide +kernel
theorem dX7_wipe_1 : decode (am_b mX7_wipe) 1 = .ok (.getfield 130, 3) := by decide +kernel
theorem dX7_wipe_4 : decode (am_b mX7_wipe) 4 = .ok (.istore_n 1, 1) := by decide +kernel
theorem dX7_wipe_5 : decode (am_b mX7_wipe) 5 = .ok (.aload_n 0, 1) := by decide +kernel
theorem dX7_wipe_6 : decode (am_b mX7_wipe) 6 = .ok (.iconst 0, 1) := by decide +kernel
theorem dX7_wipe_7 : decode (am_b mX7_wipe) 7 = .ok (.putfield 130, 3) := by decide +kernel
theorem dX7_wipe_10 : decode (am_b mX7_wipe) 10 = .ok (.iload_n 1, 1) := by decide +kernel
theorem dX7_wipe_11 : decode (am_b mX7_wipe) 11 = .ok (.ireturn, 1) := by decide +kernel
theorem dX7_boothAt_0 : decode (am_b mX7_boothAt) 0 = .ok (.iconst 0, 1) := by decide +kernel
theorem dX7_boothAt_1 : decode (am_b mX7_boothAt) 1 = .ok (.istore_n 3, 1) := by decide +kernel
theorem dX7_boothAt_2 : decode (am_b mX7_boothAt) 2 = .ok (.iload_n 3, 1) := by decide +kernel
theorem dX7_boothAt_3 : decode (am_b mX7_boothAt) 3 = .ok (.aload_n 0, 1) := by decide +kernel
theorem dX7_boothAt_4 : decode (am_b mX7_boothAt) 4 = .ok (.getfield 7, 3) := by decide +kernel
theorem dX7_boothAt_7 : decode (am_b mX7_boothAt) 7 = .ok (.iload_n 1, 1) := by decide +kernel
theorem dX7_boothAt_8 : decode (am_b mX7_boothAt) 8 = .ok (.bipush 7, 2) := by decide +kernel
theorem dX7_boothAt_10 : decode (am_b mX7_boothAt) 10 = .ok (.iadd, 1) := by decide +kernel
theorem dX7_boothAt_11 : decode (am_b mX7_boothAt) 11 = .ok (.iaload, 1) := by decide +kernel
theorem dX7_boothAt_12 : decode (am_b mX7_boothAt) 12 = .ok (.if_icmp .ge 27, 3) := by decide +kernel
theorem dX7_boothAt_15 : decode (am_b mX7_boothAt) 15 = .ok (.aload_n 0, 1) := by decide +kernel
theorem dX7_boothAt_16 : decode (am_b mX7_boothAt) 16 = .ok (.getfield 7, 3) := by decide +kernel
theorem dX7_boothAt_19 : decode (am_b mX7_boothAt) 19 = .ok (.iload_n 1, 1) := by decide +kernel
theorem dX7_boothAt_20 : decode (am_b mX7_boothAt) 20 = .ok (.iload_n 3, 1) := by decide +kernel
theorem dX7_boothAt_21 : decode (am_b mX7_boothAt) 21 = .ok (.invokestatic 36, 3) := by decide +kernel
theorem dX7_boothAt_24 : decode (am_b mX7_boothAt) 24 = .ok (.iconst 1, 1) := by decide +kernel
theorem dX7_boothAt_25 : decode (am_b mX7_boothAt) 25 = .ok (.iadd, 1) := by decide +kernel
theorem dX7_boothAt_26 : decode (am_b mX7_boothAt) 26 = .ok (.iaload, 1) := by decide +kernel
theorem dX7_boothAt_27 : decode (am_b mX7_boothAt) 27 = .ok (.iload_n 2, 1) := by decide +kernel
theorem dX7_boothAt_28 : decode (am_b mX7_boothAt) 28 = .ok (.if_icmp .ne 5, 3) := by decide +kernel
theorem dX7_boothAt_31 : decode (am_b mX7_boothAt) 31 = .ok (.iload_n 3, 1) := by decide +kernel
theorem dX7_boothAt_32 : decode (am_b mX7_boothAt) 32 = .ok (.ireturn, 1) := by decide +kernel
theorem dX7_boothAt_33 : decode (am_b mX7_boothAt) 33 = .ok (.iinc 3 1, 3) := by decide +kernel
theorem dX7_boothAt_36 : decode (am_b mX7_boothAt) 36 = .ok (.goto (-34), 3) := by decide +kernel
theorem dX7_boothAt_39 : decode (am_b mX7_boothAt) 39 = .ok (.bipush (-6), 2) := by decide +kernel
theorem dX7_boothAt_41 : decode (am_b mX7_boothAt) 41 = .ok (.ireturn, 1) := by decide +kernel
theorem dX7_comes_0 : decode (am_b mX7_comes) 0 = .ok (.iconst 0, 1) := by decide +kernel
theorem dX7_comes_1 : decode (am_b mX7_comes) 1 = .ok (.aload_n 0, 1) := by decide +kernel
theorem dX7_comes_2 : decode (am_b mX7_comes) 2 = .ok (.getfield 7, 3) := by decide +kernel
theorem dX7_comes_5 : decode (am_b mX7_comes) 5 = .ok (.bipush 7, 2) := by decide +kernel
theorem dX7_comes_7 : decode (am_b mX7_comes) 7 = .ok (.iaload, 1) := by decide +kernel
theorem dX7_comes_8 : decode (am_b mX7_comes) 8 = .ok (.invokestatic 36, 3) := by decide +kernel
theorem dX7_comes_11 : decode (am_b mX7_comes) 11 = .ok (.istore_n 3, 1) := by decide +kernel
theorem dX7_comes_12 : decode (am_b mX7_comes) 12 = .ok (.aload_n 0, 1) := by decide +kernel
theorem dX7_comes_13 : decode (am_b mX7_comes) 13 = .ok (.getfield 7, 3) := by decide +kernel
theorem dX7_comes_16 : decode (am_b mX7_comes) 16 = .ok (.iload_n 3, 1) := by decide +kernel
theorem dX7_comes_17 : decode (am_b mX7_comes) 17 = .ok (.iconst 0, 1) := by decide +kernel
theorem dX7_comes_18 : decode (am_b mX7_comes) 18 = .ok (.iadd, 1) := by decide +kernel
theorem dX7_comes_19 : decode (am_b mX7_comes) 19 = .ok (.iload_n 1, 1) := by decide +kernel
theorem dX7_comes_20 : decode (am_b mX7_comes) 20 = .ok (.iastore, 1) := by decide +kernel
theorem dX7_comes_21 : decode (am_b mX7_comes) 21 = .ok (.aload_n 0, 1) := by decide +kernel
theorem dX7_comes_22 : decode (am_b mX7_comes) 22 = .ok (.getfield 7, 3) := by decide +kernel
theorem dX7_comes_25 : decode (am_b mX7_comes) 25 = .ok (.iload_n 3, 1) := by decide +kernel
theorem dX7_comes_26 : decode (am_b mX7_comes) 26 = .ok (.iconst 1, 1) := by decide +kernel
theorem dX7_comes_27 : decode (am_b mX7_comes) 27 = .ok (.iadd, 1) := by decide +kernel
theorem dX7_comes_28 : decode (am_b mX7_comes) 28 = .ok (.iload_n 2, 1) := by decide +kernel
theorem dX7_comes_29 : decode (am_b mX7_comes) 29 = .ok (.iastore, 1) := by decide +kernel
theorem dX7_comes_30 : decode (am_b mX7_comes) 30 = .ok (.aload_n 0, 1) := by decide +kernel
theorem dX7_comes_31 : decode (am_b mX7_comes) 31 = .ok (.getfield 7, 3) := by decide +kernel
theorem dX7_comes_34 : decode (am_b mX7_comes) 34 = .ok (.iload_n 3, 1) := by decide +kernel
theorem dX7_comes_35 : decode (am_b mX7_comes) 35 = .ok (.iconst 2, 1) := by decide +kernel
theorem dX7_comes_36 : decode (am_b mX7_comes) 36 = .ok (.iadd, 1) := by decide +kernel
theorem dX7_comes_37 : decode (am_b mX7_comes) 37 = .ok (.iconst 0, 1) := by decide +kernel
theorem dX7_comes_38 : decode (am_b mX7_comes) 38 = .ok (.iastore, 1) := by decide +kernel
theorem dX7_comes_39 : decode (am_b mX7_comes) 39 = .ok (.aload_n 0, 1) := by decide +kernel
theorem dX7_comes_40 : decode (am_b mX7_comes) 40 = .ok (.getfield 7, 3) := by decide +kernel
theorem dX7_comes_43 : decode (am_b mX7_comes) 43 = .ok (.iload_n 3, 1) := by decide +kernel
theorem dX7_comes_44 : decode (am_b mX7_comes) 44 = .ok (.iconst 3, 1) := by decide +kernel
theorem dX7_comes_45 : decode (am_b mX7_comes) 45 = .ok (.iadd, 1) := by decide +kernel
theorem dX7_comes_46 : decode (am_b mX7_comes) 46 = .ok (.iconst 0, 1) := by decide +kernel
theorem dX7_comes_47 : decode (am_b mX7_comes) 47 = .ok (.iastore, 1) := by decide +kernel
theorem dX7_comes_48 : decode (am_b mX7_comes) 48 = .ok (.aload_n 0, 1) := by decide +kernel
theorem dX7_comes_49 : decode (am_b mX7_comes) 49 = .ok (.getfield 7, 3) := by decide +kernel
theorem dX7_comes_52 : decode (am_b mX7_comes) 52 = .ok (.iload_n 3, 1) := by decide +kernel
theorem dX7_comes_53 : decode (am_b mX7_comes) 53 = .ok (.iconst 4, 1) := by decide +kernel
theorem dX7_comes_54 : decode (am_b mX7_comes) 54 = .ok (.iadd, 1) := by decide +kernel
theorem dX7_comes_55 : decode (am_b mX7_comes) 55 = .ok (.iconst 0, 1) := by decide +kernel
theorem dX7_comes_56 : decode (am_b mX7_comes) 56 = .ok (.iastore, 1) := by decide +kernel
theorem dX7_comes_57 : decode (am_b mX7_comes) 57 = .ok (.aload_n 0, 1) := by decide +kernel
theorem dX7_comes_58 : decode (am_b mX7_comes) 58 = .ok (.getfield 7, 3) := by decide +kernel
theorem dX7_comes_61 : decode (am_b mX7_comes) 61 = .ok (.bipush 7, 2) := by decide +kernel
theorem dX7_comes_63 : decode (am_b mX7_comes) 63 = .ok (.dup2, 1) := by decide +kernel
theorem dX7_comes_64 : decode (am_b mX7_comes) 64 = .ok (.iaload, 1) := by decide +kernel
theorem dX7_comes_65 : decode (am_b mX7_comes) 65 = .ok (.iconst 1, 1) := by decide +kernel
theorem dX7_comes_66 : decode (am_b mX7_comes) 66 = .ok (.iadd, 1) := by decide +kernel
theorem dX7_comes_67 : decode (am_b mX7_comes) 67 = .ok (.iastore, 1) := by decide +kernel
theorem dX7_comes_68 : decode (am_b mX7_comes) 68 = .ok (.return_, 1) := by decide +kernel
theorem dX7_digit_0 : decode (am_b mX7_digit) 0 = .ok (.aload_n 0, 1) := by decide +kernel
theorem dX7_digit_1 : decode (am_b mX7_digit) 1 = .ok (.iload_n 1, 1) := by decide +kernel
theorem dX7_digit_2 : decode (am_b mX7_digit) 2 = .ok (.invokevirtual 138, 3) := by decide +kernel
theorem dX7_digit_5 : decode (am_b mX7_digit) 5 = .ok (.bipush 48, 2) := by decide +kernel
theorem dX7_digit_7 : decode (am_b mX7_digit) 7 = .ok (.bipush 57, 2) := by decide +kernel
theorem dX7_digit_9 : decode (am_b mX7_digit) 9 = .ok (.invokestatic 32, 3) := by decide +kernel
theorem dX7_digit_12 : decode (am_b mX7_digit) 12 = .ok (.ifCond .eq 14, 3) := by decide +kernel
theorem dX7_digit_15 : decode (am_b mX7_digit) 15 = .ok (.aload_n 0, 1) := by decide +kernel
theorem dX7_digit_16 : decode (am_b mX7_digit) 16 = .ok (.iload_n 1, 1) := by decide +kernel
theorem dX7_digit_17 : decode (am_b mX7_digit) 17 = .ok (.invokevirtual 138, 3) := by decide +kernel
theorem dX7_digit_20 : decode (am_b mX7_digit) 20 = .ok (.bipush 48, 2) := by decide +kernel
theorem dX7_digit_22 : decode (am_b mX7_digit) 22 = .ok (.isub, 1) := by decide +kernel
theorem dX7_digit_23 : decode (am_b mX7_digit) 23 = .ok (.goto 4, 3) := by decide +kernel
theorem dX7_digit_26 : decode (am_b mX7_digit) 26 = .ok (.iconst (-1), 1) := by decide +kernel
theorem dX7_digit_27 : decode (am_b mX7_digit) 27 = .ok (.ireturn, 1) := by decide +kernel
theorem dX7_init_0 : decode (am_b mX7_init) 0 = .ok (.aload_n 0, 1) := by decide +kernel
theorem dX7_init_1 : decode (am_b mX7_init) 1 = .ok (.invokespecial 1, 3) := by decide +kernel
theorem dX7_init_4 : decode (am_b mX7_init) 4 = .ok (.aload_n 0, 1) := by decide +kernel
theorem dX7_init_5 : decode (am_b mX7_init) 5 = .ok (.bipush 120, 2) := by decide +kernel
theorem dX7_init_7 : decode (am_b mX7_init) 7 = .ok (.newarray .int, 2) := by decide +kernel
theorem dX7_init_9 : decode (am_b mX7_init) 9 = .ok (.putfield 7, 3) := by decide +kernel
theorem dX7_init_12 : decode (am_b mX7_init) 12 = .ok (.aload_n 0, 1) := by decide +kernel
theorem dX7_init_13 : decode (am_b mX7_init) 13 = .ok (.sipush 360, 3) := by decide +kernel
theorem dX7_init_16 : decode (am_b mX7_init) 16 = .ok (.newarray .int, 2) := by decide +kernel
theorem dX7_init_18 : decode (am_b mX7_init) 18 = .ok (.putfield 13, 3) := by decide +kernel
theorem dX7_init_21 : decode (am_b mX7_init) 21 = .ok (.aload_n 0, 1) := by decide +kernel
theorem dX7_init_22 : decode (am_b mX7_init) 22 = .ok (.bipush 120, 2) := by decide +kernel
theorem dX7_init_24 : decode (am_b mX7_init) 24 = .ok (.newarray .int, 2) := by decide +kernel
theorem dX7_init_26 : decode (am_b mX7_init) 26 = .ok (.putfield 16, 3) := by decide +kernel
theorem dX7_init_29 : decode (am_b mX7_init) 29 = .ok (.aload_n 0, 1) := by decide +kernel
theorem dX7_init_30 : decode (am_b mX7_init) 30 = .ok (.iconst 2, 1) := by decide +kernel
theorem dX7_init_31 : decode (am_b mX7_init) 31 = .ok (.newarray .boolean, 2) := by decide +kernel
theorem dX7_init_33 : decode (am_b mX7_init) 33 = .ok (.putfield 19, 3) := by decide +kernel
theorem dX7_init_36 : decode (am_b mX7_init) 36 = .ok (.aload_n 0, 1) := by decide +kernel
theorem dX7_init_37 : decode (am_b mX7_init) 37 = .ok (.bipush 60, 2) := by decide +kernel
theorem dX7_init_39 : decode (am_b mX7_init) 39 = .ok (.newarray .int, 2) := by decide +kernel
theorem dX7_init_41 : decode (am_b mX7_init) 41 = .ok (.putfield 23, 3) := by decide +kernel
theorem dX7_init_44 : decode (am_b mX7_init) 44 = .ok (.aload_n 0, 1) := by decide +kernel
theorem dX7_init_45 : decode (am_b mX7_init) 45 = .ok (.bipush 16, 2) := by decide +kernel
theorem dX7_init_47 : decode (am_b mX7_init) 47 = .ok (.newarray .int, 2) := by decide +kernel
theorem dX7_init_49 : decode (am_b mX7_init) 49 = .ok (.putfield 26, 3) := by decide +kernel
theorem dX7_init_52 : decode (am_b mX7_init) 52 = .ok (.aload_n 0, 1) := by decide +kernel
theorem dX7_init_53 : decode (am_b mX7_init) 53 = .ok (.getfield 7, 3) := by decide +kernel
theorem dX7_init_56 : decode (am_b mX7_init) 56 = .ok (.iconst 0, 1) := by decide +kernel
theorem dX7_init_57 : decode (am_b mX7_init) 57 = .ok (.sipush 200, 3) := by decide +kernel
theorem dX7_init_60 : decode (am_b mX7_init) 60 = .ok (.iastore, 1) := by decide +kernel
theorem dX7_init_61 : decode (am_b mX7_init) 61 = .ok (.aload_n 0, 1) := by decide +kernel
theorem dX7_init_62 : decode (am_b mX7_init) 62 = .ok (.getfield 7, 3) := by decide +kernel
theorem dX7_init_65 : decode (am_b mX7_init) 65 = .ok (.iconst 1, 1) := by decide +kernel
theorem dX7_init_66 : decode (am_b mX7_init) 66 = .ok (.bipush 100, 2) := by decide +kernel
theorem dX7_init_68 : decode (am_b mX7_init) 68 = .ok (.iastore, 1) := by decide +kernel
theorem dX7_init_69 : decode (am_b mX7_init) 69 = .ok (.aload_n 0, 1) := by decide +kernel
theorem dX7_init_70 : decode (am_b mX7_init) 70 = .ok (.getfield 7, 3) := by decide +kernel
theorem dX7_init_73 : decode (am_b mX7_init) 73 = .ok (.iconst 2, 1) := by decide +kernel
theorem dX7_init_74 : decode (am_b mX7_init) 74 = .ok (.bipush 40, 2) := by decide +kernel
theorem dX7_init_76 : decode (am_b mX7_init) 76 = .ok (.iastore, 1) := by decide +kernel
theorem dX7_init_77 : decode (am_b mX7_init) 77 = .ok (.aload_n 0, 1) := by decide +kernel
theorem dX7_init_78 : decode (am_b mX7_init) 78 = .ok (.getfield 7, 3) := by decide +kernel
theorem dX7_init_81 : decode (am_b mX7_init) 81 = .ok (.iconst 3, 1) := by decide +kernel
theorem dX7_init_82 : decode (am_b mX7_init) 82 = .ok (.bipush 25, 2) := by decide +kernel
theorem dX7_init_84 : decode (am_b mX7_init) 84 = .ok (.iastore, 1) := by decide +kernel
theorem dX7_init_85 : decode (am_b mX7_init) 85 = .ok (.aload_n 0, 1) := by decide +kernel
theorem dX7_init_86 : decode (am_b mX7_init) 86 = .ok (.getfield 7, 3) := by decide +kernel
theorem dX7_init_89 : decode (am_b mX7_init) 89 = .ok (.iconst 4, 1) := by decide +kernel
theorem dX7_init_90 : decode (am_b mX7_init) 90 = .ok (.iconst 1, 1) := by decide +kernel
theorem dX7_init_91 : decode (am_b mX7_init) 91 = .ok (.iastore, 1) := by decide +kernel
theorem dX7_init_92 : decode (am_b mX7_init) 92 = .ok (.aload_n 0, 1) := by decide +kernel
theorem dX7_init_93 : decode (am_b mX7_init) 93 = .ok (.getfield 7, 3) := by decide +kernel
theorem dX7_init_96 : decode (am_b mX7_init) 96 = .ok (.iconst 5, 1) := by decide +kernel
theorem dX7_init_97 : decode (am_b mX7_init) 97 = .ok (.bipush 20, 2) := by decide +kernel
theorem dX7_init_99 : decode (am_b mX7_init) 99 = .ok (.iastore, 1) := by decide +kernel
theorem dX7_init_100 : decode (am_b mX7_init) 100 = .ok (.aload_n 0, 1) := by decide +kernel
theorem dX7_init_101 : decode (am_b mX7_init) 101 = .ok (.getfield 7, 3) := by decide +kernel
theorem dX7_init_104 : decode (am_b mX7_init) 104 = .ok (.bipush 6, 2) := by decide +kernel
theorem dX7_init_106 : decode (am_b mX7_init) 106 = .ok (.iconst 1, 1) := by decide +kernel
theorem dX7_init_107 : decode (am_b mX7_init) 107 = .ok (.iastore, 1) := by decide +kernel
theorem dX7_init_108 : decode (am_b mX7_init) 108 = .ok (.aload_n 0, 1) := by decide +kernel
theorem dX7_init_109 : decode (am_b mX7_init) 109 = .ok (.getfield 7, 3) := by decide +kernel
theorem dX7_init_112 : decode (am_b mX7_init) 112 = .ok (.bipush 8, 2) := by decide +kernel
theorem dX7_init_114 : decode (am_b mX7_init) 114 = .ok (.bipush 48, 2) := by decide +kernel
theorem dX7_init_116 : decode (am_b mX7_init) 116 = .ok (.iastore, 1) := by decide +kernel
theorem dX7_init_117 : decode (am_b mX7_init) 117 = .ok (.aload_n 0, 1) := by decide +kernel
theorem dX7_init_118 : decode (am_b mX7_init) 118 = .ok (.invokevirtual 29, 3) := by decide +kernel
theorem dX7_init_121 : decode (am_b mX7_init) 121 = .ok (.return_, 1) := by decide +kernel
theorem dX7_isBooth_0 : decode (am_b mX7_isBooth) 0 = .ok (.iload_n 1, 1) := by decide +kernel
theorem dX7_isBooth_1 : decode (am_b mX7_isBooth) 1 = .ok (.iconst 0, 1) := by decide +kernel
theorem dX7_isBooth_2 : decode (am_b mX7_isBooth) 2 = .ok (.aload_n 0, 1) := by decide +kernel
theorem dX7_isBooth_3 : decode (am_b mX7_isBooth) 3 = .ok (.getfield 7, 3) := by decide +kernel
theorem dX7_isBooth_6 : decode (am_b mX7_isBooth) 6 = .ok (.bipush 7, 2) := by decide +kernel
theorem dX7_isBooth_8 : decode (am_b mX7_isBooth) 8 = .ok (.iaload, 1) := by decide +kernel
theorem dX7_isBooth_9 : decode (am_b mX7_isBooth) 9 = .ok (.iconst 1, 1) := by decide +kernel
theorem dX7_isBooth_10 : decode (am_b mX7_isBooth) 10 = .ok (.isub, 1) := by decide +kernel
theorem dX7_isBooth_11 : decode (am_b mX7_isBooth) 11 = .ok (.invokestatic 32, 3) := by decide +kernel
theorem dX7_isBooth_14 : decode (am_b mX7_isBooth) 14 = .ok (.ireturn, 1) := by decide +kernel
theorem dX7_isFree_0 : decode (am_b mX7_isFree) 0 = .ok (.iconst 1, 1) := by decide +kernel
theorem dX7_isFree_1 : decode (am_b mX7_isFree) 1 = .ok (.istore_n 3, 1) := by decide +kernel
theorem dX7_isFree_2 : decode (am_b mX7_isFree) 2 = .ok (.iconst 0, 1) := by decide +kernel
theorem dX7_isFree_3 : decode (am_b mX7_isFree) 3 = .ok (.istore 4, 2) := by decide +kernel
theorem dX7_isFree_5 : decode (am_b mX7_isFree) 5 = .ok (.iload 4, 2) := by decide +kernel
theorem dX7_isFree_7 : decode (am_b mX7_isFree) 7 = .ok (.aload_n 0, 1) := by decide +kernel
theorem dX7_isFree_8 : decode (am_b mX7_isFree) 8 = .ok (.getfield 7, 3) := by decide +kernel
theorem dX7_isFree_11 : decode (am_b mX7_isFree) 11 = .ok (.iload_n 1, 1) := by decide +kernel
theorem dX7_isFree_12 : decode (am_b mX7_isFree) 12 = .ok (.bipush 7, 2) := by decide +kernel
theorem dX7_isFree_14 : decode (am_b mX7_isFree) 14 = .ok (.iadd, 1) := by decide +kernel
theorem dX7_isFree_15 : decode (am_b mX7_isFree) 15 = .ok (.iaload, 1) := by decide +kernel
theorem dX7_isFree_16 : decode (am_b mX7_isFree) 16 = .ok (.if_icmp .ge 76, 3) := by decide +kernel
theorem dX7_isFree_19 : decode (am_b mX7_isFree) 19 = .ok (.aload_n 0, 1) := by decide +kernel
theorem dX7_isFree_20 : decode (am_b mX7_isFree) 20 = .ok (.getfield 7, 3) := by decide +kernel
theorem dX7_isFree_23 : decode (am_b mX7_isFree) 23 = .ok (.iload_n 1, 1) := by decide +kernel
theorem dX7_isFree_24 : decode (am_b mX7_isFree) 24 = .ok (.iload 4, 2) := by decide +kernel
theorem dX7_isFree_26 : decode (am_b mX7_isFree) 26 = .ok (.invokestatic 36, 3) := by decide +kernel
theorem dX7_isFree_29 : decode (am_b mX7_isFree) 29 = .ok (.iconst 1, 1) := by decide +kernel
theorem dX7_isFree_30 : decode (am_b mX7_isFree) 30 = .ok (.iadd, 1) := by decide +kernel
theorem dX7_isFree_31 : decode (am_b mX7_isFree) 31 = .ok (.iaload, 1) := by decide +kernel
theorem dX7_isFree_32 : decode (am_b mX7_isFree) 32 = .ok (.istore 5, 2) := by decide +kernel
theorem dX7_isFree_34 : decode (am_b mX7_isFree) 34 = .ok (.iload 5, 2) := by decide +kernel
theorem dX7_isFree_36 : decode (am_b mX7_isFree) 36 = .ok (.iload_n 2, 1) := by decide +kernel
theorem dX7_isFree_37 : decode (am_b mX7_isFree) 37 = .ok (.if_icmp .ge 10, 3) := by decide +kernel
theorem dX7_isFree_40 : decode (am_b mX7_isFree) 40 = .ok (.iload_n 2, 1) := by decide +kernel
theorem dX7_isFree_41 : decode (am_b mX7_isFree) 41 = .ok (.iload 5, 2) := by decide +kernel
theorem dX7_isFree_43 : decode (am_b mX7_isFree) 43 = .ok (.isub, 1) := by decide +kernel
theorem dX7_isFree_44 : decode (am_b mX7_isFree) 44 = .ok (.goto 7, 3) := by decide +kernel
theorem dX7_isFree_47 : decode (am_b mX7_isFree) 47 = .ok (.iload 5, 2) := by decide +kernel
theorem dX7_isFree_49 : decode (am_b mX7_isFree) 49 = .ok (.iload_n 2, 1) := by decide +kernel
theorem dX7_isFree_50 : decode (am_b mX7_isFree) 50 = .ok (.isub, 1) := by decide +kernel
theorem dX7_isFree_51 : decode (am_b mX7_isFree) 51 = .ok (.istore 6, 2) := by decide +kernel
theorem dX7_isFree_53 : decode (am_b mX7_isFree) 53 = .ok (.iload_n 3, 1) := by decide +kernel
theorem dX7_isFree_54 : decode (am_b mX7_isFree) 54 = .ok (.ifCond .eq 30, 3) := by decide +kernel
theorem dX7_isFree_57 : decode (am_b mX7_isFree) 57 = .ok (.iload 5, 2) := by decide +kernel
theorem dX7_isFree_59 : decode (am_b mX7_isFree) 59 = .ok (.ifCond .lt 21, 3) := by decide +kernel
theorem dX7_isFree_62 : decode (am_b mX7_isFree) 62 = .ok (.iload 6, 2) := by decide +kernel
theorem dX7_isFree_64 : decode (am_b mX7_isFree) 64 = .ok (.aload_n 0, 1) := by decide +kernel
theorem dX7_isFree_65 : decode (am_b mX7_isFree) 65 = .ok (.getfield 7, 3) := by decide +kernel
theorem dX7_isFree_68 : decode (am_b mX7_isFree) 68 = .ok (.iload_n 1, 1) := by decide +kernel
theorem dX7_isFree_69 : decode (am_b mX7_isFree) 69 = .ok (.iconst 4, 1) := by decide +kernel
theorem dX7_isFree_70 : decode (am_b mX7_isFree) 70 = .ok (.iadd, 1) := by decide +kernel
theorem dX7_isFree_71 : decode (am_b mX7_isFree) 71 = .ok (.iaload, 1) := by decide +kernel
theorem dX7_isFree_72 : decode (am_b mX7_isFree) 72 = .ok (.if_icmp .le 12, 3) := by decide +kernel
theorem dX7_isFree_75 : decode (am_b mX7_isFree) 75 = .ok (.iload 6, 2) := by decide +kernel
theorem dX7_isFree_77 : decode (am_b mX7_isFree) 77 = .ok (.ifCond .le 7, 3) := by decide +kernel
theorem dX7_isFree_80 : decode (am_b mX7_isFree) 80 = .ok (.iconst 1, 1) := by decide +kernel
theorem dX7_isFree_81 : decode (am_b mX7_isFree) 81 = .ok (.goto 4, 3) := by decide +kernel
theorem dX7_isFree_84 : decode (am_b mX7_isFree) 84 = .ok (.iconst 0, 1) := by decide +kernel
theorem dX7_isFree_85 : decode (am_b mX7_isFree) 85 = .ok (.istore_n 3, 1) := by decide +kernel
theorem dX7_isFree_86 : decode (am_b mX7_isFree) 86 = .ok (.iinc 4 1, 3) := by decide +kernel
theorem dX7_isFree_89 : decode (am_b mX7_isFree) 89 = .ok (.goto (-84), 3) := by decide +kernel
theorem dX7_isFree_92 : decode (am_b mX7_isFree) 92 = .ok (.iload_n 3, 1) := by decide +kernel
theorem dX7_isFree_93 : decode (am_b mX7_isFree) 93 = .ok (.ireturn, 1) := by decide +kernel
theorem dX7_isPitch_0 : decode (am_b mX7_isPitch) 0 = .ok (.iload_n 0, 1) := by decide +kernel
theorem dX7_isPitch_1 : decode (am_b mX7_isPitch) 1 = .ok (.iconst 0, 1) := by decide +kernel
theorem dX7_isPitch_2 : decode (am_b mX7_isPitch) 2 = .ok (.bipush 11, 2) := by decide +kernel
theorem dX7_isPitch_4 : decode (am_b mX7_isPitch) 4 = .ok (.invokestatic 32, 3) := by decide +kernel
theorem dX7_isPitch_7 : decode (am_b mX7_isPitch) 7 = .ok (.ireturn, 1) := by decide +kernel
theorem dX7_its_0 : decode (am_b mX7_its) 0 = .ok (.aload_n 0, 1) := by decide +kernel
theorem dX7_its_1 : decode (am_b mX7_its) 1 = .ok (.getfield 7, 3) := by decide +kernel
theorem dX7_its_4 : decode (am_b mX7_its) 4 = .ok (.iconst 0, 1) := by decide +kernel
theorem dX7_its_5 : decode (am_b mX7_its) 5 = .ok (.iload_n 1, 1) := by decide +kernel
theorem dX7_its_6 : decode (am_b mX7_its) 6 = .ok (.invokestatic 36, 3) := by decide +kernel
theorem dX7_its_9 : decode (am_b mX7_its) 9 = .ok (.iload_n 2, 1) := by decide +kernel
theorem dX7_its_10 : decode (am_b mX7_its) 10 = .ok (.iadd, 1) := by decide +kernel
theorem dX7_its_11 : decode (am_b mX7_its) 11 = .ok (.iaload, 1) := by decide +kernel
theorem dX7_its_12 : decode (am_b mX7_its) 12 = .ok (.ireturn, 1) := by decide +kernel
theorem dX7_lot_0 : decode (am_b mX7_lot) 0 = .ok (.iload_n 1, 1) := by decide +kernel
theorem dX7_lot_1 : decode (am_b mX7_lot) 1 = .ok (.iconst 0, 1) := by decide +kernel
theorem dX7_lot_2 : decode (am_b mX7_lot) 2 = .ok (.bipush 7, 2) := by decide +kernel
theorem dX7_lot_4 : decode (am_b mX7_lot) 4 = .ok (.invokestatic 32, 3) := by decide +kernel
theorem dX7_lot_7 : decode (am_b mX7_lot) 7 = .ok (.ifCond .ne 5, 3) := by decide +kernel
theorem dX7_lot_10 : decode (am_b mX7_lot) 10 = .ok (.iconst (-1), 1) := by decide +kernel
theorem dX7_lot_11 : decode (am_b mX7_lot) 11 = .ok (.ireturn, 1) := by decide +kernel
theorem dX7_lot_12 : decode (am_b mX7_lot) 12 = .ok (.aload_n 0, 1) := by decide +kernel
theorem dX7_lot_13 : decode (am_b mX7_lot) 13 = .ok (.getfield 7, 3) := by decide +kernel
theorem dX7_lot_16 : decode (am_b mX7_lot) 16 = .ok (.bipush 12, 2) := by decide +kernel
theorem dX7_lot_18 : decode (am_b mX7_lot) 18 = .ok (.iload_n 1, 1) := by decide +kernel
theorem dX7_lot_19 : decode (am_b mX7_lot) 19 = .ok (.iadd, 1) := by decide +kernel
theorem dX7_lot_20 : decode (am_b mX7_lot) 20 = .ok (.iaload, 1) := by decide +kernel
theorem dX7_lot_21 : decode (am_b mX7_lot) 21 = .ok (.ifCond .ge 8, 3) := by decide +kernel
theorem dX7_lot_24 : decode (am_b mX7_lot) 24 = .ok (.bipush (-6), 2) := by decide +kernel
theorem dX7_lot_26 : decode (am_b mX7_lot) 26 = .ok (.goto 12, 3) := by decide +kernel
theorem dX7_lot_29 : decode (am_b mX7_lot) 29 = .ok (.aload_n 0, 1) := by decide +kernel
theorem dX7_lot_30 : decode (am_b mX7_lot) 30 = .ok (.getfield 7, 3) := by decide +kernel
theorem dX7_lot_33 : decode (am_b mX7_lot) 33 = .ok (.bipush 12, 2) := by decide +kernel
theorem dX7_lot_35 : decode (am_b mX7_lot) 35 = .ok (.iload_n 1, 1) := by decide +kernel
theorem dX7_lot_36 : decode (am_b mX7_lot) 36 = .ok (.iadd, 1) := by decide +kernel
theorem dX7_lot_37 : decode (am_b mX7_lot) 37 = .ok (.iaload, 1) := by decide +kernel
theorem dX7_lot_38 : decode (am_b mX7_lot) 38 = .ok (.ireturn, 1) := by decide +kernel
theorem dX7_lots_0 : decode (am_b mX7_lots) 0 = .ok (.aload_n 0, 1) := by decide +kernel
theorem dX7_lots_1 : decode (am_b mX7_lots) 1 = .ok (.getfield 7, 3) := by decide +kernel
theorem dX7_lots_4 : decode (am_b mX7_lots) 4 = .ok (.iload_n 1, 1) := by decide +kernel
theorem dX7_lots_5 : decode (am_b mX7_lots) 5 = .ok (.bipush 7, 2) := by decide +kernel
theorem dX7_lots_7 : decode (am_b mX7_lots) 7 = .ok (.iadd, 1) := by decide +kernel
theorem dX7_lots_8 : decode (am_b mX7_lots) 8 = .ok (.iaload, 1) := by decide +kernel
theorem dX7_lots_9 : decode (am_b mX7_lots) 9 = .ok (.istore_n 2, 1) := by decide +kernel
theorem dX7_lots_10 : decode (am_b mX7_lots) 10 = .ok (.iconst 0, 1) := by decide +kernel
theorem dX7_lots_11 : decode (am_b mX7_lots) 11 = .ok (.istore_n 3, 1) := by decide +kernel
theorem dX7_lots_12 : decode (am_b mX7_lots) 12 = .ok (.iload_n 3, 1) := by decide +kernel
theorem dX7_lots_13 : decode (am_b mX7_lots) 13 = .ok (.bipush 8, 2) := by decide +kernel
theorem dX7_lots_15 : decode (am_b mX7_lots) 15 = .ok (.if_icmp .ge 30, 3) := by decide +kernel
theorem dX7_lots_18 : decode (am_b mX7_lots) 18 = .ok (.aload_n 0, 1) := by decide +kernel
theorem dX7_lots_19 : decode (am_b mX7_lots) 19 = .ok (.getfield 7, 3) := by decide +kernel
theorem dX7_lots_22 : decode (am_b mX7_lots) 22 = .ok (.iload_n 1, 1) := by decide +kernel
theorem dX7_lots_23 : decode (am_b mX7_lots) 23 = .ok (.bipush 12, 2) := by decide +kernel
theorem dX7_lots_25 : decode (am_b mX7_lots) 25 = .ok (.iadd, 1) := by decide +kernel
theorem dX7_lots_26 : decode (am_b mX7_lots) 26 = .ok (.iload_n 3, 1) := by decide +kernel
theorem dX7_lots_27 : decode (am_b mX7_lots) 27 = .ok (.iadd, 1) := by decide +kernel
theorem dX7_lots_28 : decode (am_b mX7_lots) 28 = .ok (.iload_n 3, 1) := by decide +kernel
theorem dX7_lots_29 : decode (am_b mX7_lots) 29 = .ok (.iload_n 2, 1) := by decide +kernel
theorem dX7_lots_30 : decode (am_b mX7_lots) 30 = .ok (.if_icmp .ge 7, 3) := by decide +kernel
theorem dX7_lots_33 : decode (am_b mX7_lots) 33 = .ok (.iload_n 3, 1) := by decide +kernel
theorem dX7_lots_34 : decode (am_b mX7_lots) 34 = .ok (.goto 4, 3) := by decide +kernel
theorem dX7_lots_37 : decode (am_b mX7_lots) 37 = .ok (.iconst (-1), 1) := by decide +kernel
theorem dX7_lots_38 : decode (am_b mX7_lots) 38 = .ok (.iastore, 1) := by decide +kernel
theorem dX7_lots_39 : decode (am_b mX7_lots) 39 = .ok (.iinc 3 1, 3) := by decide +kernel
theorem dX7_lots_42 : decode (am_b mX7_lots) 42 = .ok (.goto (-30), 3) := by decide +kernel
theorem dX7_lots_45 : decode (am_b mX7_lots) 45 = .ok (.iload_n 2, 1) := by decide +kernel
theorem dX7_lots_46 : decode (am_b mX7_lots) 46 = .ok (.iconst 1, 1) := by decide +kernel
theorem dX7_lots_47 : decode (am_b mX7_lots) 47 = .ok (.isub, 1) := by decide +kernel
theorem dX7_lots_48 : decode (am_b mX7_lots) 48 = .ok (.istore_n 3, 1) := by decide +kernel
theorem dX7_lots_49 : decode (am_b mX7_lots) 49 = .ok (.iload_n 3, 1) := by decide +kernel
theorem dX7_lots_50 : decode (am_b mX7_lots) 50 = .ok (.ifCond .le 69, 3) := by decide +kernel
theorem dX7_lots_53 : decode (am_b mX7_lots) 53 = .ok (.aload_n 0, 1) := by decide +kernel
theorem dX7_lots_54 : decode (am_b mX7_lots) 54 = .ok (.iload_n 1, 1) := by decide +kernel
theorem dX7_lots_55 : decode (am_b mX7_lots) 55 = .ok (.iload_n 3, 1) := by decide +kernel
theorem dX7_lots_56 : decode (am_b mX7_lots) 56 = .ok (.iconst 1, 1) := by decide +kernel
theorem dX7_lots_57 : decode (am_b mX7_lots) 57 = .ok (.iadd, 1) := by decide +kernel
theorem dX7_lots_58 : decode (am_b mX7_lots) 58 = .ok (.invokevirtual 64, 3) := by decide +kernel
theorem dX7_lots_61 : decode (am_b mX7_lots) 61 = .ok (.istore 4, 2) := by decide +kernel
theorem dX7_lots_63 : decode (am_b mX7_lots) 63 = .ok (.aload_n 0, 1) := by decide +kernel
theorem dX7_lots_64 : decode (am_b mX7_lots) 64 = .ok (.getfield 7, 3) := by decide +kernel
theorem dX7_lots_67 : decode (am_b mX7_lots) 67 = .ok (.iload_n 1, 1) := by decide +kernel
theorem dX7_lots_68 : decode (am_b mX7_lots) 68 = .ok (.bipush 12, 2) := by decide +kernel
theorem dX7_lots_70 : decode (am_b mX7_lots) 70 = .ok (.iadd, 1) := by decide +kernel
theorem dX7_lots_71 : decode (am_b mX7_lots) 71 = .ok (.iload_n 3, 1) := by decide +kernel
theorem dX7_lots_72 : decode (am_b mX7_lots) 72 = .ok (.iadd, 1) := by decide +kernel
theorem dX7_lots_73 : decode (am_b mX7_lots) 73 = .ok (.iaload, 1) := by decide +kernel
theorem dX7_lots_74 : decode (am_b mX7_lots) 74 = .ok (.istore 5, 2) := by decide +kernel
theorem dX7_lots_76 : decode (am_b mX7_lots) 76 = .ok (.aload_n 0, 1) := by decide +kernel
theorem dX7_lots_77 : decode (am_b mX7_lots) 77 = .ok (.getfield 7, 3) := by decide +kernel
theorem dX7_lots_80 : decode (am_b mX7_lots) 80 = .ok (.iload_n 1, 1) := by decide +kernel
theorem dX7_lots_81 : decode (am_b mX7_lots) 81 = .ok (.bipush 12, 2) := by decide +kernel
theorem dX7_lots_83 : decode (am_b mX7_lots) 83 = .ok (.iadd, 1) := by decide +kernel
theorem dX7_lots_84 : decode (am_b mX7_lots) 84 = .ok (.iload_n 3, 1) := by decide +kernel
theorem dX7_lots_85 : decode (am_b mX7_lots) 85 = .ok (.iadd, 1) := by decide +kernel
theorem dX7_lots_86 : decode (am_b mX7_lots) 86 = .ok (.aload_n 0, 1) := by decide +kernel
theorem dX7_lots_87 : decode (am_b mX7_lots) 87 = .ok (.getfield 7, 3) := by decide +kernel
theorem dX7_lots_90 : decode (am_b mX7_lots) 90 = .ok (.iload_n 1, 1) := by decide +kernel
theorem dX7_lots_91 : decode (am_b mX7_lots) 91 = .ok (.bipush 12, 2) := by decide +kernel
theorem dX7_lots_93 : decode (am_b mX7_lots) 93 = .ok (.iadd, 1) := by decide +kernel
theorem dX7_lots_94 : decode (am_b mX7_lots) 94 = .ok (.iload 4, 2) := by decide +kernel
theorem dX7_lots_96 : decode (am_b mX7_lots) 96 = .ok (.iadd, 1) := by decide +kernel
theorem dX7_lots_97 : decode (am_b mX7_lots) 97 = .ok (.iaload, 1) := by decide +kernel
theorem dX7_lots_98 : decode (am_b mX7_lots) 98 = .ok (.iastore, 1) := by decide +kernel
theorem dX7_lots_99 : decode (am_b mX7_lots) 99 = .ok (.aload_n 0, 1) := by decide +kernel
theorem dX7_lots_100 : decode (am_b mX7_lots) 100 = .ok (.getfield 7, 3) := by decide +kernel
theorem dX7_lots_103 : decode (am_b mX7_lots) 103 = .ok (.iload_n 1, 1) := by decide +kernel
theorem dX7_lots_104 : decode (am_b mX7_lots) 104 = .ok (.bipush 12, 2) := by decide +kernel
theorem dX7_lots_106 : decode (am_b mX7_lots) 106 = .ok (.iadd, 1) := by decide +kernel
theorem dX7_lots_107 : decode (am_b mX7_lots) 107 = .ok (.iload 4, 2) := by decide +kernel
theorem dX7_lots_109 : decode (am_b mX7_lots) 109 = .ok (.iadd, 1) := by decide +kernel
theorem dX7_lots_110 : decode (am_b mX7_lots) 110 = .ok (.iload 5, 2) := by decide +kernel
theorem dX7_lots_112 : decode (am_b mX7_lots) 112 = .ok (.iastore, 1) := by decide +kernel
theorem dX7_lots_113 : decode (am_b mX7_lots) 113 = .ok (.iinc 3 (-1), 3) := by decide +kernel
theorem dX7_lots_116 : decode (am_b mX7_lots) 116 = .ok (.goto (-67), 3) := by decide +kernel
theorem dX7_lots_119 : decode (am_b mX7_lots) 119 = .ok (.return_, 1) := by decide +kernel
theorem dX7_put_0 : decode (am_b mX7_put) 0 = .ok (.iconst 0, 1) := by decide +kernel
theorem dX7_put_1 : decode (am_b mX7_put) 1 = .ok (.istore_n 3, 1) := by decide +kernel
theorem dX7_put_2 : decode (am_b mX7_put) 2 = .ok (.iconst 1, 1) := by decide +kernel
theorem dX7_put_3 : decode (am_b mX7_put) 3 = .ok (.istore 4, 2) := by decide +kernel
theorem dX7_put_5 : decode (am_b mX7_put) 5 = .ok (.iconst 0, 1) := by decide +kernel
theorem dX7_put_6 : decode (am_b mX7_put) 6 = .ok (.istore 5, 2) := by decide +kernel
theorem dX7_put_8 : decode (am_b mX7_put) 8 = .ok (.iconst 0, 1) := by decide +kernel
theorem dX7_put_9 : decode (am_b mX7_put) 9 = .ok (.istore 6, 2) := by decide +kernel
theorem dX7_put_11 : decode (am_b mX7_put) 11 = .ok (.iload 6, 2) := by decide +kernel
theorem dX7_put_13 : decode (am_b mX7_put) 13 = .ok (.bipush 8, 2) := by decide +kernel
theorem dX7_put_15 : decode (am_b mX7_put) 15 = .ok (.if_icmp .ge 90, 3) := by decide +kernel
theorem dX7_put_18 : decode (am_b mX7_put) 18 = .ok (.lload_n 1, 1) := by decide +kernel
theorem dX7_put_19 : decode (am_b mX7_put) 19 = .ok (.bipush 8, 2) := by decide +kernel
theorem dX7_put_21 : decode (am_b mX7_put) 21 = .ok (.iload 6, 2) := by decide +kernel
theorem dX7_put_23 : decode (am_b mX7_put) 23 = .ok (.imul, 1) := by decide +kernel
theorem dX7_put_24 : decode (am_b mX7_put) 24 = .ok (.lshr, 1) := by decide +kernel
theorem dX7_put_25 : decode (am_b mX7_put) 25 = .ok (.ldc2_w 136, 3) := by decide +kernel
theorem dX7_put_28 : decode (am_b mX7_put) 28 = .ok (.land, 1) := by decide +kernel
theorem dX7_put_29 : decode (am_b mX7_put) 29 = .ok (.l2i, 1) := by decide +kernel
theorem dX7_put_30 : decode (am_b mX7_put) 30 = .ok (.istore 7, 2) := by decide +kernel
theorem dX7_put_32 : decode (am_b mX7_put) 32 = .ok (.iload 5, 2) := by decide +kernel
theorem dX7_put_34 : decode (am_b mX7_put) 34 = .ok (.ifCond .ne 8, 3) := by decide +kernel
theorem dX7_put_37 : decode (am_b mX7_put) 37 = .ok (.iload 7, 2) := by decide +kernel
theorem dX7_put_39 : decode (am_b mX7_put) 39 = .ok (.ifCond .ne 7, 3) := by decide +kernel
theorem dX7_put_42 : decode (am_b mX7_put) 42 = .ok (.iconst 1, 1) := by decide +kernel
theorem dX7_put_43 : decode (am_b mX7_put) 43 = .ok (.goto 4, 3) := by decide +kernel
theorem dX7_put_46 : decode (am_b mX7_put) 46 = .ok (.iconst 0, 1) := by decide +kernel
theorem dX7_put_47 : decode (am_b mX7_put) 47 = .ok (.istore 5, 2) := by decide +kernel
theorem dX7_put_49 : decode (am_b mX7_put) 49 = .ok (.iload 4, 2) := by decide +kernel
theorem dX7_put_51 : decode (am_b mX7_put) 51 = .ok (.ifCond .eq 32, 3) := by decide +kernel
theorem dX7_put_54 : decode (am_b mX7_put) 54 = .ok (.iload 5, 2) := by decide +kernel
theorem dX7_put_56 : decode (am_b mX7_put) 56 = .ok (.ifCond .eq 11, 3) := by decide +kernel
theorem dX7_put_59 : decode (am_b mX7_put) 59 = .ok (.iload 7, 2) := by decide +kernel
theorem dX7_put_61 : decode (am_b mX7_put) 61 = .ok (.ifCond .ne 22, 3) := by decide +kernel
theorem dX7_put_64 : decode (am_b mX7_put) 64 = .ok (.goto 15, 3) := by decide +kernel
theorem dX7_put_67 : decode (am_b mX7_put) 67 = .ok (.iload 7, 2) := by decide +kernel
theorem dX7_put_69 : decode (am_b mX7_put) 69 = .ok (.bipush 33, 2) := by decide +kernel
theorem dX7_put_71 : decode (am_b mX7_put) 71 = .ok (.bipush 126, 2) := by decide +kernel
theorem dX7_put_73 : decode (am_b mX7_put) 73 = .ok (.invokestatic 32, 3) := by decide +kernel
theorem dX7_put_76 : decode (am_b mX7_put) 76 = .ok (.ifCond .eq 7, 3) := by decide +kernel
theorem dX7_put_79 : decode (am_b mX7_put) 79 = .ok (.iconst 1, 1) := by decide +kernel
theorem dX7_put_80 : decode (am_b mX7_put) 80 = .ok (.goto 4, 3) := by decide +kernel
theorem dX7_put_83 : decode (am_b mX7_put) 83 = .ok (.iconst 0, 1) := by decide +kernel
theorem dX7_put_84 : decode (am_b mX7_put) 84 = .ok (.istore 4, 2) := by decide +kernel
theorem dX7_put_86 : decode (am_b mX7_put) 86 = .ok (.iload_n 3, 1) := by decide +kernel
theorem dX7_put_87 : decode (am_b mX7_put) 87 = .ok (.iload 5, 2) := by decide +kernel
theorem dX7_put_89 : decode (am_b mX7_put) 89 = .ok (.ifCond .eq 7, 3) := by decide +kernel
theorem dX7_put_92 : decode (am_b mX7_put) 92 = .ok (.iconst 0, 1) := by decide +kernel
theorem dX7_put_93 : decode (am_b mX7_put) 93 = .ok (.goto 4, 3) := by decide +kernel
theorem dX7_put_96 : decode (am_b mX7_put) 96 = .ok (.iconst 1, 1) := by decide +kernel
theorem dX7_put_97 : decode (am_b mX7_put) 97 = .ok (.iadd, 1) := by decide +kernel
theorem dX7_put_98 : decode (am_b mX7_put) 98 = .ok (.istore_n 3, 1) := by decide +kernel
theorem dX7_put_99 : decode (am_b mX7_put) 99 = .ok (.iinc 6 1, 3) := by decide +kernel
theorem dX7_put_102 : decode (am_b mX7_put) 102 = .ok (.goto (-91), 3) := by decide +kernel
theorem dX7_put_105 : decode (am_b mX7_put) 105 = .ok (.iload 4, 2) := by decide +kernel
theorem dX7_put_107 : decode (am_b mX7_put) 107 = .ok (.ifCond .eq 7, 3) := by decide +kernel
theorem dX7_put_110 : decode (am_b mX7_put) 110 = .ok (.iload_n 3, 1) := by decide +kernel
theorem dX7_put_111 : decode (am_b mX7_put) 111 = .ok (.ifCond .ne 6, 3) := by decide +kernel
theorem dX7_put_114 : decode (am_b mX7_put) 114 = .ok (.bipush (-2), 2) := by decide +kernel
theorem dX7_put_116 : decode (am_b mX7_put) 116 = .ok (.ireturn, 1) := by decide +kernel
theorem dX7_put_117 : decode (am_b mX7_put) 117 = .ok (.aload_n 0, 1) := by decide +kernel
theorem dX7_put_118 : decode (am_b mX7_put) 118 = .ok (.getfield 130, 3) := by decide +kernel
theorem dX7_put_121 : decode (am_b mX7_put) 121 = .ok (.iload_n 3, 1) := by decide +kernel
theorem dX7_put_122 : decode (am_b mX7_put) 122 = .ok (.iadd, 1) := by decide +kernel
theorem dX7_put_123 : decode (am_b mX7_put) 123 = .ok (.bipush 60, 2) := by decide +kernel
theorem dX7_put_125 : decode (am_b mX7_put) 125 = .ok (.if_icmp .le 6, 3) := by decide +kernel
theorem dX7_put_128 : decode (am_b mX7_put) 128 = .ok (.bipush (-4), 2) := by decide +kernel
theorem dX7_put_130 : decode (am_b mX7_put) 130 = .ok (.ireturn, 1) := by decide +kernel
theorem dX7_put_131 : decode (am_b mX7_put) 131 = .ok (.iload_n 3, 1) := by decide +kernel
theorem dX7_put_132 : decode (am_b mX7_put) 132 = .ok (.iconst 1, 1) := by decide +kernel
theorem dX7_put_133 : decode (am_b mX7_put) 133 = .ok (.isub, 1) := by decide +kernel
theorem dX7_put_134 : decode (am_b mX7_put) 134 = .ok (.istore 6, 2) := by decide +kernel
theorem dX7_put_136 : decode (am_b mX7_put) 136 = .ok (.iload 6, 2) := by decide +kernel
theorem dX7_put_138 : decode (am_b mX7_put) 138 = .ok (.ifCond .lt 40, 3) := by decide +kernel
theorem dX7_put_141 : decode (am_b mX7_put) 141 = .ok (.aload_n 0, 1) := by decide +kernel
theorem dX7_put_142 : decode (am_b mX7_put) 142 = .ok (.getfield 23, 3) := by decide +kernel
theorem dX7_put_145 : decode (am_b mX7_put) 145 = .ok (.aload_n 0, 1) := by decide +kernel
theorem dX7_put_146 : decode (am_b mX7_put) 146 = .ok (.getfield 130, 3) := by decide +kernel
theorem dX7_put_149 : decode (am_b mX7_put) 149 = .ok (.lload_n 1, 1) := by decide +kernel
theorem dX7_put_150 : decode (am_b mX7_put) 150 = .ok (.bipush 8, 2) := by decide +kernel
theorem dX7_put_152 : decode (am_b mX7_put) 152 = .ok (.iload 6, 2) := by decide +kernel
theorem dX7_put_154 : decode (am_b mX7_put) 154 = .ok (.imul, 1) := by decide +kernel
theorem dX7_put_155 : decode (am_b mX7_put) 155 = .ok (.lshr, 1) := by decide +kernel
theorem dX7_put_156 : decode (am_b mX7_put) 156 = .ok (.ldc2_w 136, 3) := by decide +kernel
theorem dX7_put_159 : decode (am_b mX7_put) 159 = .ok (.land, 1) := by decide +kernel
theorem dX7_put_160 : decode (am_b mX7_put) 160 = .ok (.l2i, 1) := by decide +kernel
theorem dX7_put_161 : decode (am_b mX7_put) 161 = .ok (.iastore, 1) := by decide +kernel
theorem dX7_put_162 : decode (am_b mX7_put) 162 = .ok (.aload_n 0, 1) := by decide +kernel
theorem dX7_put_163 : decode (am_b mX7_put) 163 = .ok (.dup, 1) := by decide +kernel
theorem dX7_put_164 : decode (am_b mX7_put) 164 = .ok (.getfield 130, 3) := by decide +kernel
theorem dX7_put_167 : decode (am_b mX7_put) 167 = .ok (.iconst 1, 1) := by decide +kernel
theorem dX7_put_168 : decode (am_b mX7_put) 168 = .ok (.iadd, 1) := by decide +kernel
theorem dX7_put_169 : decode (am_b mX7_put) 169 = .ok (.putfield 130, 3) := by decide +kernel
theorem dX7_put_172 : decode (am_b mX7_put) 172 = .ok (.iinc 6 (-1), 3) := by decide +kernel
theorem dX7_put_175 : decode (am_b mX7_put) 175 = .ok (.goto (-39), 3) := by decide +kernel
theorem dX7_put_178 : decode (am_b mX7_put) 178 = .ok (.aload_n 0, 1) := by decide +kernel
theorem dX7_put_179 : decode (am_b mX7_put) 179 = .ok (.getfield 130, 3) := by decide +kernel
theorem dX7_put_182 : decode (am_b mX7_put) 182 = .ok (.ireturn, 1) := by decide +kernel
theorem dX7_restore_0 : decode (am_b mX7_restore) 0 = .ok (.iload_n 1, 1) := by decide +kernel
theorem dX7_restore_1 : decode (am_b mX7_restore) 1 = .ok (.iconst 0, 1) := by decide +kernel
theorem dX7_restore_2 : decode (am_b mX7_restore) 2 = .ok (.iconst 1, 1) := by decide +kernel
theorem dX7_restore_3 : decode (am_b mX7_restore) 3 = .ok (.invokestatic 32, 3) := by decide +kernel
theorem dX7_restore_6 : decode (am_b mX7_restore) 6 = .ok (.ifCond .ne 6, 3) := by decide +kernel
theorem dX7_restore_9 : decode (am_b mX7_restore) 9 = .ok (.bipush (-2), 2) := by decide +kernel
theorem dX7_restore_11 : decode (am_b mX7_restore) 11 = .ok (.ireturn, 1) := by decide +kernel
theorem dX7_restore_12 : decode (am_b mX7_restore) 12 = .ok (.aload_n 0, 1) := by decide +kernel
theorem dX7_restore_13 : decode (am_b mX7_restore) 13 = .ok (.getfield 19, 3) := by decide +kernel
theorem dX7_restore_16 : decode (am_b mX7_restore) 16 = .ok (.iload_n 1, 1) := by decide +kernel
theorem dX7_restore_17 : decode (am_b mX7_restore) 17 = .ok (.baload, 1) := by decide +kernel
theorem dX7_restore_18 : decode (am_b mX7_restore) 18 = .ok (.ifCond .ne 6, 3) := by decide +kernel
theorem dX7_restore_21 : decode (am_b mX7_restore) 21 = .ok (.bipush (-5), 2) := by decide +kernel
theorem dX7_restore_23 : decode (am_b mX7_restore) 23 = .ok (.ireturn, 1) := by decide +kernel
theorem dX7_restore_24 : decode (am_b mX7_restore) 24 = .ok (.aload_n 0, 1) := by decide +kernel
theorem dX7_restore_25 : decode (am_b mX7_restore) 25 = .ok (.invokevirtual 86, 3) := by decide +kernel
theorem dX7_restore_28 : decode (am_b mX7_restore) 28 = .ok (.iconst 0, 1) := by decide +kernel
theorem dX7_restore_29 : decode (am_b mX7_restore) 29 = .ok (.istore_n 2, 1) := by decide +kernel
theorem dX7_restore_30 : decode (am_b mX7_restore) 30 = .ok (.iload_n 2, 1) := by decide +kernel
theorem dX7_restore_31 : decode (am_b mX7_restore) 31 = .ok (.bipush 60, 2) := by decide +kernel
theorem dX7_restore_33 : decode (am_b mX7_restore) 33 = .ok (.if_icmp .ge 26, 3) := by decide +kernel
theorem dX7_restore_36 : decode (am_b mX7_restore) 36 = .ok (.aload_n 0, 1) := by decide +kernel
theorem dX7_restore_37 : decode (am_b mX7_restore) 37 = .ok (.getfield 7, 3) := by decide +kernel
theorem dX7_restore_40 : decode (am_b mX7_restore) 40 = .ok (.iload_n 2, 1) := by decide +kernel
theorem dX7_restore_41 : decode (am_b mX7_restore) 41 = .ok (.aload_n 0, 1) := by decide +kernel
theorem dX7_restore_42 : decode (am_b mX7_restore) 42 = .ok (.getfield 16, 3) := by decide +kernel
theorem dX7_restore_45 : decode (am_b mX7_restore) 45 = .ok (.bipush 60, 2) := by decide +kernel
theorem dX7_restore_47 : decode (am_b mX7_restore) 47 = .ok (.iload_n 1, 1) := by decide +kernel
theorem dX7_restore_48 : decode (am_b mX7_restore) 48 = .ok (.imul, 1) := by decide +kernel
theorem dX7_restore_49 : decode (am_b mX7_restore) 49 = .ok (.iload_n 2, 1) := by decide +kernel
theorem dX7_restore_50 : decode (am_b mX7_restore) 50 = .ok (.iadd, 1) := by decide +kernel
theorem dX7_restore_51 : decode (am_b mX7_restore) 51 = .ok (.iaload, 1) := by decide +kernel
theorem dX7_restore_52 : decode (am_b mX7_restore) 52 = .ok (.iastore, 1) := by decide +kernel
theorem dX7_restore_53 : decode (am_b mX7_restore) 53 = .ok (.iinc 2 1, 3) := by decide +kernel
theorem dX7_restore_56 : decode (am_b mX7_restore) 56 = .ok (.goto (-26), 3) := by decide +kernel
theorem dX7_restore_59 : decode (am_b mX7_restore) 59 = .ok (.aload_n 0, 1) := by decide +kernel
theorem dX7_restore_60 : decode (am_b mX7_restore) 60 = .ok (.getfield 7, 3) := by decide +kernel
theorem dX7_restore_63 : decode (am_b mX7_restore) 63 = .ok (.bipush 7, 2) := by decide +kernel
theorem dX7_restore_65 : decode (am_b mX7_restore) 65 = .ok (.iaload, 1) := by decide +kernel
theorem dX7_restore_66 : decode (am_b mX7_restore) 66 = .ok (.ireturn, 1) := by decide +kernel
theorem dX7_save_0 : decode (am_b mX7_save) 0 = .ok (.iload_n 1, 1) := by decide +kernel
theorem dX7_save_1 : decode (am_b mX7_save) 1 = .ok (.iconst 0, 1) := by decide +kernel
theorem dX7_save_2 : decode (am_b mX7_save) 2 = .ok (.iconst 1, 1) := by decide +kernel
theorem dX7_save_3 : decode (am_b mX7_save) 3 = .ok (.invokestatic 32, 3) := by decide +kernel
theorem dX7_save_6 : decode (am_b mX7_save) 6 = .ok (.ifCond .ne 6, 3) := by decide +kernel
theorem dX7_save_9 : decode (am_b mX7_save) 9 = .ok (.bipush (-2), 2) := by decide +kernel
theorem dX7_save_11 : decode (am_b mX7_save) 11 = .ok (.ireturn, 1) := by decide +kernel
theorem dX7_save_12 : decode (am_b mX7_save) 12 = .ok (.iconst 0, 1) := by decide +kernel
theorem dX7_save_13 : decode (am_b mX7_save) 13 = .ok (.istore_n 2, 1) := by decide +kernel
theorem dX7_save_14 : decode (am_b mX7_save) 14 = .ok (.iload_n 2, 1) := by decide +kernel
theorem dX7_save_15 : decode (am_b mX7_save) 15 = .ok (.bipush 60, 2) := by decide +kernel
theorem dX7_save_17 : decode (am_b mX7_save) 17 = .ok (.if_icmp .ge 26, 3) := by decide +kernel
theorem dX7_save_20 : decode (am_b mX7_save) 20 = .ok (.aload_n 0, 1) := by decide +kernel
theorem dX7_save_21 : decode (am_b mX7_save) 21 = .ok (.getfield 16, 3) := by decide +kernel
theorem dX7_save_24 : decode (am_b mX7_save) 24 = .ok (.bipush 60, 2) := by decide +kernel
theorem dX7_save_26 : decode (am_b mX7_save) 26 = .ok (.iload_n 1, 1) := by decide +kernel
theorem dX7_save_27 : decode (am_b mX7_save) 27 = .ok (.imul, 1) := by decide +kernel
theorem dX7_save_28 : decode (am_b mX7_save) 28 = .ok (.iload_n 2, 1) := by decide +kernel
theorem dX7_save_29 : decode (am_b mX7_save) 29 = .ok (.iadd, 1) := by decide +kernel
theorem dX7_save_30 : decode (am_b mX7_save) 30 = .ok (.aload_n 0, 1) := by decide +kernel
theorem dX7_save_31 : decode (am_b mX7_save) 31 = .ok (.getfield 7, 3) := by decide +kernel
theorem dX7_save_34 : decode (am_b mX7_save) 34 = .ok (.iload_n 2, 1) := by decide +kernel
theorem dX7_save_35 : decode (am_b mX7_save) 35 = .ok (.iaload, 1) := by decide +kernel
theorem dX7_save_36 : decode (am_b mX7_save) 36 = .ok (.iastore, 1) := by decide +kernel
theorem dX7_save_37 : decode (am_b mX7_save) 37 = .ok (.iinc 2 1, 3) := by decide +kernel
theorem dX7_save_40 : decode (am_b mX7_save) 40 = .ok (.goto (-26), 3) := by decide +kernel
theorem dX7_save_43 : decode (am_b mX7_save) 43 = .ok (.aload_n 0, 1) := by decide +kernel
theorem dX7_save_44 : decode (am_b mX7_save) 44 = .ok (.getfield 19, 3) := by decide +kernel
theorem dX7_save_47 : decode (am_b mX7_save) 47 = .ok (.iload_n 1, 1) := by decide +kernel
theorem dX7_save_48 : decode (am_b mX7_save) 48 = .ok (.iconst 1, 1) := by decide +kernel
theorem dX7_save_49 : decode (am_b mX7_save) 49 = .ok (.bastore, 1) := by decide +kernel
theorem dX7_save_50 : decode (am_b mX7_save) 50 = .ok (.aload_n 0, 1) := by decide +kernel
theorem dX7_save_51 : decode (am_b mX7_save) 51 = .ok (.getfield 7, 3) := by decide +kernel
theorem dX7_save_54 : decode (am_b mX7_save) 54 = .ok (.bipush 7, 2) := by decide +kernel
theorem dX7_save_56 : decode (am_b mX7_save) 56 = .ok (.iaload, 1) := by decide +kernel
theorem dX7_save_57 : decode (am_b mX7_save) 57 = .ok (.ireturn, 1) := by decide +kernel
theorem dX7_set_0 : decode (am_b mX7_set) 0 = .ok (.iload_n 1, 1) := by decide +kernel
theorem dX7_set_1 : decode (am_b mX7_set) 1 = .ok (.iconst 0, 1) := by decide +kernel
theorem dX7_set_2 : decode (am_b mX7_set) 2 = .ok (.iconst 5, 1) := by decide +kernel
theorem dX7_set_3 : decode (am_b mX7_set) 3 = .ok (.invokestatic 32, 3) := by decide +kernel
theorem dX7_set_6 : decode (am_b mX7_set) 6 = .ok (.ifCond .eq 15, 3) := by decide +kernel
theorem dX7_set_9 : decode (am_b mX7_set) 9 = .ok (.iload_n 2, 1) := by decide +kernel
theorem dX7_set_10 : decode (am_b mX7_set) 10 = .ok (.iconst 0, 1) := by decide +kernel
theorem dX7_set_11 : decode (am_b mX7_set) 11 = .ok (.iload_n 1, 1) := by decide +kernel
theorem dX7_set_12 : decode (am_b mX7_set) 12 = .ok (.invokestatic 83, 3) := by decide +kernel
theorem dX7_set_15 : decode (am_b mX7_set) 15 = .ok (.invokestatic 32, 3) := by decide +kernel
theorem dX7_set_18 : decode (am_b mX7_set) 18 = .ok (.ifCond .ne 6, 3) := by decide +kernel
theorem dX7_set_21 : decode (am_b mX7_set) 21 = .ok (.bipush (-2), 2) := by decide +kernel
theorem dX7_set_23 : decode (am_b mX7_set) 23 = .ok (.ireturn, 1) := by decide +kernel
theorem dX7_set_24 : decode (am_b mX7_set) 24 = .ok (.aload_n 0, 1) := by decide +kernel
theorem dX7_set_25 : decode (am_b mX7_set) 25 = .ok (.invokevirtual 86, 3) := by decide +kernel
theorem dX7_set_28 : decode (am_b mX7_set) 28 = .ok (.aload_n 0, 1) := by decide +kernel
theorem dX7_set_29 : decode (am_b mX7_set) 29 = .ok (.getfield 7, 3) := by decide +kernel
theorem dX7_set_32 : decode (am_b mX7_set) 32 = .ok (.iload_n 1, 1) := by decide +kernel
theorem dX7_set_33 : decode (am_b mX7_set) 33 = .ok (.iaload, 1) := by decide +kernel
theorem dX7_set_34 : decode (am_b mX7_set) 34 = .ok (.istore_n 3, 1) := by decide +kernel
theorem dX7_set_35 : decode (am_b mX7_set) 35 = .ok (.aload_n 0, 1) := by decide +kernel
theorem dX7_set_36 : decode (am_b mX7_set) 36 = .ok (.getfield 7, 3) := by decide +kernel
theorem dX7_set_39 : decode (am_b mX7_set) 39 = .ok (.iload_n 1, 1) := by decide +kernel
theorem dX7_set_40 : decode (am_b mX7_set) 40 = .ok (.iload_n 2, 1) := by decide +kernel
theorem dX7_set_41 : decode (am_b mX7_set) 41 = .ok (.iastore, 1) := by decide +kernel
theorem dX7_set_42 : decode (am_b mX7_set) 42 = .ok (.iload_n 3, 1) := by decide +kernel
theorem dX7_set_43 : decode (am_b mX7_set) 43 = .ok (.ireturn, 1) := by decide +kernel
theorem dX7_shuffle_0 : decode (am_b mX7_shuffle) 0 = .ok (.iload_n 1, 1) := by decide +kernel
theorem dX7_shuffle_1 : decode (am_b mX7_shuffle) 1 = .ok (.ifCond .ge 6, 3) := by decide +kernel
theorem dX7_shuffle_4 : decode (am_b mX7_shuffle) 4 = .ok (.bipush (-2), 2) := by decide +kernel
theorem dX7_shuffle_6 : decode (am_b mX7_shuffle) 6 = .ok (.ireturn, 1) := by decide +kernel
theorem dX7_shuffle_7 : decode (am_b mX7_shuffle) 7 = .ok (.aload_n 0, 1) := by decide +kernel
theorem dX7_shuffle_8 : decode (am_b mX7_shuffle) 8 = .ok (.invokevirtual 86, 3) := by decide +kernel
theorem dX7_shuffle_11 : decode (am_b mX7_shuffle) 11 = .ok (.aload_n 0, 1) := by decide +kernel
theorem dX7_shuffle_12 : decode (am_b mX7_shuffle) 12 = .ok (.getfield 7, 3) := by decide +kernel
theorem dX7_shuffle_15 : decode (am_b mX7_shuffle) 15 = .ok (.bipush 6, 2) := by decide +kernel
theorem dX7_shuffle_17 : decode (am_b mX7_shuffle) 17 = .ok (.iaload, 1) := by decide +kernel
theorem dX7_shuffle_18 : decode (am_b mX7_shuffle) 18 = .ok (.istore_n 2, 1) := by decide +kernel
theorem dX7_shuffle_19 : decode (am_b mX7_shuffle) 19 = .ok (.aload_n 0, 1) := by decide +kernel
theorem dX7_shuffle_20 : decode (am_b mX7_shuffle) 20 = .ok (.getfield 7, 3) := by decide +kernel
theorem dX7_shuffle_23 : decode (am_b mX7_shuffle) 23 = .ok (.bipush 6, 2) := by decide +kernel
theorem dX7_shuffle_25 : decode (am_b mX7_shuffle) 25 = .ok (.iload_n 1, 1) := by decide +kernel
theorem dX7_shuffle_26 : decode (am_b mX7_shuffle) 26 = .ok (.iastore, 1) := by decide +kernel
theorem dX7_shuffle_27 : decode (am_b mX7_shuffle) 27 = .ok (.iload_n 2, 1) := by decide +kernel
theorem dX7_shuffle_28 : decode (am_b mX7_shuffle) 28 = .ok (.ireturn, 1) := by decide +kernel
theorem dX7_come_0 : decode (am_b mX7_come) 0 = .ok (.iload_n 1, 1) := by decide +kernel
theorem dX7_come_1 : decode (am_b mX7_come) 1 = .ok (.iconst 1, 1) := by decide +kernel
theorem dX7_come_2 : decode (am_b mX7_come) 2 = .ok (.bipush 9, 2) := by decide +kernel
theorem dX7_come_4 : decode (am_b mX7_come) 4 = .ok (.invokestatic 32, 3) := by decide +kernel
theorem dX7_come_7 : decode (am_b mX7_come) 7 = .ok (.ifCond .ne 6, 3) := by decide +kernel
theorem dX7_come_10 : decode (am_b mX7_come) 10 = .ok (.bipush (-2), 2) := by decide +kernel
theorem dX7_come_12 : decode (am_b mX7_come) 12 = .ok (.ireturn, 1) := by decide +kernel
theorem dX7_come_13 : decode (am_b mX7_come) 13 = .ok (.aload_n 0, 1) := by decide +kernel
theorem dX7_come_14 : decode (am_b mX7_come) 14 = .ok (.getfield 7, 3) := by decide +kernel
theorem dX7_come_17 : decode (am_b mX7_come) 17 = .ok (.bipush 7, 2) := by decide +kernel
theorem dX7_come_19 : decode (am_b mX7_come) 19 = .ok (.iaload, 1) := by decide +kernel
theorem dX7_come_20 : decode (am_b mX7_come) 20 = .ok (.bipush 8, 2) := by decide +kernel
theorem dX7_come_22 : decode (am_b mX7_come) 22 = .ok (.if_icmp .ne 6, 3) := by decide +kernel
theorem dX7_come_25 : decode (am_b mX7_come) 25 = .ok (.bipush (-4), 2) := by decide +kernel
theorem dX7_come_27 : decode (am_b mX7_come) 27 = .ok (.ireturn, 1) := by decide +kernel
theorem dX7_come_28 : decode (am_b mX7_come) 28 = .ok (.aload_n 0, 1) := by decide +kernel
theorem dX7_come_29 : decode (am_b mX7_come) 29 = .ok (.invokevirtual 86, 3) := by decide +kernel
theorem dX7_come_32 : decode (am_b mX7_come) 32 = .ok (.aload_n 0, 1) := by decide +kernel
theorem dX7_come_33 : decode (am_b mX7_come) 33 = .ok (.iload_n 1, 1) := by decide +kernel
theorem dX7_come_34 : decode (am_b mX7_come) 34 = .ok (.iconst (-1), 1) := by decide +kernel
theorem dX7_come_35 : decode (am_b mX7_come) 35 = .ok (.invokevirtual 97, 3) := by decide +kernel
theorem dX7_come_38 : decode (am_b mX7_come) 38 = .ok (.aload_n 0, 1) := by decide +kernel
theorem dX7_come_39 : decode (am_b mX7_come) 39 = .ok (.getfield 7, 3) := by decide +kernel
theorem dX7_come_42 : decode (am_b mX7_come) 42 = .ok (.bipush 7, 2) := by decide +kernel
theorem dX7_come_44 : decode (am_b mX7_come) 44 = .ok (.iaload, 1) := by decide +kernel
theorem dX7_come_45 : decode (am_b mX7_come) 45 = .ok (.iconst 1, 1) := by decide +kernel
theorem dX7_come_46 : decode (am_b mX7_come) 46 = .ok (.isub, 1) := by decide +kernel
theorem dX7_come_47 : decode (am_b mX7_come) 47 = .ok (.ireturn, 1) := by decide +kernel
theorem dX7_go_0 : decode (am_b mX7_go) 0 = .ok (.aload_n 0, 1) := by decide +kernel
theorem dX7_go_1 : decode (am_b mX7_go) 1 = .ok (.iload_n 1, 1) := by decide +kernel
theorem dX7_go_2 : decode (am_b mX7_go) 2 = .ok (.invokevirtual 100, 3) := by decide +kernel
theorem dX7_go_5 : decode (am_b mX7_go) 5 = .ok (.ifCond .ne 5, 3) := by decide +kernel
theorem dX7_go_8 : decode (am_b mX7_go) 8 = .ok (.iconst (-1), 1) := by decide +kernel
theorem dX7_go_9 : decode (am_b mX7_go) 9 = .ok (.ireturn, 1) := by decide +kernel
theorem dX7_go_10 : decode (am_b mX7_go) 10 = .ok (.aload_n 0, 1) := by decide +kernel
theorem dX7_go_11 : decode (am_b mX7_go) 11 = .ok (.invokevirtual 86, 3) := by decide +kernel
theorem dX7_go_14 : decode (am_b mX7_go) 14 = .ok (.aload_n 0, 1) := by decide +kernel
theorem dX7_go_15 : decode (am_b mX7_go) 15 = .ok (.iload_n 1, 1) := by decide +kernel
theorem dX7_go_16 : decode (am_b mX7_go) 16 = .ok (.iconst 2, 1) := by decide +kernel
theorem dX7_go_17 : decode (am_b mX7_go) 17 = .ok (.invokevirtual 103, 3) := by decide +kernel
theorem dX7_go_20 : decode (am_b mX7_go) 20 = .ok (.istore_n 2, 1) := by decide +kernel
theorem dX7_go_21 : decode (am_b mX7_go) 21 = .ok (.aload_n 0, 1) := by decide +kernel
theorem dX7_go_22 : decode (am_b mX7_go) 22 = .ok (.getfield 7, 3) := by decide +kernel
theorem dX7_go_25 : decode (am_b mX7_go) 25 = .ok (.bipush 7, 2) := by decide +kernel
theorem dX7_go_27 : decode (am_b mX7_go) 27 = .ok (.dup2, 1) := by decide +kernel
theorem dX7_go_28 : decode (am_b mX7_go) 28 = .ok (.iaload, 1) := by decide +kernel
theorem dX7_go_29 : decode (am_b mX7_go) 29 = .ok (.iconst 1, 1) := by decide +kernel
theorem dX7_go_30 : decode (am_b mX7_go) 30 = .ok (.isub, 1) := by decide +kernel
theorem dX7_go_31 : decode (am_b mX7_go) 31 = .ok (.iastore, 1) := by decide +kernel
theorem dX7_go_32 : decode (am_b mX7_go) 32 = .ok (.iconst 0, 1) := by decide +kernel
theorem dX7_go_33 : decode (am_b mX7_go) 33 = .ok (.iload_n 1, 1) := by decide +kernel
theorem dX7_go_34 : decode (am_b mX7_go) 34 = .ok (.invokestatic 36, 3) := by decide +kernel
theorem dX7_go_37 : decode (am_b mX7_go) 37 = .ok (.istore_n 3, 1) := by decide +kernel
theorem dX7_go_38 : decode (am_b mX7_go) 38 = .ok (.iload_n 3, 1) := by decide +kernel
theorem dX7_go_39 : decode (am_b mX7_go) 39 = .ok (.iconst 0, 1) := by decide +kernel
theorem dX7_go_40 : decode (am_b mX7_go) 40 = .ok (.aload_n 0, 1) := by decide +kernel
theorem dX7_go_41 : decode (am_b mX7_go) 41 = .ok (.getfield 7, 3) := by decide +kernel
theorem dX7_go_44 : decode (am_b mX7_go) 44 = .ok (.bipush 7, 2) := by decide +kernel
theorem dX7_go_46 : decode (am_b mX7_go) 46 = .ok (.iaload, 1) := by decide +kernel
theorem dX7_go_47 : decode (am_b mX7_go) 47 = .ok (.invokestatic 36, 3) := by decide +kernel
theorem dX7_go_50 : decode (am_b mX7_go) 50 = .ok (.if_icmp .ge 23, 3) := by decide +kernel
theorem dX7_go_53 : decode (am_b mX7_go) 53 = .ok (.aload_n 0, 1) := by decide +kernel
theorem dX7_go_54 : decode (am_b mX7_go) 54 = .ok (.getfield 7, 3) := by decide +kernel
theorem dX7_go_57 : decode (am_b mX7_go) 57 = .ok (.iload_n 3, 1) := by decide +kernel
theorem dX7_go_58 : decode (am_b mX7_go) 58 = .ok (.aload_n 0, 1) := by decide +kernel
theorem dX7_go_59 : decode (am_b mX7_go) 59 = .ok (.getfield 7, 3) := by decide +kernel
theorem dX7_go_62 : decode (am_b mX7_go) 62 = .ok (.iload_n 3, 1) := by decide +kernel
theorem dX7_go_63 : decode (am_b mX7_go) 63 = .ok (.iconst 5, 1) := by decide +kernel
theorem dX7_go_64 : decode (am_b mX7_go) 64 = .ok (.iadd, 1) := by decide +kernel
theorem dX7_go_65 : decode (am_b mX7_go) 65 = .ok (.iaload, 1) := by decide +kernel
theorem dX7_go_66 : decode (am_b mX7_go) 66 = .ok (.iastore, 1) := by decide +kernel
theorem dX7_go_67 : decode (am_b mX7_go) 67 = .ok (.iinc 3 1, 3) := by decide +kernel
theorem dX7_go_70 : decode (am_b mX7_go) 70 = .ok (.goto (-32), 3) := by decide +kernel
theorem dX7_go_73 : decode (am_b mX7_go) 73 = .ok (.bipush 12, 2) := by decide +kernel
theorem dX7_go_75 : decode (am_b mX7_go) 75 = .ok (.istore_n 3, 1) := by decide +kernel
theorem dX7_go_76 : decode (am_b mX7_go) 76 = .ok (.iload_n 3, 1) := by decide +kernel
theorem dX7_go_77 : decode (am_b mX7_go) 77 = .ok (.bipush 20, 2) := by decide +kernel
theorem dX7_go_79 : decode (am_b mX7_go) 79 = .ok (.if_icmp .ge 56, 3) := by decide +kernel
theorem dX7_go_82 : decode (am_b mX7_go) 82 = .ok (.aload_n 0, 1) := by decide +kernel
theorem dX7_go_83 : decode (am_b mX7_go) 83 = .ok (.getfield 7, 3) := by decide +kernel
theorem dX7_go_86 : decode (am_b mX7_go) 86 = .ok (.iload_n 3, 1) := by decide +kernel
theorem dX7_go_87 : decode (am_b mX7_go) 87 = .ok (.aload_n 0, 1) := by decide +kernel
theorem dX7_go_88 : decode (am_b mX7_go) 88 = .ok (.getfield 7, 3) := by decide +kernel
theorem dX7_go_91 : decode (am_b mX7_go) 91 = .ok (.iload_n 3, 1) := by decide +kernel
theorem dX7_go_92 : decode (am_b mX7_go) 92 = .ok (.iaload, 1) := by decide +kernel
theorem dX7_go_93 : decode (am_b mX7_go) 93 = .ok (.iload_n 1, 1) := by decide +kernel
theorem dX7_go_94 : decode (am_b mX7_go) 94 = .ok (.if_icmp .ne 7, 3) := by decide +kernel
theorem dX7_go_97 : decode (am_b mX7_go) 97 = .ok (.iconst (-1), 1) := by decide +kernel
theorem dX7_go_98 : decode (am_b mX7_go) 98 = .ok (.goto 30, 3) := by decide +kernel
theorem dX7_go_101 : decode (am_b mX7_go) 101 = .ok (.aload_n 0, 1) := by decide +kernel
theorem dX7_go_102 : decode (am_b mX7_go) 102 = .ok (.getfield 7, 3) := by decide +kernel
theorem dX7_go_105 : decode (am_b mX7_go) 105 = .ok (.iload_n 3, 1) := by decide +kernel
theorem dX7_go_106 : decode (am_b mX7_go) 106 = .ok (.iaload, 1) := by decide +kernel
theorem dX7_go_107 : decode (am_b mX7_go) 107 = .ok (.iload_n 1, 1) := by decide +kernel
theorem dX7_go_108 : decode (am_b mX7_go) 108 = .ok (.if_icmp .le 14, 3) := by decide +kernel
theorem dX7_go_111 : decode (am_b mX7_go) 111 = .ok (.aload_n 0, 1) := by decide +kernel
theorem dX7_go_112 : decode (am_b mX7_go) 112 = .ok (.getfield 7, 3) := by decide +kernel
theorem dX7_go_115 : decode (am_b mX7_go) 115 = .ok (.iload_n 3, 1) := by decide +kernel
theorem dX7_go_116 : decode (am_b mX7_go) 116 = .ok (.iaload, 1) := by decide +kernel
theorem dX7_go_117 : decode (am_b mX7_go) 117 = .ok (.iconst 1, 1) := by decide +kernel
theorem dX7_go_118 : decode (am_b mX7_go) 118 = .ok (.isub, 1) := by decide +kernel
theorem dX7_go_119 : decode (am_b mX7_go) 119 = .ok (.goto 9, 3) := by decide +kernel
theorem dX7_go_122 : decode (am_b mX7_go) 122 = .ok (.aload_n 0, 1) := by decide +kernel
theorem dX7_go_123 : decode (am_b mX7_go) 123 = .ok (.getfield 7, 3) := by decide +kernel
theorem dX7_go_126 : decode (am_b mX7_go) 126 = .ok (.iload_n 3, 1) := by decide +kernel
theorem dX7_go_127 : decode (am_b mX7_go) 127 = .ok (.iaload, 1) := by decide +kernel
theorem dX7_go_128 : decode (am_b mX7_go) 128 = .ok (.iastore, 1) := by decide +kernel
theorem dX7_go_129 : decode (am_b mX7_go) 129 = .ok (.iinc 3 1, 3) := by decide +kernel
theorem dX7_go_132 : decode (am_b mX7_go) 132 = .ok (.goto (-56), 3) := by decide +kernel
theorem dX7_go_135 : decode (am_b mX7_go) 135 = .ok (.iload_n 2, 1) := by decide +kernel
theorem dX7_go_136 : decode (am_b mX7_go) 136 = .ok (.ireturn, 1) := by decide +kernel
theorem dX7_goes_0 : decode (am_b mX7_goes) 0 = .ok (.aload_n 0, 1) := by decide +kernel
theorem dX7_goes_1 : decode (am_b mX7_goes) 1 = .ok (.getfield 7, 3) := by decide +kernel
theorem dX7_goes_4 : decode (am_b mX7_goes) 4 = .ok (.iload_n 1, 1) := by decide +kernel
theorem dX7_goes_5 : decode (am_b mX7_goes) 5 = .ok (.iload_n 2, 1) := by decide +kernel
theorem dX7_goes_6 : decode (am_b mX7_goes) 6 = .ok (.ifCond .ne 7, 3) := by decide +kernel
theorem dX7_goes_9 : decode (am_b mX7_goes) 9 = .ok (.iconst 0, 1) := by decide +kernel
theorem dX7_goes_10 : decode (am_b mX7_goes) 10 = .ok (.goto 4, 3) := by decide +kernel
theorem dX7_goes_13 : decode (am_b mX7_goes) 13 = .ok (.iconst 1, 1) := by decide +kernel
theorem dX7_goes_14 : decode (am_b mX7_goes) 14 = .ok (.iadd, 1) := by decide +kernel
theorem dX7_goes_15 : decode (am_b mX7_goes) 15 = .ok (.iaload, 1) := by decide +kernel
theorem dX7_goes_16 : decode (am_b mX7_goes) 16 = .ok (.istore_n 3, 1) := by decide +kernel
theorem dX7_goes_17 : decode (am_b mX7_goes) 17 = .ok (.iconst 0, 1) := by decide +kernel
theorem dX7_goes_18 : decode (am_b mX7_goes) 18 = .ok (.istore 4, 2) := by decide +kernel
theorem dX7_goes_20 : decode (am_b mX7_goes) 20 = .ok (.iconst 0, 1) := by decide +kernel
theorem dX7_goes_21 : decode (am_b mX7_goes) 21 = .ok (.istore 5, 2) := by decide +kernel
theorem dX7_goes_23 : decode (am_b mX7_goes) 23 = .ok (.iload 5, 2) := by decide +kernel
theorem dX7_goes_25 : decode (am_b mX7_goes) 25 = .ok (.bipush 12, 2) := by decide +kernel
theorem dX7_goes_27 : decode (am_b mX7_goes) 27 = .ok (.if_icmp .ge 105, 3) := by decide +kernel
theorem dX7_goes_30 : decode (am_b mX7_goes) 30 = .ok (.aload_n 0, 1) := by decide +kernel
theorem dX7_goes_31 : decode (am_b mX7_goes) 31 = .ok (.iload_n 1, 1) := by decide +kernel
theorem dX7_goes_32 : decode (am_b mX7_goes) 32 = .ok (.iload_n 2, 1) := by decide +kernel
theorem dX7_goes_33 : decode (am_b mX7_goes) 33 = .ok (.ifCond .ne 8, 3) := by decide +kernel
theorem dX7_goes_36 : decode (am_b mX7_goes) 36 = .ok (.iload 5, 2) := by decide +kernel
theorem dX7_goes_38 : decode (am_b mX7_goes) 38 = .ok (.goto 8, 3) := by decide +kernel
theorem dX7_goes_41 : decode (am_b mX7_goes) 41 = .ok (.bipush 11, 2) := by decide +kernel
theorem dX7_goes_43 : decode (am_b mX7_goes) 43 = .ok (.iload 5, 2) := by decide +kernel
theorem dX7_goes_45 : decode (am_b mX7_goes) 45 = .ok (.isub, 1) := by decide +kernel
theorem dX7_goes_46 : decode (am_b mX7_goes) 46 = .ok (.invokevirtual 44, 3) := by decide +kernel
theorem dX7_goes_49 : decode (am_b mX7_goes) 49 = .ok (.istore 6, 2) := by decide +kernel
theorem dX7_goes_51 : decode (am_b mX7_goes) 51 = .ok (.iload 6, 2) := by decide +kernel
theorem dX7_goes_53 : decode (am_b mX7_goes) 53 = .ok (.bipush (-6), 2) := by decide +kernel
theorem dX7_goes_55 : decode (am_b mX7_goes) 55 = .ok (.if_icmp .ne 7, 3) := by decide +kernel
theorem dX7_goes_58 : decode (am_b mX7_goes) 58 = .ok (.iconst 0, 1) := by decide +kernel
theorem dX7_goes_59 : decode (am_b mX7_goes) 59 = .ok (.goto 16, 3) := by decide +kernel
theorem dX7_goes_62 : decode (am_b mX7_goes) 62 = .ok (.aload_n 0, 1) := by decide +kernel
theorem dX7_goes_63 : decode (am_b mX7_goes) 63 = .ok (.getfield 7, 3) := by decide +kernel
theorem dX7_goes_66 : decode (am_b mX7_goes) 66 = .ok (.iload_n 1, 1) := by decide +kernel
theorem dX7_goes_67 : decode (am_b mX7_goes) 67 = .ok (.iload 6, 2) := by decide +kernel
theorem dX7_goes_69 : decode (am_b mX7_goes) 69 = .ok (.invokestatic 36, 3) := by decide +kernel
theorem dX7_goes_72 : decode (am_b mX7_goes) 72 = .ok (.iconst 0, 1) := by decide +kernel
theorem dX7_goes_73 : decode (am_b mX7_goes) 73 = .ok (.iadd, 1) := by decide +kernel
theorem dX7_goes_74 : decode (am_b mX7_goes) 74 = .ok (.iaload, 1) := by decide +kernel
theorem dX7_goes_75 : decode (am_b mX7_goes) 75 = .ok (.istore 7, 2) := by decide +kernel
theorem dX7_goes_77 : decode (am_b mX7_goes) 77 = .ok (.iload 7, 2) := by decide +kernel
theorem dX7_goes_79 : decode (am_b mX7_goes) 79 = .ok (.iload 4, 2) := by decide +kernel
theorem dX7_goes_81 : decode (am_b mX7_goes) 81 = .ok (.if_icmp .le 45, 3) := by decide +kernel
theorem dX7_goes_84 : decode (am_b mX7_goes) 84 = .ok (.iload 7, 2) := by decide +kernel
theorem dX7_goes_86 : decode (am_b mX7_goes) 86 = .ok (.istore 4, 2) := by decide +kernel
theorem dX7_goes_88 : decode (am_b mX7_goes) 88 = .ok (.aload_n 0, 1) := by decide +kernel
theorem dX7_goes_89 : decode (am_b mX7_goes) 89 = .ok (.getfield 26, 3) := by decide +kernel
theorem dX7_goes_92 : decode (am_b mX7_goes) 92 = .ok (.iconst 2, 1) := by decide +kernel
theorem dX7_goes_93 : decode (am_b mX7_goes) 93 = .ok (.iload 6, 2) := by decide +kernel
theorem dX7_goes_95 : decode (am_b mX7_goes) 95 = .ok (.imul, 1) := by decide +kernel
theorem dX7_goes_96 : decode (am_b mX7_goes) 96 = .ok (.iload_n 2, 1) := by decide +kernel
theorem dX7_goes_97 : decode (am_b mX7_goes) 97 = .ok (.iadd, 1) := by decide +kernel
theorem dX7_goes_98 : decode (am_b mX7_goes) 98 = .ok (.iload_n 3, 1) := by decide +kernel
theorem dX7_goes_99 : decode (am_b mX7_goes) 99 = .ok (.aload_n 0, 1) := by decide +kernel
theorem dX7_goes_100 : decode (am_b mX7_goes) 100 = .ok (.getfield 7, 3) := by decide +kernel
theorem dX7_goes_103 : decode (am_b mX7_goes) 103 = .ok (.iload_n 1, 1) := by decide +kernel
theorem dX7_goes_104 : decode (am_b mX7_goes) 104 = .ok (.iconst 2, 1) := by decide +kernel
theorem dX7_goes_105 : decode (am_b mX7_goes) 105 = .ok (.iadd, 1) := by decide +kernel
theorem dX7_goes_106 : decode (am_b mX7_goes) 106 = .ok (.iaload, 1) := by decide +kernel
theorem dX7_goes_107 : decode (am_b mX7_goes) 107 = .ok (.imul, 1) := by decide +kernel
theorem dX7_goes_108 : decode (am_b mX7_goes) 108 = .ok (.bipush 100, 2) := by decide +kernel
theorem dX7_goes_110 : decode (am_b mX7_goes) 110 = .ok (.idiv, 1) := by decide +kernel
theorem dX7_goes_111 : decode (am_b mX7_goes) 111 = .ok (.iastore, 1) := by decide +kernel
theorem dX7_goes_112 : decode (am_b mX7_goes) 112 = .ok (.iload_n 3, 1) := by decide +kernel
theorem dX7_goes_113 : decode (am_b mX7_goes) 113 = .ok (.aload_n 0, 1) := by decide +kernel
theorem dX7_goes_114 : decode (am_b mX7_goes) 114 = .ok (.getfield 26, 3) := by decide +kernel
theorem dX7_goes_117 : decode (am_b mX7_goes) 117 = .ok (.iconst 2, 1) := by decide +kernel
theorem dX7_goes_118 : decode (am_b mX7_goes) 118 = .ok (.iload 6, 2) := by decide +kernel
theorem dX7_goes_120 : decode (am_b mX7_goes) 120 = .ok (.imul, 1) := by decide +kernel
theorem dX7_goes_121 : decode (am_b mX7_goes) 121 = .ok (.iload_n 2, 1) := by decide +kernel
theorem dX7_goes_122 : decode (am_b mX7_goes) 122 = .ok (.iadd, 1) := by decide +kernel
theorem dX7_goes_123 : decode (am_b mX7_goes) 123 = .ok (.iaload, 1) := by decide +kernel
theorem dX7_goes_124 : decode (am_b mX7_goes) 124 = .ok (.isub, 1) := by decide +kernel
theorem dX7_goes_125 : decode (am_b mX7_goes) 125 = .ok (.istore_n 3, 1) := by decide +kernel
theorem dX7_goes_126 : decode (am_b mX7_goes) 126 = .ok (.iinc 5 1, 3) := by decide +kernel
theorem dX7_goes_129 : decode (am_b mX7_goes) 129 = .ok (.goto (-106), 3) := by decide +kernel
theorem dX7_goes_132 : decode (am_b mX7_goes) 132 = .ok (.iload_n 3, 1) := by decide +kernel
theorem dX7_goes_133 : decode (am_b mX7_goes) 133 = .ok (.ireturn, 1) := by decide +kernel
theorem dX7_height_0 : decode (am_b mX7_height) 0 = .ok (.aload_n 0, 1) := by decide +kernel
theorem dX7_height_1 : decode (am_b mX7_height) 1 = .ok (.iload_n 1, 1) := by decide +kernel
theorem dX7_height_2 : decode (am_b mX7_height) 2 = .ok (.invokevirtual 100, 3) := by decide +kernel
theorem dX7_height_5 : decode (am_b mX7_height) 5 = .ok (.ifCond .ne 5, 3) := by decide +kernel
theorem dX7_height_8 : decode (am_b mX7_height) 8 = .ok (.iconst (-1), 1) := by decide +kernel
theorem dX7_height_9 : decode (am_b mX7_height) 9 = .ok (.ireturn, 1) := by decide +kernel
theorem dX7_height_10 : decode (am_b mX7_height) 10 = .ok (.iload_n 2, 1) := by decide +kernel
theorem dX7_height_11 : decode (am_b mX7_height) 11 = .ok (.iconst 1, 1) := by decide +kernel
theorem dX7_height_12 : decode (am_b mX7_height) 12 = .ok (.bipush 9, 2) := by decide +kernel
theorem dX7_height_14 : decode (am_b mX7_height) 14 = .ok (.invokestatic 32, 3) := by decide +kernel
theorem dX7_height_17 : decode (am_b mX7_height) 17 = .ok (.ifCond .ne 6, 3) := by decide +kernel
theorem dX7_height_20 : decode (am_b mX7_height) 20 = .ok (.bipush (-2), 2) := by decide +kernel
theorem dX7_height_22 : decode (am_b mX7_height) 22 = .ok (.ireturn, 1) := by decide +kernel
theorem dX7_height_23 : decode (am_b mX7_height) 23 = .ok (.aload_n 0, 1) := by decide +kernel
theorem dX7_height_24 : decode (am_b mX7_height) 24 = .ok (.invokevirtual 86, 3) := by decide +kernel
theorem dX7_height_27 : decode (am_b mX7_height) 27 = .ok (.aload_n 0, 1) := by decide +kernel
theorem dX7_height_28 : decode (am_b mX7_height) 28 = .ok (.iload_n 1, 1) := by decide +kernel
theorem dX7_height_29 : decode (am_b mX7_height) 29 = .ok (.iconst 0, 1) := by decide +kernel
theorem dX7_height_30 : decode (am_b mX7_height) 30 = .ok (.invokevirtual 103, 3) := by decide +kernel
theorem dX7_height_33 : decode (am_b mX7_height) 33 = .ok (.istore_n 3, 1) := by decide +kernel
theorem dX7_height_34 : decode (am_b mX7_height) 34 = .ok (.aload_n 0, 1) := by decide +kernel
theorem dX7_height_35 : decode (am_b mX7_height) 35 = .ok (.getfield 7, 3) := by decide +kernel
theorem dX7_height_38 : decode (am_b mX7_height) 38 = .ok (.iconst 0, 1) := by decide +kernel
theorem dX7_height_39 : decode (am_b mX7_height) 39 = .ok (.iload_n 1, 1) := by decide +kernel
theorem dX7_height_40 : decode (am_b mX7_height) 40 = .ok (.invokestatic 36, 3) := by decide +kernel
theorem dX7_height_43 : decode (am_b mX7_height) 43 = .ok (.iconst 0, 1) := by decide +kernel
theorem dX7_height_44 : decode (am_b mX7_height) 44 = .ok (.iadd, 1) := by decide +kernel
theorem dX7_height_45 : decode (am_b mX7_height) 45 = .ok (.iload_n 2, 1) := by decide +kernel
theorem dX7_height_46 : decode (am_b mX7_height) 46 = .ok (.iastore, 1) := by decide +kernel
theorem dX7_height_47 : decode (am_b mX7_height) 47 = .ok (.iload_n 3, 1) := by decide +kernel
theorem dX7_height_48 : decode (am_b mX7_height) 48 = .ok (.ireturn, 1) := by decide +kernel
theorem dX7_hides_0 : decode (am_b mX7_hides) 0 = .ok (.aload_n 0, 1) := by decide +kernel
theorem dX7_hides_1 : decode (am_b mX7_hides) 1 = .ok (.iload_n 1, 1) := by decide +kernel
theorem dX7_hides_2 : decode (am_b mX7_hides) 2 = .ok (.iconst 1, 1) := by decide +kernel
theorem dX7_hides_3 : decode (am_b mX7_hides) 3 = .ok (.invokevirtual 103, 3) := by decide +kernel
theorem dX7_hides_6 : decode (am_b mX7_hides) 6 = .ok (.istore 4, 2) := by decide +kernel
theorem dX7_hides_8 : decode (am_b mX7_hides) 8 = .ok (.iload_n 3, 1) := by decide +kernel
theorem dX7_hides_9 : decode (am_b mX7_hides) 9 = .ok (.ifCond .ne 22, 3) := by decide +kernel
theorem dX7_hides_12 : decode (am_b mX7_hides) 12 = .ok (.iload 4, 2) := by decide +kernel
theorem dX7_hides_14 : decode (am_b mX7_hides) 14 = .ok (.aload_n 0, 1) := by decide +kernel
theorem dX7_hides_15 : decode (am_b mX7_hides) 15 = .ok (.iload_n 2, 1) := by decide +kernel
theorem dX7_hides_16 : decode (am_b mX7_hides) 16 = .ok (.iconst 1, 1) := by decide +kernel
theorem dX7_hides_17 : decode (am_b mX7_hides) 17 = .ok (.invokevirtual 103, 3) := by decide +kernel
theorem dX7_hides_20 : decode (am_b mX7_hides) 20 = .ok (.if_icmp .ge 7, 3) := by decide +kernel
theorem dX7_hides_23 : decode (am_b mX7_hides) 23 = .ok (.iconst 1, 1) := by decide +kernel
theorem dX7_hides_24 : decode (am_b mX7_hides) 24 = .ok (.goto 23, 3) := by decide +kernel
theorem dX7_hides_27 : decode (am_b mX7_hides) 27 = .ok (.iconst 0, 1) := by decide +kernel
theorem dX7_hides_28 : decode (am_b mX7_hides) 28 = .ok (.goto 19, 3) := by decide +kernel
theorem dX7_hides_31 : decode (am_b mX7_hides) 31 = .ok (.iload 4, 2) := by decide +kernel
theorem dX7_hides_33 : decode (am_b mX7_hides) 33 = .ok (.aload_n 0, 1) := by decide +kernel
theorem dX7_hides_34 : decode (am_b mX7_hides) 34 = .ok (.iload_n 2, 1) := by decide +kernel
theorem dX7_hides_35 : decode (am_b mX7_hides) 35 = .ok (.iconst 1, 1) := by decide +kernel
theorem dX7_hides_36 : decode (am_b mX7_hides) 36 = .ok (.invokevirtual 103, 3) := by decide +kernel
theorem dX7_hides_39 : decode (am_b mX7_hides) 39 = .ok (.if_icmp .le 7, 3) := by decide +kernel
theorem dX7_hides_42 : decode (am_b mX7_hides) 42 = .ok (.iconst 1, 1) := by decide +kernel
theorem dX7_hides_43 : decode (am_b mX7_hides) 43 = .ok (.goto 4, 3) := by decide +kernel
theorem dX7_hides_46 : decode (am_b mX7_hides) 46 = .ok (.iconst 0, 1) := by decide +kernel
theorem dX7_hides_47 : decode (am_b mX7_hides) 47 = .ok (.istore 5, 2) := by decide +kernel
theorem dX7_hides_49 : decode (am_b mX7_hides) 49 = .ok (.iload 4, 2) := by decide +kernel
theorem dX7_hides_51 : decode (am_b mX7_hides) 51 = .ok (.ifCond .lt 27, 3) := by decide +kernel
theorem dX7_hides_54 : decode (am_b mX7_hides) 54 = .ok (.iload 5, 2) := by decide +kernel
theorem dX7_hides_56 : decode (am_b mX7_hides) 56 = .ok (.ifCond .eq 22, 3) := by decide +kernel
theorem dX7_hides_59 : decode (am_b mX7_hides) 59 = .ok (.aload_n 0, 1) := by decide +kernel
theorem dX7_hides_60 : decode (am_b mX7_hides) 60 = .ok (.iload_n 1, 1) := by decide +kernel
theorem dX7_hides_61 : decode (am_b mX7_hides) 61 = .ok (.iconst 0, 1) := by decide +kernel
theorem dX7_hides_62 : decode (am_b mX7_hides) 62 = .ok (.invokevirtual 103, 3) := by decide +kernel
theorem dX7_hides_65 : decode (am_b mX7_hides) 65 = .ok (.aload_n 0, 1) := by decide +kernel
theorem dX7_hides_66 : decode (am_b mX7_hides) 66 = .ok (.iload_n 2, 1) := by decide +kernel
theorem dX7_hides_67 : decode (am_b mX7_hides) 67 = .ok (.iconst 0, 1) := by decide +kernel
theorem dX7_hides_68 : decode (am_b mX7_hides) 68 = .ok (.invokevirtual 103, 3) := by decide +kernel
theorem dX7_hides_71 : decode (am_b mX7_hides) 71 = .ok (.if_icmp .lt 7, 3) := by decide +kernel
theorem dX7_hides_74 : decode (am_b mX7_hides) 74 = .ok (.iconst 1, 1) := by decide +kernel
theorem dX7_hides_75 : decode (am_b mX7_hides) 75 = .ok (.goto 4, 3) := by decide +kernel
theorem dX7_hides_78 : decode (am_b mX7_hides) 78 = .ok (.iconst 0, 1) := by decide +kernel
theorem dX7_hides_79 : decode (am_b mX7_hides) 79 = .ok (.ireturn, 1) := by decide +kernel
theorem dX7_highest_0 : decode (am_b mX7_highest) 0 = .ok (.iconst 0, 1) := by decide +kernel
theorem dX7_highest_1 : decode (am_b mX7_highest) 1 = .ok (.istore_n 3, 1) := by decide +kernel
theorem dX7_highest_2 : decode (am_b mX7_highest) 2 = .ok (.iload_n 2, 1) := by decide +kernel
theorem dX7_highest_3 : decode (am_b mX7_highest) 3 = .ok (.ifCond .ne 7, 3) := by decide +kernel
theorem dX7_highest_6 : decode (am_b mX7_highest) 6 = .ok (.iconst 0, 1) := by decide +kernel
theorem dX7_highest_7 : decode (am_b mX7_highest) 7 = .ok (.goto 5, 3) := by decide +kernel
theorem dX7_highest_10 : decode (am_b mX7_highest) 10 = .ok (.bipush 11, 2) := by decide +kernel
theorem dX7_highest_12 : decode (am_b mX7_highest) 12 = .ok (.istore 4, 2) := by decide +kernel
theorem dX7_highest_14 : decode (am_b mX7_highest) 14 = .ok (.iload 4, 2) := by decide +kernel
theorem dX7_highest_16 : decode (am_b mX7_highest) 16 = .ok (.aload_n 0, 1) := by decide +kernel
theorem dX7_highest_17 : decode (am_b mX7_highest) 17 = .ok (.iload_n 1, 1) := by decide +kernel
theorem dX7_highest_18 : decode (am_b mX7_highest) 18 = .ok (.iconst 1, 1) := by decide +kernel
theorem dX7_highest_19 : decode (am_b mX7_highest) 19 = .ok (.invokevirtual 103, 3) := by decide +kernel
theorem dX7_highest_22 : decode (am_b mX7_highest) 22 = .ok (.if_icmp .eq 62, 3) := by decide +kernel
theorem dX7_highest_25 : decode (am_b mX7_highest) 25 = .ok (.aload_n 0, 1) := by decide +kernel
theorem dX7_highest_26 : decode (am_b mX7_highest) 26 = .ok (.iconst 0, 1) := by decide +kernel
theorem dX7_highest_27 : decode (am_b mX7_highest) 27 = .ok (.iload 4, 2) := by decide +kernel
theorem dX7_highest_29 : decode (am_b mX7_highest) 29 = .ok (.invokevirtual 44, 3) := by decide +kernel
theorem dX7_highest_32 : decode (am_b mX7_highest) 32 = .ok (.istore 5, 2) := by decide +kernel
theorem dX7_highest_34 : decode (am_b mX7_highest) 34 = .ok (.iload 5, 2) := by decide +kernel
theorem dX7_highest_36 : decode (am_b mX7_highest) 36 = .ok (.bipush (-6), 2) := by decide +kernel
theorem dX7_highest_38 : decode (am_b mX7_highest) 38 = .ok (.if_icmp .ne 7, 3) := by decide +kernel
theorem dX7_highest_41 : decode (am_b mX7_highest) 41 = .ok (.iconst 0, 1) := by decide +kernel
theorem dX7_highest_42 : decode (am_b mX7_highest) 42 = .ok (.goto 10, 3) := by decide +kernel
theorem dX7_highest_45 : decode (am_b mX7_highest) 45 = .ok (.aload_n 0, 1) := by decide +kernel
theorem dX7_highest_46 : decode (am_b mX7_highest) 46 = .ok (.iload 5, 2) := by decide +kernel
theorem dX7_highest_48 : decode (am_b mX7_highest) 48 = .ok (.iconst 0, 1) := by decide +kernel
theorem dX7_highest_49 : decode (am_b mX7_highest) 49 = .ok (.invokevirtual 103, 3) := by decide +kernel
theorem dX7_highest_52 : decode (am_b mX7_highest) 52 = .ok (.istore 6, 2) := by decide +kernel
theorem dX7_highest_54 : decode (am_b mX7_highest) 54 = .ok (.iload 6, 2) := by decide +kernel
theorem dX7_highest_56 : decode (am_b mX7_highest) 56 = .ok (.iload_n 3, 1) := by decide +kernel
theorem dX7_highest_57 : decode (am_b mX7_highest) 57 = .ok (.if_icmp .le 8, 3) := by decide +kernel
theorem dX7_highest_60 : decode (am_b mX7_highest) 60 = .ok (.iload 6, 2) := by decide +kernel
theorem dX7_highest_62 : decode (am_b mX7_highest) 62 = .ok (.goto 4, 3) := by decide +kernel
theorem dX7_highest_65 : decode (am_b mX7_highest) 65 = .ok (.iload_n 3, 1) := by decide +kernel
theorem dX7_highest_66 : decode (am_b mX7_highest) 66 = .ok (.istore_n 3, 1) := by decide +kernel
theorem dX7_highest_67 : decode (am_b mX7_highest) 67 = .ok (.iload 4, 2) := by decide +kernel
theorem dX7_highest_69 : decode (am_b mX7_highest) 69 = .ok (.iload_n 2, 1) := by decide +kernel
theorem dX7_highest_70 : decode (am_b mX7_highest) 70 = .ok (.ifCond .ne 7, 3) := by decide +kernel
theorem dX7_highest_73 : decode (am_b mX7_highest) 73 = .ok (.iconst 1, 1) := by decide +kernel
theorem dX7_highest_74 : decode (am_b mX7_highest) 74 = .ok (.goto 4, 3) := by decide +kernel
theorem dX7_highest_77 : decode (am_b mX7_highest) 77 = .ok (.iconst (-1), 1) := by decide +kernel
theorem dX7_highest_78 : decode (am_b mX7_highest) 78 = .ok (.iadd, 1) := by decide +kernel
theorem dX7_highest_79 : decode (am_b mX7_highest) 79 = .ok (.istore 4, 2) := by decide +kernel
theorem dX7_highest_81 : decode (am_b mX7_highest) 81 = .ok (.goto (-67), 3) := by decide +kernel
theorem dX7_highest_84 : decode (am_b mX7_highest) 84 = .ok (.iload_n 3, 1) := by decide +kernel
theorem dX7_highest_85 : decode (am_b mX7_highest) 85 = .ok (.ireturn, 1) := by decide +kernel
theorem dX7_isOthers_0 : decode (am_b mX7_isOthers) 0 = .ok (.aload_n 0, 1) := by decide +kernel
theorem dX7_isOthers_1 : decode (am_b mX7_isOthers) 1 = .ok (.iconst 0, 1) := by decide +kernel
theorem dX7_isOthers_2 : decode (am_b mX7_isOthers) 2 = .ok (.iload_n 2, 1) := by decide +kernel
theorem dX7_isOthers_3 : decode (am_b mX7_isOthers) 3 = .ok (.invokevirtual 44, 3) := by decide +kernel
theorem dX7_isOthers_6 : decode (am_b mX7_isOthers) 6 = .ok (.istore_n 3, 1) := by decide +kernel
theorem dX7_isOthers_7 : decode (am_b mX7_isOthers) 7 = .ok (.iload_n 3, 1) := by decide +kernel
theorem dX7_isOthers_8 : decode (am_b mX7_isOthers) 8 = .ok (.bipush (-6), 2) := by decide +kernel
theorem dX7_isOthers_10 : decode (am_b mX7_isOthers) 10 = .ok (.if_icmp .eq 12, 3) := by decide +kernel
theorem dX7_isOthers_13 : decode (am_b mX7_isOthers) 13 = .ok (.iload_n 3, 1) := by decide +kernel
theorem dX7_isOthers_14 : decode (am_b mX7_isOthers) 14 = .ok (.iload_n 1, 1) := by decide +kernel
theorem dX7_isOthers_15 : decode (am_b mX7_isOthers) 15 = .ok (.if_icmp .eq 7, 3) := by decide +kernel
theorem dX7_isOthers_18 : decode (am_b mX7_isOthers) 18 = .ok (.iconst 1, 1) := by decide +kernel
theorem dX7_isOthers_19 : decode (am_b mX7_isOthers) 19 = .ok (.goto 4, 3) := by decide +kernel
theorem dX7_isOthers_22 : decode (am_b mX7_isOthers) 22 = .ok (.iconst 0, 1) := by decide +kernel
theorem dX7_isOthers_23 : decode (am_b mX7_isOthers) 23 = .ok (.ireturn, 1) := by decide +kernel
theorem dX7_partEnd_0 : decode (am_b mX7_partEnd) 0 = .ok (.aload_n 0, 1) := by decide +kernel
theorem dX7_partEnd_1 : decode (am_b mX7_partEnd) 1 = .ok (.iload_n 1, 1) := by decide +kernel
theorem dX7_partEnd_2 : decode (am_b mX7_partEnd) 2 = .ok (.invokevirtual 141, 3) := by decide +kernel
theorem dX7_partEnd_5 : decode (am_b mX7_partEnd) 5 = .ok (.iconst 1, 1) := by decide +kernel
theorem dX7_partEnd_6 : decode (am_b mX7_partEnd) 6 = .ok (.if_icmp .ge 7, 3) := by decide +kernel
theorem dX7_partEnd_9 : decode (am_b mX7_partEnd) 9 = .ok (.iconst (-1), 1) := by decide +kernel
theorem dX7_partEnd_10 : decode (am_b mX7_partEnd) 10 = .ok (.iload_n 1, 1) := by decide +kernel
theorem dX7_partEnd_11 : decode (am_b mX7_partEnd) 11 = .ok (.isub, 1) := by decide +kernel
theorem dX7_partEnd_12 : decode (am_b mX7_partEnd) 12 = .ok (.ireturn, 1) := by decide +kernel
theorem dX7_partEnd_13 : decode (am_b mX7_partEnd) 13 = .ok (.aload_n 0, 1) := by decide +kernel
theorem dX7_partEnd_14 : decode (am_b mX7_partEnd) 14 = .ok (.iload_n 1, 1) := by decide +kernel
theorem dX7_partEnd_15 : decode (am_b mX7_partEnd) 15 = .ok (.iconst 1, 1) := by decide +kernel
theorem dX7_partEnd_16 : decode (am_b mX7_partEnd) 16 = .ok (.iadd, 1) := by decide +kernel
theorem dX7_partEnd_17 : decode (am_b mX7_partEnd) 17 = .ok (.invokevirtual 138, 3) := by decide +kernel
theorem dX7_partEnd_20 : decode (am_b mX7_partEnd) 20 = .ok (.bipush 64, 2) := by decide +kernel
theorem dX7_partEnd_22 : decode (am_b mX7_partEnd) 22 = .ok (.if_icmp .eq 7, 3) := by decide +kernel
theorem dX7_partEnd_25 : decode (am_b mX7_partEnd) 25 = .ok (.iload_n 1, 1) := by decide +kernel
theorem dX7_partEnd_26 : decode (am_b mX7_partEnd) 26 = .ok (.iconst 1, 1) := by decide +kernel
theorem dX7_partEnd_27 : decode (am_b mX7_partEnd) 27 = .ok (.iadd, 1) := by decide +kernel
theorem dX7_partEnd_28 : decode (am_b mX7_partEnd) 28 = .ok (.ireturn, 1) := by decide +kernel
theorem dX7_partEnd_29 : decode (am_b mX7_partEnd) 29 = .ok (.aload_n 0, 1) := by decide +kernel
theorem dX7_partEnd_30 : decode (am_b mX7_partEnd) 30 = .ok (.iload_n 1, 1) := by decide +kernel
theorem dX7_partEnd_31 : decode (am_b mX7_partEnd) 31 = .ok (.iconst 2, 1) := by decide +kernel
theorem dX7_partEnd_32 : decode (am_b mX7_partEnd) 32 = .ok (.iadd, 1) := by decide +kernel
theorem dX7_partEnd_33 : decode (am_b mX7_partEnd) 33 = .ok (.invokevirtual 141, 3) := by decide +kernel
theorem dX7_partEnd_36 : decode (am_b mX7_partEnd) 36 = .ok (.ifCond .ge 8, 3) := by decide +kernel
theorem dX7_partEnd_39 : decode (am_b mX7_partEnd) 39 = .ok (.bipush (-3), 2) := by decide +kernel
theorem dX7_partEnd_41 : decode (am_b mX7_partEnd) 41 = .ok (.iload_n 1, 1) := by decide +kernel
theorem dX7_partEnd_42 : decode (am_b mX7_partEnd) 42 = .ok (.isub, 1) := by decide +kernel
theorem dX7_partEnd_43 : decode (am_b mX7_partEnd) 43 = .ok (.ireturn, 1) := by decide +kernel
theorem dX7_partEnd_44 : decode (am_b mX7_partEnd) 44 = .ok (.aload_n 0, 1) := by decide +kernel
theorem dX7_partEnd_45 : decode (am_b mX7_partEnd) 45 = .ok (.iload_n 1, 1) := by decide +kernel
theorem dX7_partEnd_46 : decode (am_b mX7_partEnd) 46 = .ok (.iconst 2, 1) := by decide +kernel
theorem dX7_partEnd_47 : decode (am_b mX7_partEnd) 47 = .ok (.iadd, 1) := by decide +kernel
theorem dX7_partEnd_48 : decode (am_b mX7_partEnd) 48 = .ok (.invokevirtual 141, 3) := by decide +kernel
theorem dX7_partEnd_51 : decode (am_b mX7_partEnd) 51 = .ok (.iconst 1, 1) := by decide +kernel
theorem dX7_partEnd_52 : decode (am_b mX7_partEnd) 52 = .ok (.if_icmp .ne 24, 3) := by decide +kernel
theorem dX7_partEnd_55 : decode (am_b mX7_partEnd) 55 = .ok (.aload_n 0, 1) := by decide +kernel
theorem dX7_partEnd_56 : decode (am_b mX7_partEnd) 56 = .ok (.iload_n 1, 1) := by decide +kernel
theorem dX7_partEnd_57 : decode (am_b mX7_partEnd) 57 = .ok (.iconst 3, 1) := by decide +kernel
theorem dX7_partEnd_58 : decode (am_b mX7_partEnd) 58 = .ok (.iadd, 1) := by decide +kernel
theorem dX7_partEnd_59 : decode (am_b mX7_partEnd) 59 = .ok (.invokevirtual 141, 3) := by decide +kernel
theorem dX7_partEnd_62 : decode (am_b mX7_partEnd) 62 = .ok (.iconst 0, 1) := by decide +kernel
theorem dX7_partEnd_63 : decode (am_b mX7_partEnd) 63 = .ok (.iconst 1, 1) := by decide +kernel
theorem dX7_partEnd_64 : decode (am_b mX7_partEnd) 64 = .ok (.invokestatic 32, 3) := by decide +kernel
theorem dX7_partEnd_67 : decode (am_b mX7_partEnd) 67 = .ok (.ifCond .eq 9, 3) := by decide +kernel
theorem dX7_partEnd_70 : decode (am_b mX7_partEnd) 70 = .ok (.iload_n 1, 1) := by decide +kernel
theorem dX7_partEnd_71 : decode (am_b mX7_partEnd) 71 = .ok (.iconst 4, 1) := by decide +kernel
theorem dX7_partEnd_72 : decode (am_b mX7_partEnd) 72 = .ok (.iadd, 1) := by decide +kernel
theorem dX7_partEnd_73 : decode (am_b mX7_partEnd) 73 = .ok (.goto 6, 3) := by decide +kernel
theorem dX7_partEnd_76 : decode (am_b mX7_partEnd) 76 = .ok (.iload_n 1, 1) := by decide +kernel
theorem dX7_partEnd_77 : decode (am_b mX7_partEnd) 77 = .ok (.iconst 3, 1) := by decide +kernel
theorem dX7_partEnd_78 : decode (am_b mX7_partEnd) 78 = .ok (.iadd, 1) := by decide +kernel
theorem dX7_partEnd_79 : decode (am_b mX7_partEnd) 79 = .ok (.ireturn, 1) := by decide +kernel
theorem dX7_pitch_0 : decode (am_b mX7_pitch) 0 = .ok (.iload_n 1, 1) := by decide +kernel
theorem dX7_pitch_1 : decode (am_b mX7_pitch) 1 = .ok (.invokestatic 89, 3) := by decide +kernel
theorem dX7_pitch_4 : decode (am_b mX7_pitch) 4 = .ok (.ifCond .ne 5, 3) := by decide +kernel
theorem dX7_pitch_7 : decode (am_b mX7_pitch) 7 = .ok (.iconst (-1), 1) := by decide +kernel
theorem dX7_pitch_8 : decode (am_b mX7_pitch) 8 = .ok (.ireturn, 1) := by decide +kernel
theorem dX7_pitch_9 : decode (am_b mX7_pitch) 9 = .ok (.iload_n 2, 1) := by decide +kernel
theorem dX7_pitch_10 : decode (am_b mX7_pitch) 10 = .ok (.ifCond .ne 17, 3) := by decide +kernel
theorem dX7_pitch_13 : decode (am_b mX7_pitch) 13 = .ok (.aload_n 0, 1) := by decide +kernel
theorem dX7_pitch_14 : decode (am_b mX7_pitch) 14 = .ok (.getfield 7, 3) := by decide +kernel
theorem dX7_pitch_17 : decode (am_b mX7_pitch) 17 = .ok (.bipush 8, 2) := by decide +kernel
theorem dX7_pitch_19 : decode (am_b mX7_pitch) 19 = .ok (.iaload, 1) := by decide +kernel
theorem dX7_pitch_20 : decode (am_b mX7_pitch) 20 = .ok (.iload_n 1, 1) := by decide +kernel
theorem dX7_pitch_21 : decode (am_b mX7_pitch) 21 = .ok (.ishr, 1) := by decide +kernel
theorem dX7_pitch_22 : decode (am_b mX7_pitch) 22 = .ok (.iconst 1, 1) := by decide +kernel
theorem dX7_pitch_23 : decode (am_b mX7_pitch) 23 = .ok (.iand, 1) := by decide +kernel
theorem dX7_pitch_24 : decode (am_b mX7_pitch) 24 = .ok (.goto 41, 3) := by decide +kernel
theorem dX7_pitch_27 : decode (am_b mX7_pitch) 27 = .ok (.iload_n 2, 1) := by decide +kernel
theorem dX7_pitch_28 : decode (am_b mX7_pitch) 28 = .ok (.iconst 1, 1) := by decide +kernel
theorem dX7_pitch_29 : decode (am_b mX7_pitch) 29 = .ok (.if_icmp .ne 12, 3) := by decide +kernel
theorem dX7_pitch_32 : decode (am_b mX7_pitch) 32 = .ok (.aload_n 0, 1) := by decide +kernel
theorem dX7_pitch_33 : decode (am_b mX7_pitch) 33 = .ok (.iconst 0, 1) := by decide +kernel
theorem dX7_pitch_34 : decode (am_b mX7_pitch) 34 = .ok (.iload_n 1, 1) := by decide +kernel
theorem dX7_pitch_35 : decode (am_b mX7_pitch) 35 = .ok (.invokevirtual 44, 3) := by decide +kernel
theorem dX7_pitch_38 : decode (am_b mX7_pitch) 38 = .ok (.goto 27, 3) := by decide +kernel
theorem dX7_pitch_41 : decode (am_b mX7_pitch) 41 = .ok (.iload_n 2, 1) := by decide +kernel
theorem dX7_pitch_42 : decode (am_b mX7_pitch) 42 = .ok (.iconst 2, 1) := by decide +kernel
theorem dX7_pitch_43 : decode (am_b mX7_pitch) 43 = .ok (.if_icmp .ne 20, 3) := by decide +kernel
theorem dX7_pitch_46 : decode (am_b mX7_pitch) 46 = .ok (.aload_n 0, 1) := by decide +kernel
theorem dX7_pitch_47 : decode (am_b mX7_pitch) 47 = .ok (.iconst 0, 1) := by decide +kernel
theorem dX7_pitch_48 : decode (am_b mX7_pitch) 48 = .ok (.iload_n 1, 1) := by decide +kernel
theorem dX7_pitch_49 : decode (am_b mX7_pitch) 49 = .ok (.invokevirtual 67, 3) := by decide +kernel
theorem dX7_pitch_52 : decode (am_b mX7_pitch) 52 = .ok (.ifCond .eq 7, 3) := by decide +kernel
theorem dX7_pitch_55 : decode (am_b mX7_pitch) 55 = .ok (.iconst 1, 1) := by decide +kernel
theorem dX7_pitch_56 : decode (am_b mX7_pitch) 56 = .ok (.goto 9, 3) := by decide +kernel
theorem dX7_pitch_59 : decode (am_b mX7_pitch) 59 = .ok (.iconst 0, 1) := by decide +kernel
theorem dX7_pitch_60 : decode (am_b mX7_pitch) 60 = .ok (.goto 5, 3) := by decide +kernel
theorem dX7_pitch_63 : decode (am_b mX7_pitch) 63 = .ok (.bipush (-2), 2) := by decide +kernel
theorem dX7_pitch_65 : decode (am_b mX7_pitch) 65 = .ok (.ireturn, 1) := by decide +kernel
theorem dX7_roof_0 : decode (am_b mX7_roof) 0 = .ok (.iload_n 1, 1) := by decide +kernel
theorem dX7_roof_1 : decode (am_b mX7_roof) 1 = .ok (.invokestatic 89, 3) := by decide +kernel
theorem dX7_roof_4 : decode (am_b mX7_roof) 4 = .ok (.ifCond .ne 5, 3) := by decide +kernel
theorem dX7_roof_7 : decode (am_b mX7_roof) 7 = .ok (.iconst (-1), 1) := by decide +kernel
theorem dX7_roof_8 : decode (am_b mX7_roof) 8 = .ok (.ireturn, 1) := by decide +kernel
theorem dX7_roof_9 : decode (am_b mX7_roof) 9 = .ok (.aload_n 0, 1) := by decide +kernel
theorem dX7_roof_10 : decode (am_b mX7_roof) 10 = .ok (.getfield 7, 3) := by decide +kernel
theorem dX7_roof_13 : decode (am_b mX7_roof) 13 = .ok (.bipush 8, 2) := by decide +kernel
theorem dX7_roof_15 : decode (am_b mX7_roof) 15 = .ok (.iaload, 1) := by decide +kernel
theorem dX7_roof_16 : decode (am_b mX7_roof) 16 = .ok (.iload_n 1, 1) := by decide +kernel
theorem dX7_roof_17 : decode (am_b mX7_roof) 17 = .ok (.ishr, 1) := by decide +kernel
theorem dX7_roof_18 : decode (am_b mX7_roof) 18 = .ok (.iconst 1, 1) := by decide +kernel
theorem dX7_roof_19 : decode (am_b mX7_roof) 19 = .ok (.iand, 1) := by decide +kernel
theorem dX7_roof_20 : decode (am_b mX7_roof) 20 = .ok (.iload_n 2, 1) := by decide +kernel
theorem dX7_roof_21 : decode (am_b mX7_roof) 21 = .ok (.ifCond .eq 7, 3) := by decide +kernel
theorem dX7_roof_24 : decode (am_b mX7_roof) 24 = .ok (.iconst 1, 1) := by decide +kernel
theorem dX7_roof_25 : decode (am_b mX7_roof) 25 = .ok (.goto 4, 3) := by decide +kernel
theorem dX7_roof_28 : decode (am_b mX7_roof) 28 = .ok (.iconst 0, 1) := by decide +kernel
theorem dX7_roof_29 : decode (am_b mX7_roof) 29 = .ok (.if_icmp .ne 6, 3) := by decide +kernel
theorem dX7_roof_32 : decode (am_b mX7_roof) 32 = .ok (.bipush (-5), 2) := by decide +kernel
theorem dX7_roof_34 : decode (am_b mX7_roof) 34 = .ok (.ireturn, 1) := by decide +kernel
theorem dX7_roof_35 : decode (am_b mX7_roof) 35 = .ok (.aload_n 0, 1) := by decide +kernel
theorem dX7_roof_36 : decode (am_b mX7_roof) 36 = .ok (.invokevirtual 86, 3) := by decide +kernel
theorem dX7_roof_39 : decode (am_b mX7_roof) 39 = .ok (.aload_n 0, 1) := by decide +kernel
theorem dX7_roof_40 : decode (am_b mX7_roof) 40 = .ok (.getfield 7, 3) := by decide +kernel
theorem dX7_roof_43 : decode (am_b mX7_roof) 43 = .ok (.bipush 8, 2) := by decide +kernel
theorem dX7_roof_45 : decode (am_b mX7_roof) 45 = .ok (.dup2, 1) := by decide +kernel
theorem dX7_roof_46 : decode (am_b mX7_roof) 46 = .ok (.iaload, 1) := by decide +kernel
theorem dX7_roof_47 : decode (am_b mX7_roof) 47 = .ok (.iconst 1, 1) := by decide +kernel
theorem dX7_roof_48 : decode (am_b mX7_roof) 48 = .ok (.iload_n 1, 1) := by decide +kernel
theorem dX7_roof_49 : decode (am_b mX7_roof) 49 = .ok (.ishl, 1) := by decide +kernel
theorem dX7_roof_50 : decode (am_b mX7_roof) 50 = .ok (.ixor, 1) := by decide +kernel
theorem dX7_roof_51 : decode (am_b mX7_roof) 51 = .ok (.iastore, 1) := by decide +kernel
theorem dX7_roof_52 : decode (am_b mX7_roof) 52 = .ok (.aload_n 0, 1) := by decide +kernel
theorem dX7_roof_53 : decode (am_b mX7_roof) 53 = .ok (.invokevirtual 93, 3) := by decide +kernel
theorem dX7_roof_56 : decode (am_b mX7_roof) 56 = .ok (.ireturn, 1) := by decide +kernel
theorem dX7_standing_0 : decode (am_b mX7_standing) 0 = .ok (.iconst 0, 1) := by decide +kernel
theorem dX7_standing_1 : decode (am_b mX7_standing) 1 = .ok (.istore_n 1, 1) := by decide +kernel
theorem dX7_standing_2 : decode (am_b mX7_standing) 2 = .ok (.iconst 0, 1) := by decide +kernel
theorem dX7_standing_3 : decode (am_b mX7_standing) 3 = .ok (.istore_n 2, 1) := by decide +kernel
theorem dX7_standing_4 : decode (am_b mX7_standing) 4 = .ok (.iload_n 2, 1) := by decide +kernel
theorem dX7_standing_5 : decode (am_b mX7_standing) 5 = .ok (.aload_n 0, 1) := by decide +kernel
theorem dX7_standing_6 : decode (am_b mX7_standing) 6 = .ok (.getfield 7, 3) := by decide +kernel
theorem dX7_standing_9 : decode (am_b mX7_standing) 9 = .ok (.bipush 7, 2) := by decide +kernel
theorem dX7_standing_11 : decode (am_b mX7_standing) 11 = .ok (.iaload, 1) := by decide +kernel
theorem dX7_standing_12 : decode (am_b mX7_standing) 12 = .ok (.if_icmp .ge 26, 3) := by decide +kernel
theorem dX7_standing_15 : decode (am_b mX7_standing) 15 = .ok (.iload_n 1, 1) := by decide +kernel
theorem dX7_standing_16 : decode (am_b mX7_standing) 16 = .ok (.aload_n 0, 1) := by decide +kernel
theorem dX7_standing_17 : decode (am_b mX7_standing) 17 = .ok (.iload_n 2, 1) := by decide +kernel
theorem dX7_standing_18 : decode (am_b mX7_standing) 18 = .ok (.iconst 1, 1) := by decide +kernel
theorem dX7_standing_19 : decode (am_b mX7_standing) 19 = .ok (.invokevirtual 103, 3) := by decide +kernel
theorem dX7_standing_22 : decode (am_b mX7_standing) 22 = .ok (.ifCond .lt 7, 3) := by decide +kernel
theorem dX7_standing_25 : decode (am_b mX7_standing) 25 = .ok (.iconst 1, 1) := by decide +kernel
theorem dX7_standing_26 : decode (am_b mX7_standing) 26 = .ok (.goto 4, 3) := by decide +kernel
theorem dX7_standing_29 : decode (am_b mX7_standing) 29 = .ok (.iconst 0, 1) := by decide +kernel
theorem dX7_standing_30 : decode (am_b mX7_standing) 30 = .ok (.iadd, 1) := by decide +kernel
theorem dX7_standing_31 : decode (am_b mX7_standing) 31 = .ok (.istore_n 1, 1) := by decide +kernel
theorem dX7_standing_32 : decode (am_b mX7_standing) 32 = .ok (.iinc 2 1, 3) := by decide +kernel
theorem dX7_standing_35 : decode (am_b mX7_standing) 35 = .ok (.goto (-31), 3) := by decide +kernel
theorem dX7_standing_38 : decode (am_b mX7_standing) 38 = .ok (.iload_n 1, 1) := by decide +kernel
theorem dX7_standing_39 : decode (am_b mX7_standing) 39 = .ok (.ireturn, 1) := by decide +kernel
theorem dX7_crowds_0 : decode (am_b mX7_crowds) 0 = .ok (.iconst 0, 1) := by decide +kernel
theorem dX7_crowds_1 : decode (am_b mX7_crowds) 1 = .ok (.istore_n 2, 1) := by decide +kernel
theorem dX7_crowds_2 : decode (am_b mX7_crowds) 2 = .ok (.iload_n 2, 1) := by decide +kernel
theorem dX7_crowds_3 : decode (am_b mX7_crowds) 3 = .ok (.bipush 16, 2) := by decide +kernel
theorem dX7_crowds_5 : decode (am_b mX7_crowds) 5 = .ok (.if_icmp .ge 16, 3) := by decide +kernel
theorem dX7_crowds_8 : decode (am_b mX7_crowds) 8 = .ok (.aload_n 0, 1) := by decide +kernel
theorem dX7_crowds_9 : decode (am_b mX7_crowds) 9 = .ok (.getfield 26, 3) := by decide +kernel
theorem dX7_crowds_12 : decode (am_b mX7_crowds) 12 = .ok (.iload_n 2, 1) := by decide +kernel
theorem dX7_crowds_13 : decode (am_b mX7_crowds) 13 = .ok (.iconst 0, 1) := by decide +kernel
theorem dX7_crowds_14 : decode (am_b mX7_crowds) 14 = .ok (.iastore, 1) := by decide +kernel
theorem dX7_crowds_15 : decode (am_b mX7_crowds) 15 = .ok (.iinc 2 1, 3) := by decide +kernel
theorem dX7_crowds_18 : decode (am_b mX7_crowds) 18 = .ok (.goto (-16), 3) := by decide +kernel
theorem dX7_crowds_21 : decode (am_b mX7_crowds) 21 = .ok (.aload_n 0, 1) := by decide +kernel
theorem dX7_crowds_22 : decode (am_b mX7_crowds) 22 = .ok (.iload_n 1, 1) := by decide +kernel
theorem dX7_crowds_23 : decode (am_b mX7_crowds) 23 = .ok (.iconst 0, 1) := by decide +kernel
theorem dX7_crowds_24 : decode (am_b mX7_crowds) 24 = .ok (.invokevirtual 47, 3) := by decide +kernel
theorem dX7_crowds_27 : decode (am_b mX7_crowds) 27 = .ok (.istore_n 2, 1) := by decide +kernel
theorem dX7_crowds_28 : decode (am_b mX7_crowds) 28 = .ok (.iload_n 2, 1) := by decide +kernel
theorem dX7_crowds_29 : decode (am_b mX7_crowds) 29 = .ok (.aload_n 0, 1) := by decide +kernel
theorem dX7_crowds_30 : decode (am_b mX7_crowds) 30 = .ok (.iload_n 1, 1) := by decide +kernel
theorem dX7_crowds_31 : decode (am_b mX7_crowds) 31 = .ok (.iconst 1, 1) := by decide +kernel
theorem dX7_crowds_32 : decode (am_b mX7_crowds) 32 = .ok (.invokevirtual 47, 3) := by decide +kernel
theorem dX7_crowds_35 : decode (am_b mX7_crowds) 35 = .ok (.iadd, 1) := by decide +kernel
theorem dX7_crowds_36 : decode (am_b mX7_crowds) 36 = .ok (.ireturn, 1) := by decide +kernel
theorem dX7_fault_0 : decode (am_b mX7_fault) 0 = .ok (.iconst 0, 1) := by decide +kernel
theorem dX7_fault_1 : decode (am_b mX7_fault) 1 = .ok (.istore_n 1, 1) := by decide +kernel
theorem dX7_fault_2 : decode (am_b mX7_fault) 2 = .ok (.iconst 1, 1) := by decide +kernel
theorem dX7_fault_3 : decode (am_b mX7_fault) 3 = .ok (.istore_n 2, 1) := by decide +kernel
theorem dX7_fault_4 : decode (am_b mX7_fault) 4 = .ok (.iload_n 2, 1) := by decide +kernel
theorem dX7_fault_5 : decode (am_b mX7_fault) 5 = .ok (.bipush 8, 2) := by decide +kernel
theorem dX7_fault_7 : decode (am_b mX7_fault) 7 = .ok (.if_icmp .gt 56, 3) := by decide +kernel
theorem dX7_fault_10 : decode (am_b mX7_fault) 10 = .ok (.aload_n 0, 1) := by decide +kernel
theorem dX7_fault_11 : decode (am_b mX7_fault) 11 = .ok (.iload_n 1, 1) := by decide +kernel
theorem dX7_fault_12 : decode (am_b mX7_fault) 12 = .ok (.invokevirtual 144, 3) := by decide +kernel
theorem dX7_fault_15 : decode (am_b mX7_fault) 15 = .ok (.istore_n 3, 1) := by decide +kernel
theorem dX7_fault_16 : decode (am_b mX7_fault) 16 = .ok (.iload_n 3, 1) := by decide +kernel
theorem dX7_fault_17 : decode (am_b mX7_fault) 17 = .ok (.ifCond .ge 7, 3) := by decide +kernel
theorem dX7_fault_20 : decode (am_b mX7_fault) 20 = .ok (.iconst (-1), 1) := by decide +kernel
theorem dX7_fault_21 : decode (am_b mX7_fault) 21 = .ok (.iload_n 3, 1) := by decide +kernel
theorem dX7_fault_22 : decode (am_b mX7_fault) 22 = .ok (.isub, 1) := by decide +kernel
theorem dX7_fault_23 : decode (am_b mX7_fault) 23 = .ok (.ireturn, 1) := by decide +kernel
theorem dX7_fault_24 : decode (am_b mX7_fault) 24 = .ok (.iload_n 3, 1) := by decide +kernel
theorem dX7_fault_25 : decode (am_b mX7_fault) 25 = .ok (.aload_n 0, 1) := by decide +kernel
theorem dX7_fault_26 : decode (am_b mX7_fault) 26 = .ok (.getfield 130, 3) := by decide +kernel
theorem dX7_fault_29 : decode (am_b mX7_fault) 29 = .ok (.if_icmp .ne 6, 3) := by decide +kernel
theorem dX7_fault_32 : decode (am_b mX7_fault) 32 = .ok (.bipush (-6), 2) := by decide +kernel
theorem dX7_fault_34 : decode (am_b mX7_fault) 34 = .ok (.ireturn, 1) := by decide +kernel
theorem dX7_fault_35 : decode (am_b mX7_fault) 35 = .ok (.aload_n 0, 1) := by decide +kernel
theorem dX7_fault_36 : decode (am_b mX7_fault) 36 = .ok (.iload_n 3, 1) := by decide +kernel
theorem dX7_fault_37 : decode (am_b mX7_fault) 37 = .ok (.invokevirtual 138, 3) := by decide +kernel
theorem dX7_fault_40 : decode (am_b mX7_fault) 40 = .ok (.bipush 44, 2) := by decide +kernel
theorem dX7_fault_42 : decode (am_b mX7_fault) 42 = .ok (.if_icmp .ne 9, 3) := by decide +kernel
theorem dX7_fault_45 : decode (am_b mX7_fault) 45 = .ok (.iload_n 2, 1) := by decide +kernel
theorem dX7_fault_46 : decode (am_b mX7_fault) 46 = .ok (.bipush 8, 2) := by decide +kernel
theorem dX7_fault_48 : decode (am_b mX7_fault) 48 = .ok (.if_icmp .ne 5, 3) := by decide +kernel
theorem dX7_fault_51 : decode (am_b mX7_fault) 51 = .ok (.iload_n 3, 1) := by decide +kernel
theorem dX7_fault_52 : decode (am_b mX7_fault) 52 = .ok (.ireturn, 1) := by decide +kernel
theorem dX7_fault_53 : decode (am_b mX7_fault) 53 = .ok (.iload_n 3, 1) := by decide +kernel
theorem dX7_fault_54 : decode (am_b mX7_fault) 54 = .ok (.iconst 1, 1) := by decide +kernel
theorem dX7_fault_55 : decode (am_b mX7_fault) 55 = .ok (.iadd, 1) := by decide +kernel
theorem dX7_fault_56 : decode (am_b mX7_fault) 56 = .ok (.istore_n 1, 1) := by decide +kernel
theorem dX7_fault_57 : decode (am_b mX7_fault) 57 = .ok (.iinc 2 1, 3) := by decide +kernel
theorem dX7_fault_60 : decode (am_b mX7_fault) 60 = .ok (.goto (-56), 3) := by decide +kernel
theorem dX7_fault_63 : decode (am_b mX7_fault) 63 = .ok (.bipush (-6), 2) := by decide +kernel
theorem dX7_fault_65 : decode (am_b mX7_fault) 65 = .ok (.ireturn, 1) := by decide +kernel
theorem dX7_isHidden_0 : decode (am_b mX7_isHidden) 0 = .ok (.iconst 0, 1) := by decide +kernel
theorem dX7_isHidden_1 : decode (am_b mX7_isHidden) 1 = .ok (.istore_n 3, 1) := by decide +kernel
theorem dX7_isHidden_2 : decode (am_b mX7_isHidden) 2 = .ok (.iconst 0, 1) := by decide +kernel
theorem dX7_isHidden_3 : decode (am_b mX7_isHidden) 3 = .ok (.istore 4, 2) := by decide +kernel
theorem dX7_isHidden_5 : decode (am_b mX7_isHidden) 5 = .ok (.iload 4, 2) := by decide +kernel
theorem dX7_isHidden_7 : decode (am_b mX7_isHidden) 7 = .ok (.aload_n 0, 1) := by decide +kernel
theorem dX7_isHidden_8 : decode (am_b mX7_isHidden) 8 = .ok (.getfield 7, 3) := by decide +kernel
theorem dX7_isHidden_11 : decode (am_b mX7_isHidden) 11 = .ok (.bipush 7, 2) := by decide +kernel
theorem dX7_isHidden_13 : decode (am_b mX7_isHidden) 13 = .ok (.iaload, 1) := by decide +kernel
theorem dX7_isHidden_14 : decode (am_b mX7_isHidden) 14 = .ok (.if_icmp .ge 30, 3) := by decide +kernel
theorem dX7_isHidden_17 : decode (am_b mX7_isHidden) 17 = .ok (.iload_n 3, 1) := by decide +kernel
theorem dX7_isHidden_18 : decode (am_b mX7_isHidden) 18 = .ok (.ifCond .ne 14, 3) := by decide +kernel
theorem dX7_isHidden_21 : decode (am_b mX7_isHidden) 21 = .ok (.aload_n 0, 1) := by decide +kernel
theorem dX7_isHidden_22 : decode (am_b mX7_isHidden) 22 = .ok (.iload 4, 2) := by decide +kernel
theorem dX7_isHidden_24 : decode (am_b mX7_isHidden) 24 = .ok (.iload_n 1, 1) := by decide +kernel
theorem dX7_isHidden_25 : decode (am_b mX7_isHidden) 25 = .ok (.iload_n 2, 1) := by decide +kernel
theorem dX7_isHidden_26 : decode (am_b mX7_isHidden) 26 = .ok (.invokevirtual 115, 3) := by decide +kernel
theorem dX7_isHidden_29 : decode (am_b mX7_isHidden) 29 = .ok (.ifCond .eq 7, 3) := by decide +kernel
theorem dX7_isHidden_32 : decode (am_b mX7_isHidden) 32 = .ok (.iconst 1, 1) := by decide +kernel
theorem dX7_isHidden_33 : decode (am_b mX7_isHidden) 33 = .ok (.goto 4, 3) := by decide +kernel
theorem dX7_isHidden_36 : decode (am_b mX7_isHidden) 36 = .ok (.iconst 0, 1) := by decide +kernel
theorem dX7_isHidden_37 : decode (am_b mX7_isHidden) 37 = .ok (.istore_n 3, 1) := by decide +kernel
theorem dX7_isHidden_38 : decode (am_b mX7_isHidden) 38 = .ok (.iinc 4 1, 3) := by decide +kernel
theorem dX7_isHidden_41 : decode (am_b mX7_isHidden) 41 = .ok (.goto (-36), 3) := by decide +kernel
theorem dX7_isHidden_44 : decode (am_b mX7_isHidden) 44 = .ok (.iload_n 3, 1) := by decide +kernel
theorem dX7_isHidden_45 : decode (am_b mX7_isHidden) 45 = .ok (.ireturn, 1) := by decide +kernel
theorem dX7_pitchOf_0 : decode (am_b mX7_pitchOf) 0 = .ok (.aload_n 0, 1) := by decide +kernel
theorem dX7_pitchOf_1 : decode (am_b mX7_pitchOf) 1 = .ok (.iload_n 1, 1) := by decide +kernel
theorem dX7_pitchOf_2 : decode (am_b mX7_pitchOf) 2 = .ok (.invokevirtual 144, 3) := by decide +kernel
theorem dX7_pitchOf_5 : decode (am_b mX7_pitchOf) 5 = .ok (.istore_n 2, 1) := by decide +kernel
theorem dX7_pitchOf_6 : decode (am_b mX7_pitchOf) 6 = .ok (.iload_n 2, 1) := by decide +kernel
theorem dX7_pitchOf_7 : decode (am_b mX7_pitchOf) 7 = .ok (.iload_n 1, 1) := by decide +kernel
theorem dX7_pitchOf_8 : decode (am_b mX7_pitchOf) 8 = .ok (.iconst 1, 1) := by decide +kernel
theorem dX7_pitchOf_9 : decode (am_b mX7_pitchOf) 9 = .ok (.iadd, 1) := by decide +kernel
theorem dX7_pitchOf_10 : decode (am_b mX7_pitchOf) 10 = .ok (.if_icmp .ne 7, 3) := by decide +kernel
theorem dX7_pitchOf_13 : decode (am_b mX7_pitchOf) 13 = .ok (.iconst (-1), 1) := by decide +kernel
theorem dX7_pitchOf_14 : decode (am_b mX7_pitchOf) 14 = .ok (.goto 30, 3) := by decide +kernel
theorem dX7_pitchOf_17 : decode (am_b mX7_pitchOf) 17 = .ok (.iload_n 2, 1) := by decide +kernel
theorem dX7_pitchOf_18 : decode (am_b mX7_pitchOf) 18 = .ok (.iload_n 1, 1) := by decide +kernel
theorem dX7_pitchOf_19 : decode (am_b mX7_pitchOf) 19 = .ok (.iconst 3, 1) := by decide +kernel
theorem dX7_pitchOf_20 : decode (am_b mX7_pitchOf) 20 = .ok (.iadd, 1) := by decide +kernel
theorem dX7_pitchOf_21 : decode (am_b mX7_pitchOf) 21 = .ok (.if_icmp .ne 13, 3) := by decide +kernel
theorem dX7_pitchOf_24 : decode (am_b mX7_pitchOf) 24 = .ok (.aload_n 0, 1) := by decide +kernel
theorem dX7_pitchOf_25 : decode (am_b mX7_pitchOf) 25 = .ok (.iload_n 1, 1) := by decide +kernel
theorem dX7_pitchOf_26 : decode (am_b mX7_pitchOf) 26 = .ok (.iconst 2, 1) := by decide +kernel
theorem dX7_pitchOf_27 : decode (am_b mX7_pitchOf) 27 = .ok (.iadd, 1) := by decide +kernel
theorem dX7_pitchOf_28 : decode (am_b mX7_pitchOf) 28 = .ok (.invokevirtual 141, 3) := by decide +kernel
theorem dX7_pitchOf_31 : decode (am_b mX7_pitchOf) 31 = .ok (.goto 13, 3) := by decide +kernel
theorem dX7_pitchOf_34 : decode (am_b mX7_pitchOf) 34 = .ok (.bipush 10, 2) := by decide +kernel
theorem dX7_pitchOf_36 : decode (am_b mX7_pitchOf) 36 = .ok (.aload_n 0, 1) := by decide +kernel
theorem dX7_pitchOf_37 : decode (am_b mX7_pitchOf) 37 = .ok (.iload_n 1, 1) := by decide +kernel
theorem dX7_pitchOf_38 : decode (am_b mX7_pitchOf) 38 = .ok (.iconst 3, 1) := by decide +kernel
theorem dX7_pitchOf_39 : decode (am_b mX7_pitchOf) 39 = .ok (.iadd, 1) := by decide +kernel
theorem dX7_pitchOf_40 : decode (am_b mX7_pitchOf) 40 = .ok (.invokevirtual 141, 3) := by decide +kernel
theorem dX7_pitchOf_43 : decode (am_b mX7_pitchOf) 43 = .ok (.iadd, 1) := by decide +kernel
theorem dX7_pitchOf_44 : decode (am_b mX7_pitchOf) 44 = .ok (.ireturn, 1) := by decide +kernel
theorem dX7_stand_0 : decode (am_b mX7_stand) 0 = .ok (.aload_n 0, 1) := by decide +kernel
theorem dX7_stand_1 : decode (am_b mX7_stand) 1 = .ok (.iload_n 1, 1) := by decide +kernel
theorem dX7_stand_2 : decode (am_b mX7_stand) 2 = .ok (.invokevirtual 100, 3) := by decide +kernel
theorem dX7_stand_5 : decode (am_b mX7_stand) 5 = .ok (.ifCond .eq 16, 3) := by decide +kernel
theorem dX7_stand_8 : decode (am_b mX7_stand) 8 = .ok (.iload_n 2, 1) := by decide +kernel
theorem dX7_stand_9 : decode (am_b mX7_stand) 9 = .ok (.bipush (-6), 2) := by decide +kernel
theorem dX7_stand_11 : decode (am_b mX7_stand) 11 = .ok (.if_icmp .eq 12, 3) := by decide +kernel
theorem dX7_stand_14 : decode (am_b mX7_stand) 14 = .ok (.iload_n 2, 1) := by decide +kernel
theorem dX7_stand_15 : decode (am_b mX7_stand) 15 = .ok (.invokestatic 89, 3) := by decide +kernel
theorem dX7_stand_18 : decode (am_b mX7_stand) 18 = .ok (.ifCond .ne 5, 3) := by decide +kernel
theorem dX7_stand_21 : decode (am_b mX7_stand) 21 = .ok (.iconst (-1), 1) := by decide +kernel
theorem dX7_stand_22 : decode (am_b mX7_stand) 22 = .ok (.ireturn, 1) := by decide +kernel
theorem dX7_stand_23 : decode (am_b mX7_stand) 23 = .ok (.iload_n 2, 1) := by decide +kernel
theorem dX7_stand_24 : decode (am_b mX7_stand) 24 = .ok (.bipush (-6), 2) := by decide +kernel
theorem dX7_stand_26 : decode (am_b mX7_stand) 26 = .ok (.if_icmp .eq 15, 3) := by decide +kernel
theorem dX7_stand_29 : decode (am_b mX7_stand) 29 = .ok (.aload_n 0, 1) := by decide +kernel
theorem dX7_stand_30 : decode (am_b mX7_stand) 30 = .ok (.iload_n 1, 1) := by decide +kernel
theorem dX7_stand_31 : decode (am_b mX7_stand) 31 = .ok (.iload_n 2, 1) := by decide +kernel
theorem dX7_stand_32 : decode (am_b mX7_stand) 32 = .ok (.invokevirtual 106, 3) := by decide +kernel
theorem dX7_stand_35 : decode (am_b mX7_stand) 35 = .ok (.ifCond .eq 6, 3) := by decide +kernel
theorem dX7_stand_38 : decode (am_b mX7_stand) 38 = .ok (.bipush (-5), 2) := by decide +kernel
theorem dX7_stand_40 : decode (am_b mX7_stand) 40 = .ok (.ireturn, 1) := by decide +kernel
theorem dX7_stand_41 : decode (am_b mX7_stand) 41 = .ok (.aload_n 0, 1) := by decide +kernel
theorem dX7_stand_42 : decode (am_b mX7_stand) 42 = .ok (.invokevirtual 86, 3) := by decide +kernel
theorem dX7_stand_45 : decode (am_b mX7_stand) 45 = .ok (.aload_n 0, 1) := by decide +kernel
theorem dX7_stand_46 : decode (am_b mX7_stand) 46 = .ok (.iload_n 1, 1) := by decide +kernel
theorem dX7_stand_47 : decode (am_b mX7_stand) 47 = .ok (.iconst 1, 1) := by decide +kernel
theorem dX7_stand_48 : decode (am_b mX7_stand) 48 = .ok (.invokevirtual 103, 3) := by decide +kernel
theorem dX7_stand_51 : decode (am_b mX7_stand) 51 = .ok (.istore_n 3, 1) := by decide +kernel
theorem dX7_stand_52 : decode (am_b mX7_stand) 52 = .ok (.aload_n 0, 1) := by decide +kernel
theorem dX7_stand_53 : decode (am_b mX7_stand) 53 = .ok (.getfield 7, 3) := by decide +kernel
theorem dX7_stand_56 : decode (am_b mX7_stand) 56 = .ok (.iconst 0, 1) := by decide +kernel
theorem dX7_stand_57 : decode (am_b mX7_stand) 57 = .ok (.iload_n 1, 1) := by decide +kernel
theorem dX7_stand_58 : decode (am_b mX7_stand) 58 = .ok (.invokestatic 36, 3) := by decide +kernel
theorem dX7_stand_61 : decode (am_b mX7_stand) 61 = .ok (.iconst 1, 1) := by decide +kernel
theorem dX7_stand_62 : decode (am_b mX7_stand) 62 = .ok (.iadd, 1) := by decide +kernel
theorem dX7_stand_63 : decode (am_b mX7_stand) 63 = .ok (.iload_n 2, 1) := by decide +kernel
theorem dX7_stand_64 : decode (am_b mX7_stand) 64 = .ok (.bipush (-6), 2) := by decide +kernel
theorem dX7_stand_66 : decode (am_b mX7_stand) 66 = .ok (.if_icmp .ne 7, 3) := by decide +kernel
theorem dX7_stand_69 : decode (am_b mX7_stand) 69 = .ok (.iconst (-1), 1) := by decide +kernel
theorem dX7_stand_70 : decode (am_b mX7_stand) 70 = .ok (.goto 4, 3) := by decide +kernel
theorem dX7_stand_73 : decode (am_b mX7_stand) 73 = .ok (.iload_n 2, 1) := by decide +kernel
theorem dX7_stand_74 : decode (am_b mX7_stand) 74 = .ok (.iastore, 1) := by decide +kernel
theorem dX7_stand_75 : decode (am_b mX7_stand) 75 = .ok (.iload_n 3, 1) := by decide +kernel
theorem dX7_stand_76 : decode (am_b mX7_stand) 76 = .ok (.ifCond .ge 8, 3) := by decide +kernel
theorem dX7_stand_79 : decode (am_b mX7_stand) 79 = .ok (.bipush (-6), 2) := by decide +kernel
theorem dX7_stand_81 : decode (am_b mX7_stand) 81 = .ok (.goto 4, 3) := by decide +kernel
theorem dX7_stand_84 : decode (am_b mX7_stand) 84 = .ok (.iload_n 3, 1) := by decide +kernel
theorem dX7_stand_85 : decode (am_b mX7_stand) 85 = .ok (.ireturn, 1) := by decide +kernel
theorem dX7_crowd_0 : decode (am_b mX7_crowd) 0 = .ok (.aload_n 0, 1) := by decide +kernel
theorem dX7_crowd_1 : decode (am_b mX7_crowd) 1 = .ok (.iconst 0, 1) := by decide +kernel
theorem dX7_crowd_2 : decode (am_b mX7_crowd) 2 = .ok (.invokevirtual 50, 3) := by decide +kernel
theorem dX7_crowd_5 : decode (am_b mX7_crowd) 5 = .ok (.istore_n 3, 1) := by decide +kernel
theorem dX7_crowd_6 : decode (am_b mX7_crowd) 6 = .ok (.iload_n 2, 1) := by decide +kernel
theorem dX7_crowd_7 : decode (am_b mX7_crowd) 7 = .ok (.iconst 2, 1) := by decide +kernel
theorem dX7_crowd_8 : decode (am_b mX7_crowd) 8 = .ok (.if_icmp .ne 11, 3) := by decide +kernel
theorem dX7_crowd_11 : decode (am_b mX7_crowd) 11 = .ok (.aload_n 0, 1) := by decide +kernel
theorem dX7_crowd_12 : decode (am_b mX7_crowd) 12 = .ok (.iload_n 1, 1) := by decide +kernel
theorem dX7_crowd_13 : decode (am_b mX7_crowd) 13 = .ok (.invokevirtual 54, 3) := by decide +kernel
theorem dX7_crowd_16 : decode (am_b mX7_crowd) 16 = .ok (.goto 15, 3) := by decide +kernel
theorem dX7_crowd_19 : decode (am_b mX7_crowd) 19 = .ok (.aload_n 0, 1) := by decide +kernel
theorem dX7_crowd_20 : decode (am_b mX7_crowd) 20 = .ok (.getfield 26, 3) := by decide +kernel
theorem dX7_crowd_23 : decode (am_b mX7_crowd) 23 = .ok (.iconst 2, 1) := by decide +kernel
theorem dX7_crowd_24 : decode (am_b mX7_crowd) 24 = .ok (.iload_n 1, 1) := by decide +kernel
theorem dX7_crowd_25 : decode (am_b mX7_crowd) 25 = .ok (.imul, 1) := by decide +kernel
theorem dX7_crowd_26 : decode (am_b mX7_crowd) 26 = .ok (.iload_n 2, 1) := by decide +kernel
theorem dX7_crowd_27 : decode (am_b mX7_crowd) 27 = .ok (.iadd, 1) := by decide +kernel
theorem dX7_crowd_28 : decode (am_b mX7_crowd) 28 = .ok (.iconst 3, 1) := by decide +kernel
theorem dX7_crowd_29 : decode (am_b mX7_crowd) 29 = .ok (.isub, 1) := by decide +kernel
theorem dX7_crowd_30 : decode (am_b mX7_crowd) 30 = .ok (.iaload, 1) := by decide +kernel
theorem dX7_crowd_31 : decode (am_b mX7_crowd) 31 = .ok (.ireturn, 1) := by decide +kernel
theorem dX7_crowdAt_0 : decode (am_b mX7_crowdAt) 0 = .ok (.aload_n 0, 1) := by decide +kernel
theorem dX7_crowdAt_1 : decode (am_b mX7_crowdAt) 1 = .ok (.getfield 7, 3) := by decide +kernel
theorem dX7_crowdAt_4 : decode (am_b mX7_crowdAt) 4 = .ok (.iload_n 1, 1) := by decide +kernel
theorem dX7_crowdAt_5 : decode (am_b mX7_crowdAt) 5 = .ok (.iload_n 2, 1) := by decide +kernel
theorem dX7_crowdAt_6 : decode (am_b mX7_crowdAt) 6 = .ok (.invokestatic 36, 3) := by decide +kernel
theorem dX7_crowdAt_9 : decode (am_b mX7_crowdAt) 9 = .ok (.iconst 1, 1) := by decide +kernel
theorem dX7_crowdAt_10 : decode (am_b mX7_crowdAt) 10 = .ok (.iadd, 1) := by decide +kernel
theorem dX7_crowdAt_11 : decode (am_b mX7_crowdAt) 11 = .ok (.iaload, 1) := by decide +kernel
theorem dX7_crowdAt_12 : decode (am_b mX7_crowdAt) 12 = .ok (.istore 4, 2) := by decide +kernel
theorem dX7_crowdAt_14 : decode (am_b mX7_crowdAt) 14 = .ok (.aload_n 0, 1) := by decide +kernel
theorem dX7_crowdAt_15 : decode (am_b mX7_crowdAt) 15 = .ok (.getfield 7, 3) := by decide +kernel
theorem dX7_crowdAt_18 : decode (am_b mX7_crowdAt) 18 = .ok (.iload_n 1, 1) := by decide +kernel
theorem dX7_crowdAt_19 : decode (am_b mX7_crowdAt) 19 = .ok (.iload_n 2, 1) := by decide +kernel
theorem dX7_crowdAt_20 : decode (am_b mX7_crowdAt) 20 = .ok (.invokestatic 36, 3) := by decide +kernel
theorem dX7_crowdAt_23 : decode (am_b mX7_crowdAt) 23 = .ok (.iconst 1, 1) := by decide +kernel
theorem dX7_crowdAt_24 : decode (am_b mX7_crowdAt) 24 = .ok (.iadd, 1) := by decide +kernel
theorem dX7_crowdAt_25 : decode (am_b mX7_crowdAt) 25 = .ok (.iload_n 3, 1) := by decide +kernel
theorem dX7_crowdAt_26 : decode (am_b mX7_crowdAt) 26 = .ok (.iastore, 1) := by decide +kernel
theorem dX7_crowdAt_27 : decode (am_b mX7_crowdAt) 27 = .ok (.aload_n 0, 1) := by decide +kernel
theorem dX7_crowdAt_28 : decode (am_b mX7_crowdAt) 28 = .ok (.iload_n 1, 1) := by decide +kernel
theorem dX7_crowdAt_29 : decode (am_b mX7_crowdAt) 29 = .ok (.invokevirtual 50, 3) := by decide +kernel
theorem dX7_crowdAt_32 : decode (am_b mX7_crowdAt) 32 = .ok (.istore 5, 2) := by decide +kernel
theorem dX7_crowdAt_34 : decode (am_b mX7_crowdAt) 34 = .ok (.aload_n 0, 1) := by decide +kernel
theorem dX7_crowdAt_35 : decode (am_b mX7_crowdAt) 35 = .ok (.getfield 7, 3) := by decide +kernel
theorem dX7_crowdAt_38 : decode (am_b mX7_crowdAt) 38 = .ok (.iload_n 1, 1) := by decide +kernel
theorem dX7_crowdAt_39 : decode (am_b mX7_crowdAt) 39 = .ok (.iload_n 2, 1) := by decide +kernel
theorem dX7_crowdAt_40 : decode (am_b mX7_crowdAt) 40 = .ok (.invokestatic 36, 3) := by decide +kernel
theorem dX7_crowdAt_43 : decode (am_b mX7_crowdAt) 43 = .ok (.iconst 1, 1) := by decide +kernel
theorem dX7_crowdAt_44 : decode (am_b mX7_crowdAt) 44 = .ok (.iadd, 1) := by decide +kernel
theorem dX7_crowdAt_45 : decode (am_b mX7_crowdAt) 45 = .ok (.iload 4, 2) := by decide +kernel
theorem dX7_crowdAt_47 : decode (am_b mX7_crowdAt) 47 = .ok (.iastore, 1) := by decide +kernel
theorem dX7_crowdAt_48 : decode (am_b mX7_crowdAt) 48 = .ok (.aload_n 0, 1) := by decide +kernel
theorem dX7_crowdAt_49 : decode (am_b mX7_crowdAt) 49 = .ok (.iload_n 2, 1) := by decide +kernel
theorem dX7_crowdAt_50 : decode (am_b mX7_crowdAt) 50 = .ok (.invokevirtual 54, 3) := by decide +kernel
theorem dX7_crowdAt_53 : decode (am_b mX7_crowdAt) 53 = .ok (.ireturn, 1) := by decide +kernel
theorem dX7_crowdsNow_0 : decode (am_b mX7_crowdsNow) 0 = .ok (.aload_n 0, 1) := by decide +kernel
theorem dX7_crowdsNow_1 : decode (am_b mX7_crowdsNow) 1 = .ok (.iconst 0, 1) := by decide +kernel
theorem dX7_crowdsNow_2 : decode (am_b mX7_crowdsNow) 2 = .ok (.invokevirtual 50, 3) := by decide +kernel
theorem dX7_crowdsNow_5 : decode (am_b mX7_crowdsNow) 5 = .ok (.istore_n 1, 1) := by decide +kernel
theorem dX7_crowdsNow_6 : decode (am_b mX7_crowdsNow) 6 = .ok (.aload_n 0, 1) := by decide +kernel
theorem dX7_crowdsNow_7 : decode (am_b mX7_crowdsNow) 7 = .ok (.getfield 7, 3) := by decide +kernel
theorem dX7_crowdsNow_10 : decode (am_b mX7_crowdsNow) 10 = .ok (.iconst 0, 1) := by decide +kernel
theorem dX7_crowdsNow_11 : decode (am_b mX7_crowdsNow) 11 = .ok (.iaload, 1) := by decide +kernel
theorem dX7_crowdsNow_12 : decode (am_b mX7_crowdsNow) 12 = .ok (.aload_n 0, 1) := by decide +kernel
theorem dX7_crowdsNow_13 : decode (am_b mX7_crowdsNow) 13 = .ok (.getfield 7, 3) := by decide +kernel
theorem dX7_crowdsNow_16 : decode (am_b mX7_crowdsNow) 16 = .ok (.iconst 1, 1) := by decide +kernel
theorem dX7_crowdsNow_17 : decode (am_b mX7_crowdsNow) 17 = .ok (.iaload, 1) := by decide +kernel
theorem dX7_crowdsNow_18 : decode (am_b mX7_crowdsNow) 18 = .ok (.iadd, 1) := by decide +kernel
theorem dX7_crowdsNow_19 : decode (am_b mX7_crowdsNow) 19 = .ok (.iload_n 1, 1) := by decide +kernel
theorem dX7_crowdsNow_20 : decode (am_b mX7_crowdsNow) 20 = .ok (.isub, 1) := by decide +kernel
theorem dX7_crowdsNow_21 : decode (am_b mX7_crowdsNow) 21 = .ok (.ireturn, 1) := by decide +kernel
theorem dX7_isTwice_0 : decode (am_b mX7_isTwice) 0 = .ok (.iconst 0, 1) := by decide +kernel
theorem dX7_isTwice_1 : decode (am_b mX7_isTwice) 1 = .ok (.istore_n 1, 1) := by decide +kernel
theorem dX7_isTwice_2 : decode (am_b mX7_isTwice) 2 = .ok (.iconst 0, 1) := by decide +kernel
theorem dX7_isTwice_3 : decode (am_b mX7_isTwice) 3 = .ok (.istore_n 2, 1) := by decide +kernel
theorem dX7_isTwice_4 : decode (am_b mX7_isTwice) 4 = .ok (.iconst 0, 1) := by decide +kernel
theorem dX7_isTwice_5 : decode (am_b mX7_isTwice) 5 = .ok (.istore_n 3, 1) := by decide +kernel
theorem dX7_isTwice_6 : decode (am_b mX7_isTwice) 6 = .ok (.iload_n 3, 1) := by decide +kernel
theorem dX7_isTwice_7 : decode (am_b mX7_isTwice) 7 = .ok (.aload_n 0, 1) := by decide +kernel
theorem dX7_isTwice_8 : decode (am_b mX7_isTwice) 8 = .ok (.getfield 130, 3) := by decide +kernel
theorem dX7_isTwice_11 : decode (am_b mX7_isTwice) 11 = .ok (.if_icmp .ge 62, 3) := by decide +kernel
theorem dX7_isTwice_14 : decode (am_b mX7_isTwice) 14 = .ok (.aload_n 0, 1) := by decide +kernel
theorem dX7_isTwice_15 : decode (am_b mX7_isTwice) 15 = .ok (.iload_n 3, 1) := by decide +kernel
theorem dX7_isTwice_16 : decode (am_b mX7_isTwice) 16 = .ok (.invokevirtual 147, 3) := by decide +kernel
theorem dX7_isTwice_19 : decode (am_b mX7_isTwice) 19 = .ok (.istore 4, 2) := by decide +kernel
theorem dX7_isTwice_21 : decode (am_b mX7_isTwice) 21 = .ok (.iload_n 2, 1) := by decide +kernel
theorem dX7_isTwice_22 : decode (am_b mX7_isTwice) 22 = .ok (.ifCond .ne 18, 3) := by decide +kernel
theorem dX7_isTwice_25 : decode (am_b mX7_isTwice) 25 = .ok (.iload 4, 2) := by decide +kernel
theorem dX7_isTwice_27 : decode (am_b mX7_isTwice) 27 = .ok (.ifCond .lt 17, 3) := by decide +kernel
theorem dX7_isTwice_30 : decode (am_b mX7_isTwice) 30 = .ok (.iload_n 1, 1) := by decide +kernel
theorem dX7_isTwice_31 : decode (am_b mX7_isTwice) 31 = .ok (.iload 4, 2) := by decide +kernel
theorem dX7_isTwice_33 : decode (am_b mX7_isTwice) 33 = .ok (.ishr, 1) := by decide +kernel
theorem dX7_isTwice_34 : decode (am_b mX7_isTwice) 34 = .ok (.iconst 1, 1) := by decide +kernel
theorem dX7_isTwice_35 : decode (am_b mX7_isTwice) 35 = .ok (.iand, 1) := by decide +kernel
theorem dX7_isTwice_36 : decode (am_b mX7_isTwice) 36 = .ok (.iconst 1, 1) := by decide +kernel
theorem dX7_isTwice_37 : decode (am_b mX7_isTwice) 37 = .ok (.if_icmp .ne 7, 3) := by decide +kernel
theorem dX7_isTwice_40 : decode (am_b mX7_isTwice) 40 = .ok (.iconst 1, 1) := by decide +kernel
theorem dX7_isTwice_41 : decode (am_b mX7_isTwice) 41 = .ok (.goto 4, 3) := by decide +kernel
theorem dX7_isTwice_44 : decode (am_b mX7_isTwice) 44 = .ok (.iconst 0, 1) := by decide +kernel
theorem dX7_isTwice_45 : decode (am_b mX7_isTwice) 45 = .ok (.istore_n 2, 1) := by decide +kernel
theorem dX7_isTwice_46 : decode (am_b mX7_isTwice) 46 = .ok (.iload_n 1, 1) := by decide +kernel
theorem dX7_isTwice_47 : decode (am_b mX7_isTwice) 47 = .ok (.iload 4, 2) := by decide +kernel
theorem dX7_isTwice_49 : decode (am_b mX7_isTwice) 49 = .ok (.ifCond .lt 10, 3) := by decide +kernel
theorem dX7_isTwice_52 : decode (am_b mX7_isTwice) 52 = .ok (.iconst 1, 1) := by decide +kernel
theorem dX7_isTwice_53 : decode (am_b mX7_isTwice) 53 = .ok (.iload 4, 2) := by decide +kernel
theorem dX7_isTwice_55 : decode (am_b mX7_isTwice) 55 = .ok (.ishl, 1) := by decide +kernel
theorem dX7_isTwice_56 : decode (am_b mX7_isTwice) 56 = .ok (.goto 4, 3) := by decide +kernel
theorem dX7_isTwice_59 : decode (am_b mX7_isTwice) 59 = .ok (.iconst 0, 1) := by decide +kernel
theorem dX7_isTwice_60 : decode (am_b mX7_isTwice) 60 = .ok (.ior, 1) := by decide +kernel
theorem dX7_isTwice_61 : decode (am_b mX7_isTwice) 61 = .ok (.istore_n 1, 1) := by decide +kernel
theorem dX7_isTwice_62 : decode (am_b mX7_isTwice) 62 = .ok (.aload_n 0, 1) := by decide +kernel
theorem dX7_isTwice_63 : decode (am_b mX7_isTwice) 63 = .ok (.iload_n 3, 1) := by decide +kernel
theorem dX7_isTwice_64 : decode (am_b mX7_isTwice) 64 = .ok (.invokevirtual 144, 3) := by decide +kernel
theorem dX7_isTwice_67 : decode (am_b mX7_isTwice) 67 = .ok (.iconst 1, 1) := by decide +kernel
theorem dX7_isTwice_68 : decode (am_b mX7_isTwice) 68 = .ok (.iadd, 1) := by decide +kernel
theorem dX7_isTwice_69 : decode (am_b mX7_isTwice) 69 = .ok (.istore_n 3, 1) := by decide +kernel
theorem dX7_isTwice_70 : decode (am_b mX7_isTwice) 70 = .ok (.goto (-64), 3) := by decide +kernel
theorem dX7_isTwice_73 : decode (am_b mX7_isTwice) 73 = .ok (.iload_n 2, 1) := by decide +kernel
theorem dX7_isTwice_74 : decode (am_b mX7_isTwice) 74 = .ok (.ireturn, 1) := by decide +kernel
theorem dX7_seen_0 : decode (am_b mX7_seen) 0 = .ok (.aload_n 0, 1) := by decide +kernel
theorem dX7_seen_1 : decode (am_b mX7_seen) 1 = .ok (.iload_n 1, 1) := by decide +kernel
theorem dX7_seen_2 : decode (am_b mX7_seen) 2 = .ok (.invokevirtual 100, 3) := by decide +kernel
theorem dX7_seen_5 : decode (am_b mX7_seen) 5 = .ok (.ifCond .ne 5, 3) := by decide +kernel
theorem dX7_seen_8 : decode (am_b mX7_seen) 8 = .ok (.iconst (-1), 1) := by decide +kernel
theorem dX7_seen_9 : decode (am_b mX7_seen) 9 = .ok (.ireturn, 1) := by decide +kernel
theorem dX7_seen_10 : decode (am_b mX7_seen) 10 = .ok (.iload_n 2, 1) := by decide +kernel
theorem dX7_seen_11 : decode (am_b mX7_seen) 11 = .ok (.iconst 0, 1) := by decide +kernel
theorem dX7_seen_12 : decode (am_b mX7_seen) 12 = .ok (.iconst 1, 1) := by decide +kernel
theorem dX7_seen_13 : decode (am_b mX7_seen) 13 = .ok (.invokestatic 32, 3) := by decide +kernel
theorem dX7_seen_16 : decode (am_b mX7_seen) 16 = .ok (.ifCond .eq 12, 3) := by decide +kernel
theorem dX7_seen_19 : decode (am_b mX7_seen) 19 = .ok (.iload_n 3, 1) := by decide +kernel
theorem dX7_seen_20 : decode (am_b mX7_seen) 20 = .ok (.iconst 0, 1) := by decide +kernel
theorem dX7_seen_21 : decode (am_b mX7_seen) 21 = .ok (.iconst 1, 1) := by decide +kernel
theorem dX7_seen_22 : decode (am_b mX7_seen) 22 = .ok (.invokestatic 32, 3) := by decide +kernel
theorem dX7_seen_25 : decode (am_b mX7_seen) 25 = .ok (.ifCond .ne 6, 3) := by decide +kernel
theorem dX7_seen_28 : decode (am_b mX7_seen) 28 = .ok (.bipush (-2), 2) := by decide +kernel
theorem dX7_seen_30 : decode (am_b mX7_seen) 30 = .ok (.ireturn, 1) := by decide +kernel
theorem dX7_seen_31 : decode (am_b mX7_seen) 31 = .ok (.aload_n 0, 1) := by decide +kernel
theorem dX7_seen_32 : decode (am_b mX7_seen) 32 = .ok (.iload_n 1, 1) := by decide +kernel
theorem dX7_seen_33 : decode (am_b mX7_seen) 33 = .ok (.iconst 1, 1) := by decide +kernel
theorem dX7_seen_34 : decode (am_b mX7_seen) 34 = .ok (.invokevirtual 103, 3) := by decide +kernel
theorem dX7_seen_37 : decode (am_b mX7_seen) 37 = .ok (.ifCond .ge 5, 3) := by decide +kernel
theorem dX7_seen_40 : decode (am_b mX7_seen) 40 = .ok (.iconst 0, 1) := by decide +kernel
theorem dX7_seen_41 : decode (am_b mX7_seen) 41 = .ok (.ireturn, 1) := by decide +kernel
theorem dX7_seen_42 : decode (am_b mX7_seen) 42 = .ok (.iload_n 3, 1) := by decide +kernel
theorem dX7_seen_43 : decode (am_b mX7_seen) 43 = .ok (.ifCond .ne 26, 3) := by decide +kernel
theorem dX7_seen_46 : decode (am_b mX7_seen) 46 = .ok (.aload_n 0, 1) := by decide +kernel
theorem dX7_seen_47 : decode (am_b mX7_seen) 47 = .ok (.iload_n 1, 1) := by decide +kernel
theorem dX7_seen_48 : decode (am_b mX7_seen) 48 = .ok (.iload_n 2, 1) := by decide +kernel
theorem dX7_seen_49 : decode (am_b mX7_seen) 49 = .ok (.invokevirtual 118, 3) := by decide +kernel
theorem dX7_seen_52 : decode (am_b mX7_seen) 52 = .ok (.aload_n 0, 1) := by decide +kernel
theorem dX7_seen_53 : decode (am_b mX7_seen) 53 = .ok (.iload_n 1, 1) := by decide +kernel
theorem dX7_seen_54 : decode (am_b mX7_seen) 54 = .ok (.iconst 0, 1) := by decide +kernel
theorem dX7_seen_55 : decode (am_b mX7_seen) 55 = .ok (.invokevirtual 103, 3) := by decide +kernel
theorem dX7_seen_58 : decode (am_b mX7_seen) 58 = .ok (.if_icmp .ge 7, 3) := by decide +kernel
theorem dX7_seen_61 : decode (am_b mX7_seen) 61 = .ok (.iconst 1, 1) := by decide +kernel
theorem dX7_seen_62 : decode (am_b mX7_seen) 62 = .ok (.goto 21, 3) := by decide +kernel
theorem dX7_seen_65 : decode (am_b mX7_seen) 65 = .ok (.iconst 0, 1) := by decide +kernel
theorem dX7_seen_66 : decode (am_b mX7_seen) 66 = .ok (.goto 17, 3) := by decide +kernel
theorem dX7_seen_69 : decode (am_b mX7_seen) 69 = .ok (.aload_n 0, 1) := by decide +kernel
theorem dX7_seen_70 : decode (am_b mX7_seen) 70 = .ok (.iload_n 1, 1) := by decide +kernel
theorem dX7_seen_71 : decode (am_b mX7_seen) 71 = .ok (.iload_n 2, 1) := by decide +kernel
theorem dX7_seen_72 : decode (am_b mX7_seen) 72 = .ok (.invokevirtual 121, 3) := by decide +kernel
theorem dX7_seen_75 : decode (am_b mX7_seen) 75 = .ok (.ifCond .ne 7, 3) := by decide +kernel
theorem dX7_seen_78 : decode (am_b mX7_seen) 78 = .ok (.iconst 1, 1) := by decide +kernel
theorem dX7_seen_79 : decode (am_b mX7_seen) 79 = .ok (.goto 4, 3) := by decide +kernel
theorem dX7_seen_82 : decode (am_b mX7_seen) 82 = .ok (.iconst 0, 1) := by decide +kernel
theorem dX7_seen_83 : decode (am_b mX7_seen) 83 = .ok (.istore 4, 2) := by decide +kernel
theorem dX7_seen_85 : decode (am_b mX7_seen) 85 = .ok (.iload 4, 2) := by decide +kernel
theorem dX7_seen_87 : decode (am_b mX7_seen) 87 = .ok (.ifCond .eq 7, 3) := by decide +kernel
theorem dX7_seen_90 : decode (am_b mX7_seen) 90 = .ok (.iconst 1, 1) := by decide +kernel
theorem dX7_seen_91 : decode (am_b mX7_seen) 91 = .ok (.goto 4, 3) := by decide +kernel
theorem dX7_seen_94 : decode (am_b mX7_seen) 94 = .ok (.iconst 0, 1) := by decide +kernel
theorem dX7_seen_95 : decode (am_b mX7_seen) 95 = .ok (.ireturn, 1) := by decide +kernel
theorem dX7_bestHeight_0 : decode (am_b mX7_bestHeight) 0 = .ok (.aload_n 0, 1) := by decide +kernel
theorem dX7_bestHeight_1 : decode (am_b mX7_bestHeight) 1 = .ok (.iload_n 1, 1) := by decide +kernel
theorem dX7_bestHeight_2 : decode (am_b mX7_bestHeight) 2 = .ok (.invokevirtual 100, 3) := by decide +kernel
theorem dX7_bestHeight_5 : decode (am_b mX7_bestHeight) 5 = .ok (.ifCond .ne 5, 3) := by decide +kernel
theorem dX7_bestHeight_8 : decode (am_b mX7_bestHeight) 8 = .ok (.iconst (-1), 1) := by decide +kernel
theorem dX7_bestHeight_9 : decode (am_b mX7_bestHeight) 9 = .ok (.ireturn, 1) := by decide +kernel
theorem dX7_bestHeight_10 : decode (am_b mX7_bestHeight) 10 = .ok (.aload_n 0, 1) := by decide +kernel
theorem dX7_bestHeight_11 : decode (am_b mX7_bestHeight) 11 = .ok (.iload_n 1, 1) := by decide +kernel
theorem dX7_bestHeight_12 : decode (am_b mX7_bestHeight) 12 = .ok (.iconst 1, 1) := by decide +kernel
theorem dX7_bestHeight_13 : decode (am_b mX7_bestHeight) 13 = .ok (.invokevirtual 103, 3) := by decide +kernel
theorem dX7_bestHeight_16 : decode (am_b mX7_bestHeight) 16 = .ok (.ifCond .ge 6, 3) := by decide +kernel
theorem dX7_bestHeight_19 : decode (am_b mX7_bestHeight) 19 = .ok (.bipush (-5), 2) := by decide +kernel
theorem dX7_bestHeight_21 : decode (am_b mX7_bestHeight) 21 = .ok (.ireturn, 1) := by decide +kernel
theorem dX7_bestHeight_22 : decode (am_b mX7_bestHeight) 22 = .ok (.aload_n 0, 1) := by decide +kernel
theorem dX7_bestHeight_23 : decode (am_b mX7_bestHeight) 23 = .ok (.iload_n 1, 1) := by decide +kernel
theorem dX7_bestHeight_24 : decode (am_b mX7_bestHeight) 24 = .ok (.iconst 0, 1) := by decide +kernel
theorem dX7_bestHeight_25 : decode (am_b mX7_bestHeight) 25 = .ok (.invokevirtual 103, 3) := by decide +kernel
theorem dX7_bestHeight_28 : decode (am_b mX7_bestHeight) 28 = .ok (.istore_n 2, 1) := by decide +kernel
theorem dX7_bestHeight_29 : decode (am_b mX7_bestHeight) 29 = .ok (.iconst 1, 1) := by decide +kernel
theorem dX7_bestHeight_30 : decode (am_b mX7_bestHeight) 30 = .ok (.istore_n 3, 1) := by decide +kernel
theorem dX7_bestHeight_31 : decode (am_b mX7_bestHeight) 31 = .ok (.iconst (-1), 1) := by decide +kernel
theorem dX7_bestHeight_32 : decode (am_b mX7_bestHeight) 32 = .ok (.istore 4, 2) := by decide +kernel
theorem dX7_bestHeight_34 : decode (am_b mX7_bestHeight) 34 = .ok (.iconst 1, 1) := by decide +kernel
theorem dX7_bestHeight_35 : decode (am_b mX7_bestHeight) 35 = .ok (.istore 5, 2) := by decide +kernel
theorem dX7_bestHeight_37 : decode (am_b mX7_bestHeight) 37 = .ok (.iload 5, 2) := by decide +kernel
theorem dX7_bestHeight_39 : decode (am_b mX7_bestHeight) 39 = .ok (.bipush 10, 2) := by decide +kernel
theorem dX7_bestHeight_41 : decode (am_b mX7_bestHeight) 41 = .ok (.if_icmp .ge 61, 3) := by decide +kernel
theorem dX7_bestHeight_44 : decode (am_b mX7_bestHeight) 44 = .ok (.aload_n 0, 1) := by decide +kernel
theorem dX7_bestHeight_45 : decode (am_b mX7_bestHeight) 45 = .ok (.getfield 7, 3) := by decide +kernel
theorem dX7_bestHeight_48 : decode (am_b mX7_bestHeight) 48 = .ok (.iconst 0, 1) := by decide +kernel
theorem dX7_bestHeight_49 : decode (am_b mX7_bestHeight) 49 = .ok (.iload_n 1, 1) := by decide +kernel
theorem dX7_bestHeight_50 : decode (am_b mX7_bestHeight) 50 = .ok (.invokestatic 36, 3) := by decide +kernel
theorem dX7_bestHeight_53 : decode (am_b mX7_bestHeight) 53 = .ok (.iconst 0, 1) := by decide +kernel
theorem dX7_bestHeight_54 : decode (am_b mX7_bestHeight) 54 = .ok (.iadd, 1) := by decide +kernel
theorem dX7_bestHeight_55 : decode (am_b mX7_bestHeight) 55 = .ok (.iload 5, 2) := by decide +kernel
theorem dX7_bestHeight_57 : decode (am_b mX7_bestHeight) 57 = .ok (.iastore, 1) := by decide +kernel
theorem dX7_bestHeight_58 : decode (am_b mX7_bestHeight) 58 = .ok (.aload_n 0, 1) := by decide +kernel
theorem dX7_bestHeight_59 : decode (am_b mX7_bestHeight) 59 = .ok (.iload_n 1, 1) := by decide +kernel
theorem dX7_bestHeight_60 : decode (am_b mX7_bestHeight) 60 = .ok (.iconst 2, 1) := by decide +kernel
theorem dX7_bestHeight_61 : decode (am_b mX7_bestHeight) 61 = .ok (.invokevirtual 112, 3) := by decide +kernel
theorem dX7_bestHeight_64 : decode (am_b mX7_bestHeight) 64 = .ok (.istore 6, 2) := by decide +kernel
theorem dX7_bestHeight_66 : decode (am_b mX7_bestHeight) 66 = .ok (.iload 6, 2) := by decide +kernel
theorem dX7_bestHeight_68 : decode (am_b mX7_bestHeight) 68 = .ok (.iload 4, 2) := by decide +kernel
theorem dX7_bestHeight_70 : decode (am_b mX7_bestHeight) 70 = .ok (.if_icmp .le 8, 3) := by decide +kernel
theorem dX7_bestHeight_73 : decode (am_b mX7_bestHeight) 73 = .ok (.iload 5, 2) := by decide +kernel
theorem dX7_bestHeight_75 : decode (am_b mX7_bestHeight) 75 = .ok (.goto 4, 3) := by decide +kernel
theorem dX7_bestHeight_78 : decode (am_b mX7_bestHeight) 78 = .ok (.iload_n 3, 1) := by decide +kernel
theorem dX7_bestHeight_79 : decode (am_b mX7_bestHeight) 79 = .ok (.istore_n 3, 1) := by decide +kernel
theorem dX7_bestHeight_80 : decode (am_b mX7_bestHeight) 80 = .ok (.iload 6, 2) := by decide +kernel
theorem dX7_bestHeight_82 : decode (am_b mX7_bestHeight) 82 = .ok (.iload 4, 2) := by decide +kernel
theorem dX7_bestHeight_84 : decode (am_b mX7_bestHeight) 84 = .ok (.if_icmp .le 8, 3) := by decide +kernel
theorem dX7_bestHeight_87 : decode (am_b mX7_bestHeight) 87 = .ok (.iload 6, 2) := by decide +kernel
theorem dX7_bestHeight_89 : decode (am_b mX7_bestHeight) 89 = .ok (.goto 5, 3) := by decide +kernel
theorem dX7_bestHeight_92 : decode (am_b mX7_bestHeight) 92 = .ok (.iload 4, 2) := by decide +kernel
theorem dX7_bestHeight_94 : decode (am_b mX7_bestHeight) 94 = .ok (.istore 4, 2) := by decide +kernel
theorem dX7_bestHeight_96 : decode (am_b mX7_bestHeight) 96 = .ok (.iinc 5 1, 3) := by decide +kernel
theorem dX7_bestHeight_99 : decode (am_b mX7_bestHeight) 99 = .ok (.goto (-62), 3) := by decide +kernel
theorem dX7_bestHeight_102 : decode (am_b mX7_bestHeight) 102 = .ok (.aload_n 0, 1) := by decide +kernel
theorem dX7_bestHeight_103 : decode (am_b mX7_bestHeight) 103 = .ok (.getfield 7, 3) := by decide +kernel
theorem dX7_bestHeight_106 : decode (am_b mX7_bestHeight) 106 = .ok (.iconst 0, 1) := by decide +kernel
theorem dX7_bestHeight_107 : decode (am_b mX7_bestHeight) 107 = .ok (.iload_n 1, 1) := by decide +kernel
theorem dX7_bestHeight_108 : decode (am_b mX7_bestHeight) 108 = .ok (.invokestatic 36, 3) := by decide +kernel
theorem dX7_bestHeight_111 : decode (am_b mX7_bestHeight) 111 = .ok (.iconst 0, 1) := by decide +kernel
theorem dX7_bestHeight_112 : decode (am_b mX7_bestHeight) 112 = .ok (.iadd, 1) := by decide +kernel
theorem dX7_bestHeight_113 : decode (am_b mX7_bestHeight) 113 = .ok (.iload_n 2, 1) := by decide +kernel
theorem dX7_bestHeight_114 : decode (am_b mX7_bestHeight) 114 = .ok (.iastore, 1) := by decide +kernel
theorem dX7_bestHeight_115 : decode (am_b mX7_bestHeight) 115 = .ok (.iload_n 3, 1) := by decide +kernel
theorem dX7_bestHeight_116 : decode (am_b mX7_bestHeight) 116 = .ok (.ireturn, 1) := by decide +kernel
theorem dX7_bestPitch_0 : decode (am_b mX7_bestPitch) 0 = .ok (.aload_n 0, 1) := by decide +kernel
theorem dX7_bestPitch_1 : decode (am_b mX7_bestPitch) 1 = .ok (.iload_n 1, 1) := by decide +kernel
theorem dX7_bestPitch_2 : decode (am_b mX7_bestPitch) 2 = .ok (.invokevirtual 100, 3) := by decide +kernel
theorem dX7_bestPitch_5 : decode (am_b mX7_bestPitch) 5 = .ok (.ifCond .ne 5, 3) := by decide +kernel
theorem dX7_bestPitch_8 : decode (am_b mX7_bestPitch) 8 = .ok (.iconst (-1), 1) := by decide +kernel
theorem dX7_bestPitch_9 : decode (am_b mX7_bestPitch) 9 = .ok (.ireturn, 1) := by decide +kernel
theorem dX7_bestPitch_10 : decode (am_b mX7_bestPitch) 10 = .ok (.bipush (-6), 2) := by decide +kernel
theorem dX7_bestPitch_12 : decode (am_b mX7_bestPitch) 12 = .ok (.istore_n 2, 1) := by decide +kernel
theorem dX7_bestPitch_13 : decode (am_b mX7_bestPitch) 13 = .ok (.iconst (-1), 1) := by decide +kernel
theorem dX7_bestPitch_14 : decode (am_b mX7_bestPitch) 14 = .ok (.istore_n 3, 1) := by decide +kernel
theorem dX7_bestPitch_15 : decode (am_b mX7_bestPitch) 15 = .ok (.iconst 0, 1) := by decide +kernel
theorem dX7_bestPitch_16 : decode (am_b mX7_bestPitch) 16 = .ok (.istore 4, 2) := by decide +kernel
theorem dX7_bestPitch_18 : decode (am_b mX7_bestPitch) 18 = .ok (.iload 4, 2) := by decide +kernel
theorem dX7_bestPitch_20 : decode (am_b mX7_bestPitch) 20 = .ok (.bipush 12, 2) := by decide +kernel
theorem dX7_bestPitch_22 : decode (am_b mX7_bestPitch) 22 = .ok (.if_icmp .ge 59, 3) := by decide +kernel
theorem dX7_bestPitch_25 : decode (am_b mX7_bestPitch) 25 = .ok (.aload_n 0, 1) := by decide +kernel
theorem dX7_bestPitch_26 : decode (am_b mX7_bestPitch) 26 = .ok (.iload_n 1, 1) := by decide +kernel
theorem dX7_bestPitch_27 : decode (am_b mX7_bestPitch) 27 = .ok (.iload 4, 2) := by decide +kernel
theorem dX7_bestPitch_29 : decode (am_b mX7_bestPitch) 29 = .ok (.invokevirtual 106, 3) := by decide +kernel
theorem dX7_bestPitch_32 : decode (am_b mX7_bestPitch) 32 = .ok (.ifCond .eq 7, 3) := by decide +kernel
theorem dX7_bestPitch_35 : decode (am_b mX7_bestPitch) 35 = .ok (.iconst (-1), 1) := by decide +kernel
theorem dX7_bestPitch_36 : decode (am_b mX7_bestPitch) 36 = .ok (.goto 11, 3) := by decide +kernel
theorem dX7_bestPitch_39 : decode (am_b mX7_bestPitch) 39 = .ok (.aload_n 0, 1) := by decide +kernel
theorem dX7_bestPitch_40 : decode (am_b mX7_bestPitch) 40 = .ok (.iconst 0, 1) := by decide +kernel
theorem dX7_bestPitch_41 : decode (am_b mX7_bestPitch) 41 = .ok (.iload_n 1, 1) := by decide +kernel
theorem dX7_bestPitch_42 : decode (am_b mX7_bestPitch) 42 = .ok (.iload 4, 2) := by decide +kernel
theorem dX7_bestPitch_44 : decode (am_b mX7_bestPitch) 44 = .ok (.invokevirtual 71, 3) := by decide +kernel
theorem dX7_bestPitch_47 : decode (am_b mX7_bestPitch) 47 = .ok (.istore 5, 2) := by decide +kernel
theorem dX7_bestPitch_49 : decode (am_b mX7_bestPitch) 49 = .ok (.iload 5, 2) := by decide +kernel
theorem dX7_bestPitch_51 : decode (am_b mX7_bestPitch) 51 = .ok (.iload_n 3, 1) := by decide +kernel
theorem dX7_bestPitch_52 : decode (am_b mX7_bestPitch) 52 = .ok (.if_icmp .le 8, 3) := by decide +kernel
theorem dX7_bestPitch_55 : decode (am_b mX7_bestPitch) 55 = .ok (.iload 4, 2) := by decide +kernel
theorem dX7_bestPitch_57 : decode (am_b mX7_bestPitch) 57 = .ok (.goto 4, 3) := by decide +kernel
theorem dX7_bestPitch_60 : decode (am_b mX7_bestPitch) 60 = .ok (.iload_n 2, 1) := by decide +kernel
theorem dX7_bestPitch_61 : decode (am_b mX7_bestPitch) 61 = .ok (.istore_n 2, 1) := by decide +kernel
theorem dX7_bestPitch_62 : decode (am_b mX7_bestPitch) 62 = .ok (.iload 5, 2) := by decide +kernel
theorem dX7_bestPitch_64 : decode (am_b mX7_bestPitch) 64 = .ok (.iload_n 3, 1) := by decide +kernel
theorem dX7_bestPitch_65 : decode (am_b mX7_bestPitch) 65 = .ok (.if_icmp .le 8, 3) := by decide +kernel
theorem dX7_bestPitch_68 : decode (am_b mX7_bestPitch) 68 = .ok (.iload 5, 2) := by decide +kernel
theorem dX7_bestPitch_70 : decode (am_b mX7_bestPitch) 70 = .ok (.goto 4, 3) := by decide +kernel
theorem dX7_bestPitch_73 : decode (am_b mX7_bestPitch) 73 = .ok (.iload_n 3, 1) := by decide +kernel
theorem dX7_bestPitch_74 : decode (am_b mX7_bestPitch) 74 = .ok (.istore_n 3, 1) := by decide +kernel
theorem dX7_bestPitch_75 : decode (am_b mX7_bestPitch) 75 = .ok (.iinc 4 1, 3) := by decide +kernel
theorem dX7_bestPitch_78 : decode (am_b mX7_bestPitch) 78 = .ok (.goto (-60), 3) := by decide +kernel
theorem dX7_bestPitch_81 : decode (am_b mX7_bestPitch) 81 = .ok (.iload_n 2, 1) := by decide +kernel
theorem dX7_bestPitch_82 : decode (am_b mX7_bestPitch) 82 = .ok (.ireturn, 1) := by decide +kernel
theorem dX7_booth_0 : decode (am_b mX7_booth) 0 = .ok (.aload_n 0, 1) := by decide +kernel
theorem dX7_booth_1 : decode (am_b mX7_booth) 1 = .ok (.iload_n 1, 1) := by decide +kernel
theorem dX7_booth_2 : decode (am_b mX7_booth) 2 = .ok (.invokevirtual 100, 3) := by decide +kernel
theorem dX7_booth_5 : decode (am_b mX7_booth) 5 = .ok (.ifCond .ne 5, 3) := by decide +kernel
theorem dX7_booth_8 : decode (am_b mX7_booth) 8 = .ok (.iconst (-1), 1) := by decide +kernel
theorem dX7_booth_9 : decode (am_b mX7_booth) 9 = .ok (.ireturn, 1) := by decide +kernel
theorem dX7_booth_10 : decode (am_b mX7_booth) 10 = .ok (.iload_n 2, 1) := by decide +kernel
theorem dX7_booth_11 : decode (am_b mX7_booth) 11 = .ok (.tableswitch 89 0 7 #[45, 52, 73, 73, 73, 80, 80, 80], 45) := by decide +kernel
theorem dX7_booth_56 : decode (am_b mX7_booth) 56 = .ok (.aload_n 0, 1) := by decide +kernel
theorem dX7_booth_57 : decode (am_b mX7_booth) 57 = .ok (.iload_n 1, 1) := by decide +kernel
theorem dX7_booth_58 : decode (am_b mX7_booth) 58 = .ok (.iconst 0, 1) := by decide +kernel
theorem dX7_booth_59 : decode (am_b mX7_booth) 59 = .ok (.invokevirtual 103, 3) := by decide +kernel
theorem dX7_booth_62 : decode (am_b mX7_booth) 62 = .ok (.ireturn, 1) := by decide +kernel
theorem dX7_booth_63 : decode (am_b mX7_booth) 63 = .ok (.aload_n 0, 1) := by decide +kernel
theorem dX7_booth_64 : decode (am_b mX7_booth) 64 = .ok (.iload_n 1, 1) := by decide +kernel
theorem dX7_booth_65 : decode (am_b mX7_booth) 65 = .ok (.iconst 1, 1) := by decide +kernel
theorem dX7_booth_66 : decode (am_b mX7_booth) 66 = .ok (.invokevirtual 103, 3) := by decide +kernel
theorem dX7_booth_69 : decode (am_b mX7_booth) 69 = .ok (.ifCond .ge 8, 3) := by decide +kernel
theorem dX7_booth_72 : decode (am_b mX7_booth) 72 = .ok (.bipush (-6), 2) := by decide +kernel
theorem dX7_booth_74 : decode (am_b mX7_booth) 74 = .ok (.goto 9, 3) := by decide +kernel
theorem dX7_booth_77 : decode (am_b mX7_booth) 77 = .ok (.aload_n 0, 1) := by decide +kernel
theorem dX7_booth_78 : decode (am_b mX7_booth) 78 = .ok (.iload_n 1, 1) := by decide +kernel
theorem dX7_booth_79 : decode (am_b mX7_booth) 79 = .ok (.iconst 1, 1) := by decide +kernel
theorem dX7_booth_80 : decode (am_b mX7_booth) 80 = .ok (.invokevirtual 103, 3) := by decide +kernel
theorem dX7_booth_83 : decode (am_b mX7_booth) 83 = .ok (.ireturn, 1) := by decide +kernel
theorem dX7_booth_84 : decode (am_b mX7_booth) 84 = .ok (.aload_n 0, 1) := by decide +kernel
theorem dX7_booth_85 : decode (am_b mX7_booth) 85 = .ok (.iload_n 1, 1) := by decide +kernel
theorem dX7_booth_86 : decode (am_b mX7_booth) 86 = .ok (.iload_n 2, 1) := by decide +kernel
theorem dX7_booth_87 : decode (am_b mX7_booth) 87 = .ok (.invokevirtual 112, 3) := by decide +kernel
theorem dX7_booth_90 : decode (am_b mX7_booth) 90 = .ok (.ireturn, 1) := by decide +kernel
theorem dX7_booth_91 : decode (am_b mX7_booth) 91 = .ok (.aload_n 0, 1) := by decide +kernel
theorem dX7_booth_92 : decode (am_b mX7_booth) 92 = .ok (.iload_n 1, 1) := by decide +kernel
theorem dX7_booth_93 : decode (am_b mX7_booth) 93 = .ok (.iload_n 2, 1) := by decide +kernel
theorem dX7_booth_94 : decode (am_b mX7_booth) 94 = .ok (.iconst 3, 1) := by decide +kernel
theorem dX7_booth_95 : decode (am_b mX7_booth) 95 = .ok (.isub, 1) := by decide +kernel
theorem dX7_booth_96 : decode (am_b mX7_booth) 96 = .ok (.invokevirtual 103, 3) := by decide +kernel
theorem dX7_booth_99 : decode (am_b mX7_booth) 99 = .ok (.ireturn, 1) := by decide +kernel
theorem dX7_booth_100 : decode (am_b mX7_booth) 100 = .ok (.bipush (-2), 2) := by decide +kernel
theorem dX7_booth_102 : decode (am_b mX7_booth) 102 = .ok (.ireturn, 1) := by decide +kernel
theorem dX7_chooses_0 : decode (am_b mX7_chooses) 0 = .ok (.bipush (-6), 2) := by decide +kernel
theorem dX7_chooses_2 : decode (am_b mX7_chooses) 2 = .ok (.istore_n 3, 1) := by decide +kernel
theorem dX7_chooses_3 : decode (am_b mX7_chooses) 3 = .ok (.iconst (-1), 1) := by decide +kernel
theorem dX7_chooses_4 : decode (am_b mX7_chooses) 4 = .ok (.istore 4, 2) := by decide +kernel
theorem dX7_chooses_6 : decode (am_b mX7_chooses) 6 = .ok (.iconst 0, 1) := by decide +kernel
theorem dX7_chooses_7 : decode (am_b mX7_chooses) 7 = .ok (.istore 5, 2) := by decide +kernel
theorem dX7_chooses_9 : decode (am_b mX7_chooses) 9 = .ok (.iload 5, 2) := by decide +kernel
theorem dX7_chooses_11 : decode (am_b mX7_chooses) 11 = .ok (.bipush 12, 2) := by decide +kernel
theorem dX7_chooses_13 : decode (am_b mX7_chooses) 13 = .ok (.if_icmp .ge 63, 3) := by decide +kernel
theorem dX7_chooses_16 : decode (am_b mX7_chooses) 16 = .ok (.aload_n 0, 1) := by decide +kernel
theorem dX7_chooses_17 : decode (am_b mX7_chooses) 17 = .ok (.iload_n 1, 1) := by decide +kernel
theorem dX7_chooses_18 : decode (am_b mX7_chooses) 18 = .ok (.iload 5, 2) := by decide +kernel
theorem dX7_chooses_20 : decode (am_b mX7_chooses) 20 = .ok (.invokevirtual 67, 3) := by decide +kernel
theorem dX7_chooses_23 : decode (am_b mX7_chooses) 23 = .ok (.ifCond .eq 14, 3) := by decide +kernel
theorem dX7_chooses_26 : decode (am_b mX7_chooses) 26 = .ok (.aload_n 0, 1) := by decide +kernel
theorem dX7_chooses_27 : decode (am_b mX7_chooses) 27 = .ok (.iload_n 1, 1) := by decide +kernel
theorem dX7_chooses_28 : decode (am_b mX7_chooses) 28 = .ok (.iload_n 2, 1) := by decide +kernel
theorem dX7_chooses_29 : decode (am_b mX7_chooses) 29 = .ok (.iload 5, 2) := by decide +kernel
theorem dX7_chooses_31 : decode (am_b mX7_chooses) 31 = .ok (.invokevirtual 71, 3) := by decide +kernel
theorem dX7_chooses_34 : decode (am_b mX7_chooses) 34 = .ok (.goto 4, 3) := by decide +kernel
theorem dX7_chooses_37 : decode (am_b mX7_chooses) 37 = .ok (.iconst (-1), 1) := by decide +kernel
theorem dX7_chooses_38 : decode (am_b mX7_chooses) 38 = .ok (.istore 6, 2) := by decide +kernel
theorem dX7_chooses_40 : decode (am_b mX7_chooses) 40 = .ok (.iload 6, 2) := by decide +kernel
theorem dX7_chooses_42 : decode (am_b mX7_chooses) 42 = .ok (.iload 4, 2) := by decide +kernel
theorem dX7_chooses_44 : decode (am_b mX7_chooses) 44 = .ok (.if_icmp .le 8, 3) := by decide +kernel
theorem dX7_chooses_47 : decode (am_b mX7_chooses) 47 = .ok (.iload 5, 2) := by decide +kernel
theorem dX7_chooses_49 : decode (am_b mX7_chooses) 49 = .ok (.goto 4, 3) := by decide +kernel
theorem dX7_chooses_52 : decode (am_b mX7_chooses) 52 = .ok (.iload_n 3, 1) := by decide +kernel
theorem dX7_chooses_53 : decode (am_b mX7_chooses) 53 = .ok (.istore_n 3, 1) := by decide +kernel
theorem dX7_chooses_54 : decode (am_b mX7_chooses) 54 = .ok (.iload 6, 2) := by decide +kernel
theorem dX7_chooses_56 : decode (am_b mX7_chooses) 56 = .ok (.iload 4, 2) := by decide +kernel
theorem dX7_chooses_58 : decode (am_b mX7_chooses) 58 = .ok (.if_icmp .le 8, 3) := by decide +kernel
theorem dX7_chooses_61 : decode (am_b mX7_chooses) 61 = .ok (.iload 6, 2) := by decide +kernel
theorem dX7_chooses_63 : decode (am_b mX7_chooses) 63 = .ok (.goto 5, 3) := by decide +kernel
theorem dX7_chooses_66 : decode (am_b mX7_chooses) 66 = .ok (.iload 4, 2) := by decide +kernel
theorem dX7_chooses_68 : decode (am_b mX7_chooses) 68 = .ok (.istore 4, 2) := by decide +kernel
theorem dX7_chooses_70 : decode (am_b mX7_chooses) 70 = .ok (.iinc 5 1, 3) := by decide +kernel
theorem dX7_chooses_73 : decode (am_b mX7_chooses) 73 = .ok (.goto (-64), 3) := by decide +kernel
theorem dX7_chooses_76 : decode (am_b mX7_chooses) 76 = .ok (.aload_n 0, 1) := by decide +kernel
theorem dX7_chooses_77 : decode (am_b mX7_chooses) 77 = .ok (.getfield 7, 3) := by decide +kernel
theorem dX7_chooses_80 : decode (am_b mX7_chooses) 80 = .ok (.iload_n 1, 1) := by decide +kernel
theorem dX7_chooses_81 : decode (am_b mX7_chooses) 81 = .ok (.iload_n 2, 1) := by decide +kernel
theorem dX7_chooses_82 : decode (am_b mX7_chooses) 82 = .ok (.invokestatic 36, 3) := by decide +kernel
theorem dX7_chooses_85 : decode (am_b mX7_chooses) 85 = .ok (.iconst 1, 1) := by decide +kernel
theorem dX7_chooses_86 : decode (am_b mX7_chooses) 86 = .ok (.iadd, 1) := by decide +kernel
theorem dX7_chooses_87 : decode (am_b mX7_chooses) 87 = .ok (.iload_n 3, 1) := by decide +kernel
theorem dX7_chooses_88 : decode (am_b mX7_chooses) 88 = .ok (.bipush (-6), 2) := by decide +kernel
theorem dX7_chooses_90 : decode (am_b mX7_chooses) 90 = .ok (.if_icmp .ne 7, 3) := by decide +kernel
theorem dX7_chooses_93 : decode (am_b mX7_chooses) 93 = .ok (.iconst (-1), 1) := by decide +kernel
theorem dX7_chooses_94 : decode (am_b mX7_chooses) 94 = .ok (.goto 4, 3) := by decide +kernel
theorem dX7_chooses_97 : decode (am_b mX7_chooses) 97 = .ok (.iload_n 3, 1) := by decide +kernel
theorem dX7_chooses_98 : decode (am_b mX7_chooses) 98 = .ok (.iastore, 1) := by decide +kernel
theorem dX7_chooses_99 : decode (am_b mX7_chooses) 99 = .ok (.aload_n 0, 1) := by decide +kernel
theorem dX7_chooses_100 : decode (am_b mX7_chooses) 100 = .ok (.getfield 7, 3) := by decide +kernel
theorem dX7_chooses_103 : decode (am_b mX7_chooses) 103 = .ok (.iload_n 1, 1) := by decide +kernel
theorem dX7_chooses_104 : decode (am_b mX7_chooses) 104 = .ok (.iload_n 2, 1) := by decide +kernel
theorem dX7_chooses_105 : decode (am_b mX7_chooses) 105 = .ok (.invokestatic 36, 3) := by decide +kernel
theorem dX7_chooses_108 : decode (am_b mX7_chooses) 108 = .ok (.iconst 4, 1) := by decide +kernel
theorem dX7_chooses_109 : decode (am_b mX7_chooses) 109 = .ok (.iadd, 1) := by decide +kernel
theorem dX7_chooses_110 : decode (am_b mX7_chooses) 110 = .ok (.dup2, 1) := by decide +kernel
theorem dX7_chooses_111 : decode (am_b mX7_chooses) 111 = .ok (.iaload, 1) := by decide +kernel
theorem dX7_chooses_112 : decode (am_b mX7_chooses) 112 = .ok (.iload_n 3, 1) := by decide +kernel
theorem dX7_chooses_113 : decode (am_b mX7_chooses) 113 = .ok (.bipush (-6), 2) := by decide +kernel
theorem dX7_chooses_115 : decode (am_b mX7_chooses) 115 = .ok (.if_icmp .ne 7, 3) := by decide +kernel
theorem dX7_chooses_118 : decode (am_b mX7_chooses) 118 = .ok (.iconst 1, 1) := by decide +kernel
theorem dX7_chooses_119 : decode (am_b mX7_chooses) 119 = .ok (.goto 4, 3) := by decide +kernel
theorem dX7_chooses_122 : decode (am_b mX7_chooses) 122 = .ok (.iconst 0, 1) := by decide +kernel
theorem dX7_chooses_123 : decode (am_b mX7_chooses) 123 = .ok (.iadd, 1) := by decide +kernel
theorem dX7_chooses_124 : decode (am_b mX7_chooses) 124 = .ok (.iastore, 1) := by decide +kernel
theorem dX7_chooses_125 : decode (am_b mX7_chooses) 125 = .ok (.return_, 1) := by decide +kernel
theorem dX7_count_0 : decode (am_b mX7_count) 0 = .ok (.iload_n 1, 1) := by decide +kernel
theorem dX7_count_1 : decode (am_b mX7_count) 1 = .ok (.tableswitch 122 6 16 #[59, 67, 75, 80, 88, 93, 99, 99, 99, 112, 117], 59) := by decide +kernel
theorem dX7_count_60 : decode (am_b mX7_count) 60 = .ok (.aload_n 0, 1) := by decide +kernel
theorem dX7_count_61 : decode (am_b mX7_count) 61 = .ok (.getfield 7, 3) := by decide +kernel
theorem dX7_count_64 : decode (am_b mX7_count) 64 = .ok (.bipush 6, 2) := by decide +kernel
theorem dX7_count_66 : decode (am_b mX7_count) 66 = .ok (.iaload, 1) := by decide +kernel
theorem dX7_count_67 : decode (am_b mX7_count) 67 = .ok (.ireturn, 1) := by decide +kernel
theorem dX7_count_68 : decode (am_b mX7_count) 68 = .ok (.aload_n 0, 1) := by decide +kernel
theorem dX7_count_69 : decode (am_b mX7_count) 69 = .ok (.getfield 7, 3) := by decide +kernel
theorem dX7_count_72 : decode (am_b mX7_count) 72 = .ok (.bipush 7, 2) := by decide +kernel
theorem dX7_count_74 : decode (am_b mX7_count) 74 = .ok (.iaload, 1) := by decide +kernel
theorem dX7_count_75 : decode (am_b mX7_count) 75 = .ok (.ireturn, 1) := by decide +kernel
theorem dX7_count_76 : decode (am_b mX7_count) 76 = .ok (.aload_n 0, 1) := by decide +kernel
theorem dX7_count_77 : decode (am_b mX7_count) 77 = .ok (.invokevirtual 124, 3) := by decide +kernel
theorem dX7_count_80 : decode (am_b mX7_count) 80 = .ok (.ireturn, 1) := by decide +kernel
theorem dX7_count_81 : decode (am_b mX7_count) 81 = .ok (.aload_n 0, 1) := by decide +kernel
theorem dX7_count_82 : decode (am_b mX7_count) 82 = .ok (.getfield 7, 3) := by decide +kernel
theorem dX7_count_85 : decode (am_b mX7_count) 85 = .ok (.bipush 8, 2) := by decide +kernel
theorem dX7_count_87 : decode (am_b mX7_count) 87 = .ok (.iaload, 1) := by decide +kernel
theorem dX7_count_88 : decode (am_b mX7_count) 88 = .ok (.ireturn, 1) := by decide +kernel
theorem dX7_count_89 : decode (am_b mX7_count) 89 = .ok (.aload_n 0, 1) := by decide +kernel
theorem dX7_count_90 : decode (am_b mX7_count) 90 = .ok (.invokevirtual 127, 3) := by decide +kernel
theorem dX7_count_93 : decode (am_b mX7_count) 93 = .ok (.ireturn, 1) := by decide +kernel
theorem dX7_count_94 : decode (am_b mX7_count) 94 = .ok (.aload_n 0, 1) := by decide +kernel
theorem dX7_count_95 : decode (am_b mX7_count) 95 = .ok (.iconst 0, 1) := by decide +kernel
theorem dX7_count_96 : decode (am_b mX7_count) 96 = .ok (.invokevirtual 50, 3) := by decide +kernel
theorem dX7_count_99 : decode (am_b mX7_count) 99 = .ok (.ireturn, 1) := by decide +kernel
theorem dX7_count_100 : decode (am_b mX7_count) 100 = .ok (.aload_n 0, 1) := by decide +kernel
theorem dX7_count_101 : decode (am_b mX7_count) 101 = .ok (.getfield 7, 3) := by decide +kernel
theorem dX7_count_104 : decode (am_b mX7_count) 104 = .ok (.bipush 9, 2) := by decide +kernel
theorem dX7_count_106 : decode (am_b mX7_count) 106 = .ok (.iload_n 1, 1) := by decide +kernel
theorem dX7_count_107 : decode (am_b mX7_count) 107 = .ok (.iadd, 1) := by decide +kernel
theorem dX7_count_108 : decode (am_b mX7_count) 108 = .ok (.bipush 12, 2) := by decide +kernel
theorem dX7_count_110 : decode (am_b mX7_count) 110 = .ok (.isub, 1) := by decide +kernel
theorem dX7_count_111 : decode (am_b mX7_count) 111 = .ok (.iaload, 1) := by decide +kernel
theorem dX7_count_112 : decode (am_b mX7_count) 112 = .ok (.ireturn, 1) := by decide +kernel
theorem dX7_count_113 : decode (am_b mX7_count) 113 = .ok (.aload_n 0, 1) := by decide +kernel
theorem dX7_count_114 : decode (am_b mX7_count) 114 = .ok (.getfield 130, 3) := by decide +kernel
theorem dX7_count_117 : decode (am_b mX7_count) 117 = .ok (.ireturn, 1) := by decide +kernel
theorem dX7_count_118 : decode (am_b mX7_count) 118 = .ok (.aload_n 0, 1) := by decide +kernel
theorem dX7_count_119 : decode (am_b mX7_count) 119 = .ok (.getfield 40, 3) := by decide +kernel
theorem dX7_count_122 : decode (am_b mX7_count) 122 = .ok (.ireturn, 1) := by decide +kernel
theorem dX7_count_123 : decode (am_b mX7_count) 123 = .ok (.iload_n 1, 1) := by decide +kernel
theorem dX7_count_124 : decode (am_b mX7_count) 124 = .ok (.iconst 0, 1) := by decide +kernel
theorem dX7_count_125 : decode (am_b mX7_count) 125 = .ok (.iconst 5, 1) := by decide +kernel
theorem dX7_count_126 : decode (am_b mX7_count) 126 = .ok (.invokestatic 32, 3) := by decide +kernel
theorem dX7_count_129 : decode (am_b mX7_count) 129 = .ok (.ifCond .eq 12, 3) := by decide +kernel
theorem dX7_count_132 : decode (am_b mX7_count) 132 = .ok (.aload_n 0, 1) := by decide +kernel
theorem dX7_count_133 : decode (am_b mX7_count) 133 = .ok (.getfield 7, 3) := by decide +kernel
theorem dX7_count_136 : decode (am_b mX7_count) 136 = .ok (.iload_n 1, 1) := by decide +kernel
theorem dX7_count_137 : decode (am_b mX7_count) 137 = .ok (.iaload, 1) := by decide +kernel
theorem dX7_count_138 : decode (am_b mX7_count) 138 = .ok (.goto 5, 3) := by decide +kernel
theorem dX7_count_141 : decode (am_b mX7_count) 141 = .ok (.bipush (-2), 2) := by decide +kernel
theorem dX7_count_143 : decode (am_b mX7_count) 143 = .ok (.ireturn, 1) := by decide +kernel
theorem dX7_ifStood_0 : decode (am_b mX7_ifStood) 0 = .ok (.aload_n 0, 1) := by decide +kernel
theorem dX7_ifStood_1 : decode (am_b mX7_ifStood) 1 = .ok (.iload_n 1, 1) := by decide +kernel
theorem dX7_ifStood_2 : decode (am_b mX7_ifStood) 2 = .ok (.invokevirtual 100, 3) := by decide +kernel
theorem dX7_ifStood_5 : decode (am_b mX7_ifStood) 5 = .ok (.ifCond .eq 10, 3) := by decide +kernel
theorem dX7_ifStood_8 : decode (am_b mX7_ifStood) 8 = .ok (.iload_n 2, 1) := by decide +kernel
theorem dX7_ifStood_9 : decode (am_b mX7_ifStood) 9 = .ok (.invokestatic 89, 3) := by decide +kernel
theorem dX7_ifStood_12 : decode (am_b mX7_ifStood) 12 = .ok (.ifCond .ne 5, 3) := by decide +kernel
theorem dX7_ifStood_15 : decode (am_b mX7_ifStood) 15 = .ok (.iconst (-1), 1) := by decide +kernel
theorem dX7_ifStood_16 : decode (am_b mX7_ifStood) 16 = .ok (.ireturn, 1) := by decide +kernel
theorem dX7_ifStood_17 : decode (am_b mX7_ifStood) 17 = .ok (.aload_n 0, 1) := by decide +kernel
theorem dX7_ifStood_18 : decode (am_b mX7_ifStood) 18 = .ok (.iload_n 1, 1) := by decide +kernel
theorem dX7_ifStood_19 : decode (am_b mX7_ifStood) 19 = .ok (.iload_n 2, 1) := by decide +kernel
theorem dX7_ifStood_20 : decode (am_b mX7_ifStood) 20 = .ok (.invokevirtual 106, 3) := by decide +kernel
theorem dX7_ifStood_23 : decode (am_b mX7_ifStood) 23 = .ok (.ifCond .eq 8, 3) := by decide +kernel
theorem dX7_ifStood_26 : decode (am_b mX7_ifStood) 26 = .ok (.bipush (-5), 2) := by decide +kernel
theorem dX7_ifStood_28 : decode (am_b mX7_ifStood) 28 = .ok (.goto 10, 3) := by decide +kernel
theorem dX7_ifStood_31 : decode (am_b mX7_ifStood) 31 = .ok (.aload_n 0, 1) := by decide +kernel
theorem dX7_ifStood_32 : decode (am_b mX7_ifStood) 32 = .ok (.iconst 0, 1) := by decide +kernel
theorem dX7_ifStood_33 : decode (am_b mX7_ifStood) 33 = .ok (.iload_n 1, 1) := by decide +kernel
theorem dX7_ifStood_34 : decode (am_b mX7_ifStood) 34 = .ok (.iload_n 2, 1) := by decide +kernel
theorem dX7_ifStood_35 : decode (am_b mX7_ifStood) 35 = .ok (.invokevirtual 71, 3) := by decide +kernel
theorem dX7_ifStood_38 : decode (am_b mX7_ifStood) 38 = .ok (.ireturn, 1) := by decide +kernel
theorem dX7_read_0 : decode (am_b mX7_read) 0 = .ok (.aload_n 0, 1) := by decide +kernel
theorem dX7_read_1 : decode (am_b mX7_read) 1 = .ok (.invokevirtual 150, 3) := by decide +kernel
theorem dX7_read_4 : decode (am_b mX7_read) 4 = .ok (.bipush (-6), 2) := by decide +kernel
theorem dX7_read_6 : decode (am_b mX7_read) 6 = .ok (.if_icmp .eq 6, 3) := by decide +kernel
theorem dX7_read_9 : decode (am_b mX7_read) 9 = .ok (.bipush (-3), 2) := by decide +kernel
theorem dX7_read_11 : decode (am_b mX7_read) 11 = .ok (.ireturn, 1) := by decide +kernel
theorem dX7_read_12 : decode (am_b mX7_read) 12 = .ok (.aload_n 0, 1) := by decide +kernel
theorem dX7_read_13 : decode (am_b mX7_read) 13 = .ok (.invokevirtual 153, 3) := by decide +kernel
theorem dX7_read_16 : decode (am_b mX7_read) 16 = .ok (.ifCond .eq 6, 3) := by decide +kernel
theorem dX7_read_19 : decode (am_b mX7_read) 19 = .ok (.bipush (-5), 2) := by decide +kernel
theorem dX7_read_21 : decode (am_b mX7_read) 21 = .ok (.ireturn, 1) := by decide +kernel
theorem dX7_read_22 : decode (am_b mX7_read) 22 = .ok (.aload_n 0, 1) := by decide +kernel
theorem dX7_read_23 : decode (am_b mX7_read) 23 = .ok (.invokevirtual 86, 3) := by decide +kernel
theorem dX7_read_26 : decode (am_b mX7_read) 26 = .ok (.aload_n 0, 1) := by decide +kernel
theorem dX7_read_27 : decode (am_b mX7_read) 27 = .ok (.getfield 7, 3) := by decide +kernel
theorem dX7_read_30 : decode (am_b mX7_read) 30 = .ok (.bipush 7, 2) := by decide +kernel
theorem dX7_read_32 : decode (am_b mX7_read) 32 = .ok (.iconst 0, 1) := by decide +kernel
theorem dX7_read_33 : decode (am_b mX7_read) 33 = .ok (.iastore, 1) := by decide +kernel
theorem dX7_read_34 : decode (am_b mX7_read) 34 = .ok (.aload_n 0, 1) := by decide +kernel
theorem dX7_read_35 : decode (am_b mX7_read) 35 = .ok (.invokevirtual 29, 3) := by decide +kernel
theorem dX7_read_38 : decode (am_b mX7_read) 38 = .ok (.iconst 0, 1) := by decide +kernel
theorem dX7_read_39 : decode (am_b mX7_read) 39 = .ok (.istore_n 1, 1) := by decide +kernel
theorem dX7_read_40 : decode (am_b mX7_read) 40 = .ok (.iload_n 1, 1) := by decide +kernel
theorem dX7_read_41 : decode (am_b mX7_read) 41 = .ok (.aload_n 0, 1) := by decide +kernel
theorem dX7_read_42 : decode (am_b mX7_read) 42 = .ok (.getfield 130, 3) := by decide +kernel
theorem dX7_read_45 : decode (am_b mX7_read) 45 = .ok (.if_icmp .ge 28, 3) := by decide +kernel
theorem dX7_read_48 : decode (am_b mX7_read) 48 = .ok (.aload_n 0, 1) := by decide +kernel
theorem dX7_read_49 : decode (am_b mX7_read) 49 = .ok (.aload_n 0, 1) := by decide +kernel
theorem dX7_read_50 : decode (am_b mX7_read) 50 = .ok (.iload_n 1, 1) := by decide +kernel
theorem dX7_read_51 : decode (am_b mX7_read) 51 = .ok (.invokevirtual 141, 3) := by decide +kernel
theorem dX7_read_54 : decode (am_b mX7_read) 54 = .ok (.aload_n 0, 1) := by decide +kernel
theorem dX7_read_55 : decode (am_b mX7_read) 55 = .ok (.iload_n 1, 1) := by decide +kernel
theorem dX7_read_56 : decode (am_b mX7_read) 56 = .ok (.invokevirtual 147, 3) := by decide +kernel
theorem dX7_read_59 : decode (am_b mX7_read) 59 = .ok (.invokevirtual 97, 3) := by decide +kernel
theorem dX7_read_62 : decode (am_b mX7_read) 62 = .ok (.aload_n 0, 1) := by decide +kernel
theorem dX7_read_63 : decode (am_b mX7_read) 63 = .ok (.iload_n 1, 1) := by decide +kernel
theorem dX7_read_64 : decode (am_b mX7_read) 64 = .ok (.invokevirtual 144, 3) := by decide +kernel
theorem dX7_read_67 : decode (am_b mX7_read) 67 = .ok (.iconst 1, 1) := by decide +kernel
theorem dX7_read_68 : decode (am_b mX7_read) 68 = .ok (.iadd, 1) := by decide +kernel
theorem dX7_read_69 : decode (am_b mX7_read) 69 = .ok (.istore_n 1, 1) := by decide +kernel
theorem dX7_read_70 : decode (am_b mX7_read) 70 = .ok (.goto (-30), 3) := by decide +kernel
theorem dX7_read_73 : decode (am_b mX7_read) 73 = .ok (.aload_n 0, 1) := by decide +kernel
theorem dX7_read_74 : decode (am_b mX7_read) 74 = .ok (.iconst 0, 1) := by decide +kernel
theorem dX7_read_75 : decode (am_b mX7_read) 75 = .ok (.putfield 130, 3) := by decide +kernel
theorem dX7_read_78 : decode (am_b mX7_read) 78 = .ok (.aload_n 0, 1) := by decide +kernel
theorem dX7_read_79 : decode (am_b mX7_read) 79 = .ok (.getfield 7, 3) := by decide +kernel
theorem dX7_read_82 : decode (am_b mX7_read) 82 = .ok (.bipush 7, 2) := by decide +kernel
theorem dX7_read_84 : decode (am_b mX7_read) 84 = .ok (.iaload, 1) := by decide +kernel
theorem dX7_read_85 : decode (am_b mX7_read) 85 = .ok (.ireturn, 1) := by decide +kernel
theorem dX7_plays_0 : decode (am_b mX7_plays) 0 = .ok (.iconst 0, 1) := by decide +kernel
theorem dX7_plays_1 : decode (am_b mX7_plays) 1 = .ok (.istore_n 2, 1) := by decide +kernel
theorem dX7_plays_2 : decode (am_b mX7_plays) 2 = .ok (.iload_n 2, 1) := by decide +kernel
theorem dX7_plays_3 : decode (am_b mX7_plays) 3 = .ok (.aload_n 0, 1) := by decide +kernel
theorem dX7_plays_4 : decode (am_b mX7_plays) 4 = .ok (.getfield 7, 3) := by decide +kernel
theorem dX7_plays_7 : decode (am_b mX7_plays) 7 = .ok (.iload_n 1, 1) := by decide +kernel
theorem dX7_plays_8 : decode (am_b mX7_plays) 8 = .ok (.bipush 7, 2) := by decide +kernel
theorem dX7_plays_10 : decode (am_b mX7_plays) 10 = .ok (.iadd, 1) := by decide +kernel
theorem dX7_plays_11 : decode (am_b mX7_plays) 11 = .ok (.iaload, 1) := by decide +kernel
theorem dX7_plays_12 : decode (am_b mX7_plays) 12 = .ok (.if_icmp .ge 22, 3) := by decide +kernel
theorem dX7_plays_15 : decode (am_b mX7_plays) 15 = .ok (.aload_n 0, 1) := by decide +kernel
theorem dX7_plays_16 : decode (am_b mX7_plays) 16 = .ok (.getfield 7, 3) := by decide +kernel
theorem dX7_plays_19 : decode (am_b mX7_plays) 19 = .ok (.iload_n 1, 1) := by decide +kernel
theorem dX7_plays_20 : decode (am_b mX7_plays) 20 = .ok (.iload_n 2, 1) := by decide +kernel
theorem dX7_plays_21 : decode (am_b mX7_plays) 21 = .ok (.invokestatic 36, 3) := by decide +kernel
theorem dX7_plays_24 : decode (am_b mX7_plays) 24 = .ok (.iconst 1, 1) := by decide +kernel
theorem dX7_plays_25 : decode (am_b mX7_plays) 25 = .ok (.iadd, 1) := by decide +kernel
theorem dX7_plays_26 : decode (am_b mX7_plays) 26 = .ok (.iconst (-1), 1) := by decide +kernel
theorem dX7_plays_27 : decode (am_b mX7_plays) 27 = .ok (.iastore, 1) := by decide +kernel
theorem dX7_plays_28 : decode (am_b mX7_plays) 28 = .ok (.iinc 2 1, 3) := by decide +kernel
theorem dX7_plays_31 : decode (am_b mX7_plays) 31 = .ok (.goto (-29), 3) := by decide +kernel
theorem dX7_plays_34 : decode (am_b mX7_plays) 34 = .ok (.aload_n 0, 1) := by decide +kernel
theorem dX7_plays_35 : decode (am_b mX7_plays) 35 = .ok (.iload_n 1, 1) := by decide +kernel
theorem dX7_plays_36 : decode (am_b mX7_plays) 36 = .ok (.invokevirtual 75, 3) := by decide +kernel
theorem dX7_plays_39 : decode (am_b mX7_plays) 39 = .ok (.iconst 0, 1) := by decide +kernel
theorem dX7_plays_40 : decode (am_b mX7_plays) 40 = .ok (.istore_n 2, 1) := by decide +kernel
theorem dX7_plays_41 : decode (am_b mX7_plays) 41 = .ok (.iload_n 2, 1) := by decide +kernel
theorem dX7_plays_42 : decode (am_b mX7_plays) 42 = .ok (.aload_n 0, 1) := by decide +kernel
theorem dX7_plays_43 : decode (am_b mX7_plays) 43 = .ok (.getfield 7, 3) := by decide +kernel
theorem dX7_plays_46 : decode (am_b mX7_plays) 46 = .ok (.iload_n 1, 1) := by decide +kernel
theorem dX7_plays_47 : decode (am_b mX7_plays) 47 = .ok (.bipush 7, 2) := by decide +kernel
theorem dX7_plays_49 : decode (am_b mX7_plays) 49 = .ok (.iadd, 1) := by decide +kernel
theorem dX7_plays_50 : decode (am_b mX7_plays) 50 = .ok (.iaload, 1) := by decide +kernel
theorem dX7_plays_51 : decode (am_b mX7_plays) 51 = .ok (.if_icmp .ge 51, 3) := by decide +kernel
theorem dX7_plays_54 : decode (am_b mX7_plays) 54 = .ok (.aload_n 0, 1) := by decide +kernel
theorem dX7_plays_55 : decode (am_b mX7_plays) 55 = .ok (.getfield 7, 3) := by decide +kernel
theorem dX7_plays_58 : decode (am_b mX7_plays) 58 = .ok (.iload_n 1, 1) := by decide +kernel
theorem dX7_plays_59 : decode (am_b mX7_plays) 59 = .ok (.bipush 12, 2) := by decide +kernel
theorem dX7_plays_61 : decode (am_b mX7_plays) 61 = .ok (.iadd, 1) := by decide +kernel
theorem dX7_plays_62 : decode (am_b mX7_plays) 62 = .ok (.iload_n 2, 1) := by decide +kernel
theorem dX7_plays_63 : decode (am_b mX7_plays) 63 = .ok (.iadd, 1) := by decide +kernel
theorem dX7_plays_64 : decode (am_b mX7_plays) 64 = .ok (.iaload, 1) := by decide +kernel
theorem dX7_plays_65 : decode (am_b mX7_plays) 65 = .ok (.istore_n 3, 1) := by decide +kernel
theorem dX7_plays_66 : decode (am_b mX7_plays) 66 = .ok (.aload_n 0, 1) := by decide +kernel
theorem dX7_plays_67 : decode (am_b mX7_plays) 67 = .ok (.getfield 7, 3) := by decide +kernel
theorem dX7_plays_70 : decode (am_b mX7_plays) 70 = .ok (.iload_n 1, 1) := by decide +kernel
theorem dX7_plays_71 : decode (am_b mX7_plays) 71 = .ok (.iload_n 3, 1) := by decide +kernel
theorem dX7_plays_72 : decode (am_b mX7_plays) 72 = .ok (.invokestatic 36, 3) := by decide +kernel
theorem dX7_plays_75 : decode (am_b mX7_plays) 75 = .ok (.iconst 3, 1) := by decide +kernel
theorem dX7_plays_76 : decode (am_b mX7_plays) 76 = .ok (.iadd, 1) := by decide +kernel
theorem dX7_plays_77 : decode (am_b mX7_plays) 77 = .ok (.dup2, 1) := by decide +kernel
theorem dX7_plays_78 : decode (am_b mX7_plays) 78 = .ok (.iaload, 1) := by decide +kernel
theorem dX7_plays_79 : decode (am_b mX7_plays) 79 = .ok (.iload_n 2, 1) := by decide +kernel
theorem dX7_plays_80 : decode (am_b mX7_plays) 80 = .ok (.ifCond .ne 7, 3) := by decide +kernel
theorem dX7_plays_83 : decode (am_b mX7_plays) 83 = .ok (.iconst 1, 1) := by decide +kernel
theorem dX7_plays_84 : decode (am_b mX7_plays) 84 = .ok (.goto 4, 3) := by decide +kernel
theorem dX7_plays_87 : decode (am_b mX7_plays) 87 = .ok (.iconst 0, 1) := by decide +kernel
theorem dX7_plays_88 : decode (am_b mX7_plays) 88 = .ok (.iadd, 1) := by decide +kernel
theorem dX7_plays_89 : decode (am_b mX7_plays) 89 = .ok (.iastore, 1) := by decide +kernel
theorem dX7_plays_90 : decode (am_b mX7_plays) 90 = .ok (.aload_n 0, 1) := by decide +kernel
theorem dX7_plays_91 : decode (am_b mX7_plays) 91 = .ok (.iload_n 1, 1) := by decide +kernel
theorem dX7_plays_92 : decode (am_b mX7_plays) 92 = .ok (.iload_n 3, 1) := by decide +kernel
theorem dX7_plays_93 : decode (am_b mX7_plays) 93 = .ok (.invokevirtual 79, 3) := by decide +kernel
theorem dX7_plays_96 : decode (am_b mX7_plays) 96 = .ok (.iinc 2 1, 3) := by decide +kernel
theorem dX7_plays_99 : decode (am_b mX7_plays) 99 = .ok (.goto (-58), 3) := by decide +kernel
theorem dX7_plays_102 : decode (am_b mX7_plays) 102 = .ok (.aload_n 0, 1) := by decide +kernel
theorem dX7_plays_103 : decode (am_b mX7_plays) 103 = .ok (.iload_n 1, 1) := by decide +kernel
theorem dX7_plays_104 : decode (am_b mX7_plays) 104 = .ok (.bipush 100, 2) := by decide +kernel
theorem dX7_plays_106 : decode (am_b mX7_plays) 106 = .ok (.invokevirtual 64, 3) := by decide +kernel
theorem dX7_plays_109 : decode (am_b mX7_plays) 109 = .ok (.aload_n 0, 1) := by decide +kernel
theorem dX7_plays_110 : decode (am_b mX7_plays) 110 = .ok (.getfield 7, 3) := by decide +kernel
theorem dX7_plays_113 : decode (am_b mX7_plays) 113 = .ok (.iload_n 1, 1) := by decide +kernel
theorem dX7_plays_114 : decode (am_b mX7_plays) 114 = .ok (.iconst 5, 1) := by decide +kernel
theorem dX7_plays_115 : decode (am_b mX7_plays) 115 = .ok (.iadd, 1) := by decide +kernel
theorem dX7_plays_116 : decode (am_b mX7_plays) 116 = .ok (.iaload, 1) := by decide +kernel
theorem dX7_plays_117 : decode (am_b mX7_plays) 117 = .ok (.if_icmp .ge 7, 3) := by decide +kernel
theorem dX7_plays_120 : decode (am_b mX7_plays) 120 = .ok (.iconst 1, 1) := by decide +kernel
theorem dX7_plays_121 : decode (am_b mX7_plays) 121 = .ok (.goto 4, 3) := by decide +kernel
theorem dX7_plays_124 : decode (am_b mX7_plays) 124 = .ok (.iconst 0, 1) := by decide +kernel
theorem dX7_plays_125 : decode (am_b mX7_plays) 125 = .ok (.istore_n 2, 1) := by decide +kernel
theorem dX7_plays_126 : decode (am_b mX7_plays) 126 = .ok (.aload_n 0, 1) := by decide +kernel
theorem dX7_plays_127 : decode (am_b mX7_plays) 127 = .ok (.iload_n 1, 1) := by decide +kernel
theorem dX7_plays_128 : decode (am_b mX7_plays) 128 = .ok (.invokevirtual 50, 3) := by decide +kernel
theorem dX7_plays_131 : decode (am_b mX7_plays) 131 = .ok (.istore_n 3, 1) := by decide +kernel
theorem dX7_plays_132 : decode (am_b mX7_plays) 132 = .ok (.iconst 0, 1) := by decide +kernel
theorem dX7_plays_133 : decode (am_b mX7_plays) 133 = .ok (.istore 4, 2) := by decide +kernel
theorem dX7_plays_135 : decode (am_b mX7_plays) 135 = .ok (.iconst 0, 1) := by decide +kernel
theorem dX7_plays_136 : decode (am_b mX7_plays) 136 = .ok (.istore 5, 2) := by decide +kernel
theorem dX7_plays_138 : decode (am_b mX7_plays) 138 = .ok (.iload 5, 2) := by decide +kernel
theorem dX7_plays_140 : decode (am_b mX7_plays) 140 = .ok (.aload_n 0, 1) := by decide +kernel
theorem dX7_plays_141 : decode (am_b mX7_plays) 141 = .ok (.getfield 7, 3) := by decide +kernel
theorem dX7_plays_144 : decode (am_b mX7_plays) 144 = .ok (.iload_n 1, 1) := by decide +kernel
theorem dX7_plays_145 : decode (am_b mX7_plays) 145 = .ok (.bipush 7, 2) := by decide +kernel
theorem dX7_plays_147 : decode (am_b mX7_plays) 147 = .ok (.iadd, 1) := by decide +kernel
theorem dX7_plays_148 : decode (am_b mX7_plays) 148 = .ok (.iaload, 1) := by decide +kernel
theorem dX7_plays_149 : decode (am_b mX7_plays) 149 = .ok (.if_icmp .ge 112, 3) := by decide +kernel
theorem dX7_plays_152 : decode (am_b mX7_plays) 152 = .ok (.aload_n 0, 1) := by decide +kernel
theorem dX7_plays_153 : decode (am_b mX7_plays) 153 = .ok (.getfield 7, 3) := by decide +kernel
theorem dX7_plays_156 : decode (am_b mX7_plays) 156 = .ok (.iload_n 1, 1) := by decide +kernel
theorem dX7_plays_157 : decode (am_b mX7_plays) 157 = .ok (.iload 5, 2) := by decide +kernel
theorem dX7_plays_159 : decode (am_b mX7_plays) 159 = .ok (.invokestatic 36, 3) := by decide +kernel
theorem dX7_plays_162 : decode (am_b mX7_plays) 162 = .ok (.iconst 1, 1) := by decide +kernel
theorem dX7_plays_163 : decode (am_b mX7_plays) 163 = .ok (.iadd, 1) := by decide +kernel
theorem dX7_plays_164 : decode (am_b mX7_plays) 164 = .ok (.iaload, 1) := by decide +kernel
theorem dX7_plays_165 : decode (am_b mX7_plays) 165 = .ok (.istore 6, 2) := by decide +kernel
theorem dX7_plays_167 : decode (am_b mX7_plays) 167 = .ok (.iload_n 2, 1) := by decide +kernel
theorem dX7_plays_168 : decode (am_b mX7_plays) 168 = .ok (.ifCond .eq 26, 3) := by decide +kernel
theorem dX7_plays_171 : decode (am_b mX7_plays) 171 = .ok (.iload 6, 2) := by decide +kernel
theorem dX7_plays_173 : decode (am_b mX7_plays) 173 = .ok (.ifCond .lt 25, 3) := by decide +kernel
theorem dX7_plays_176 : decode (am_b mX7_plays) 176 = .ok (.aload_n 0, 1) := by decide +kernel
theorem dX7_plays_177 : decode (am_b mX7_plays) 177 = .ok (.getfield 7, 3) := by decide +kernel
theorem dX7_plays_180 : decode (am_b mX7_plays) 180 = .ok (.iload_n 1, 1) := by decide +kernel
theorem dX7_plays_181 : decode (am_b mX7_plays) 181 = .ok (.bipush 8, 2) := by decide +kernel
theorem dX7_plays_183 : decode (am_b mX7_plays) 183 = .ok (.iadd, 1) := by decide +kernel
theorem dX7_plays_184 : decode (am_b mX7_plays) 184 = .ok (.iaload, 1) := by decide +kernel
theorem dX7_plays_185 : decode (am_b mX7_plays) 185 = .ok (.iload 6, 2) := by decide +kernel
theorem dX7_plays_187 : decode (am_b mX7_plays) 187 = .ok (.ishr, 1) := by decide +kernel
theorem dX7_plays_188 : decode (am_b mX7_plays) 188 = .ok (.iconst 1, 1) := by decide +kernel
theorem dX7_plays_189 : decode (am_b mX7_plays) 189 = .ok (.iand, 1) := by decide +kernel
theorem dX7_plays_190 : decode (am_b mX7_plays) 190 = .ok (.iconst 1, 1) := by decide +kernel
theorem dX7_plays_191 : decode (am_b mX7_plays) 191 = .ok (.if_icmp .ne 7, 3) := by decide +kernel
theorem dX7_plays_194 : decode (am_b mX7_plays) 194 = .ok (.iconst 1, 1) := by decide +kernel
theorem dX7_plays_195 : decode (am_b mX7_plays) 195 = .ok (.goto 4, 3) := by decide +kernel
theorem dX7_plays_198 : decode (am_b mX7_plays) 198 = .ok (.iconst 0, 1) := by decide +kernel
theorem dX7_plays_199 : decode (am_b mX7_plays) 199 = .ok (.istore 7, 2) := by decide +kernel
theorem dX7_plays_201 : decode (am_b mX7_plays) 201 = .ok (.iload 7, 2) := by decide +kernel
theorem dX7_plays_203 : decode (am_b mX7_plays) 203 = .ok (.ifCond .eq 24, 3) := by decide +kernel
theorem dX7_plays_206 : decode (am_b mX7_plays) 206 = .ok (.aload_n 0, 1) := by decide +kernel
theorem dX7_plays_207 : decode (am_b mX7_plays) 207 = .ok (.iload 5, 2) := by decide +kernel
theorem dX7_plays_209 : decode (am_b mX7_plays) 209 = .ok (.invokevirtual 54, 3) := by decide +kernel
theorem dX7_plays_212 : decode (am_b mX7_plays) 212 = .ok (.aload_n 0, 1) := by decide +kernel
theorem dX7_plays_213 : decode (am_b mX7_plays) 213 = .ok (.getfield 7, 3) := by decide +kernel
theorem dX7_plays_216 : decode (am_b mX7_plays) 216 = .ok (.iload_n 1, 1) := by decide +kernel
theorem dX7_plays_217 : decode (am_b mX7_plays) 217 = .ok (.iconst 3, 1) := by decide +kernel
theorem dX7_plays_218 : decode (am_b mX7_plays) 218 = .ok (.iadd, 1) := by decide +kernel
theorem dX7_plays_219 : decode (am_b mX7_plays) 219 = .ok (.iaload, 1) := by decide +kernel
theorem dX7_plays_220 : decode (am_b mX7_plays) 220 = .ok (.imul, 1) := by decide +kernel
theorem dX7_plays_221 : decode (am_b mX7_plays) 221 = .ok (.bipush 100, 2) := by decide +kernel
theorem dX7_plays_223 : decode (am_b mX7_plays) 223 = .ok (.idiv, 1) := by decide +kernel
theorem dX7_plays_224 : decode (am_b mX7_plays) 224 = .ok (.goto 4, 3) := by decide +kernel
theorem dX7_plays_227 : decode (am_b mX7_plays) 227 = .ok (.iconst 0, 1) := by decide +kernel
theorem dX7_plays_228 : decode (am_b mX7_plays) 228 = .ok (.istore 8, 2) := by decide +kernel
theorem dX7_plays_230 : decode (am_b mX7_plays) 230 = .ok (.aload_n 0, 1) := by decide +kernel
theorem dX7_plays_231 : decode (am_b mX7_plays) 231 = .ok (.getfield 7, 3) := by decide +kernel
theorem dX7_plays_234 : decode (am_b mX7_plays) 234 = .ok (.iload_n 1, 1) := by decide +kernel
theorem dX7_plays_235 : decode (am_b mX7_plays) 235 = .ok (.iload 5, 2) := by decide +kernel
theorem dX7_plays_237 : decode (am_b mX7_plays) 237 = .ok (.invokestatic 36, 3) := by decide +kernel
theorem dX7_plays_240 : decode (am_b mX7_plays) 240 = .ok (.iconst 2, 1) := by decide +kernel
theorem dX7_plays_241 : decode (am_b mX7_plays) 241 = .ok (.iadd, 1) := by decide +kernel
theorem dX7_plays_242 : decode (am_b mX7_plays) 242 = .ok (.dup2, 1) := by decide +kernel
theorem dX7_plays_243 : decode (am_b mX7_plays) 243 = .ok (.iaload, 1) := by decide +kernel
theorem dX7_plays_244 : decode (am_b mX7_plays) 244 = .ok (.iload 8, 2) := by decide +kernel
theorem dX7_plays_246 : decode (am_b mX7_plays) 246 = .ok (.iadd, 1) := by decide +kernel
theorem dX7_plays_247 : decode (am_b mX7_plays) 247 = .ok (.iastore, 1) := by decide +kernel
theorem dX7_plays_248 : decode (am_b mX7_plays) 248 = .ok (.iload 4, 2) := by decide +kernel
theorem dX7_plays_250 : decode (am_b mX7_plays) 250 = .ok (.iload 8, 2) := by decide +kernel
theorem dX7_plays_252 : decode (am_b mX7_plays) 252 = .ok (.iadd, 1) := by decide +kernel
theorem dX7_plays_253 : decode (am_b mX7_plays) 253 = .ok (.istore 4, 2) := by decide +kernel
theorem dX7_plays_255 : decode (am_b mX7_plays) 255 = .ok (.iinc 5 1, 3) := by decide +kernel
theorem dX7_plays_258 : decode (am_b mX7_plays) 258 = .ok (.goto (-120), 3) := by decide +kernel
theorem dX7_plays_261 : decode (am_b mX7_plays) 261 = .ok (.aload_n 0, 1) := by decide +kernel
theorem dX7_plays_262 : decode (am_b mX7_plays) 262 = .ok (.getfield 7, 3) := by decide +kernel
theorem dX7_plays_265 : decode (am_b mX7_plays) 265 = .ok (.iload_n 1, 1) := by decide +kernel
theorem dX7_plays_266 : decode (am_b mX7_plays) 266 = .ok (.bipush 11, 2) := by decide +kernel
theorem dX7_plays_268 : decode (am_b mX7_plays) 268 = .ok (.iadd, 1) := by decide +kernel
theorem dX7_plays_269 : decode (am_b mX7_plays) 269 = .ok (.dup2, 1) := by decide +kernel
theorem dX7_plays_270 : decode (am_b mX7_plays) 270 = .ok (.iaload, 1) := by decide +kernel
theorem dX7_plays_271 : decode (am_b mX7_plays) 271 = .ok (.iload 4, 2) := by decide +kernel
theorem dX7_plays_273 : decode (am_b mX7_plays) 273 = .ok (.iadd, 1) := by decide +kernel
theorem dX7_plays_274 : decode (am_b mX7_plays) 274 = .ok (.iastore, 1) := by decide +kernel
theorem dX7_plays_275 : decode (am_b mX7_plays) 275 = .ok (.aload_n 0, 1) := by decide +kernel
theorem dX7_plays_276 : decode (am_b mX7_plays) 276 = .ok (.getfield 7, 3) := by decide +kernel
theorem dX7_plays_279 : decode (am_b mX7_plays) 279 = .ok (.iload_n 1, 1) := by decide +kernel
theorem dX7_plays_280 : decode (am_b mX7_plays) 280 = .ok (.bipush 10, 2) := by decide +kernel
theorem dX7_plays_282 : decode (am_b mX7_plays) 282 = .ok (.iadd, 1) := by decide +kernel
theorem dX7_plays_283 : decode (am_b mX7_plays) 283 = .ok (.dup2, 1) := by decide +kernel
theorem dX7_plays_284 : decode (am_b mX7_plays) 284 = .ok (.iaload, 1) := by decide +kernel
theorem dX7_plays_285 : decode (am_b mX7_plays) 285 = .ok (.iload_n 2, 1) := by decide +kernel
theorem dX7_plays_286 : decode (am_b mX7_plays) 286 = .ok (.ifCond .eq 7, 3) := by decide +kernel
theorem dX7_plays_289 : decode (am_b mX7_plays) 289 = .ok (.iconst 1, 1) := by decide +kernel
theorem dX7_plays_290 : decode (am_b mX7_plays) 290 = .ok (.goto 4, 3) := by decide +kernel
theorem dX7_plays_293 : decode (am_b mX7_plays) 293 = .ok (.iconst 0, 1) := by decide +kernel
theorem dX7_plays_294 : decode (am_b mX7_plays) 294 = .ok (.iadd, 1) := by decide +kernel
theorem dX7_plays_295 : decode (am_b mX7_plays) 295 = .ok (.iastore, 1) := by decide +kernel
theorem dX7_plays_296 : decode (am_b mX7_plays) 296 = .ok (.aload_n 0, 1) := by decide +kernel
theorem dX7_plays_297 : decode (am_b mX7_plays) 297 = .ok (.getfield 7, 3) := by decide +kernel
theorem dX7_plays_300 : decode (am_b mX7_plays) 300 = .ok (.iload_n 1, 1) := by decide +kernel
theorem dX7_plays_301 : decode (am_b mX7_plays) 301 = .ok (.bipush 9, 2) := by decide +kernel
theorem dX7_plays_303 : decode (am_b mX7_plays) 303 = .ok (.iadd, 1) := by decide +kernel
theorem dX7_plays_304 : decode (am_b mX7_plays) 304 = .ok (.dup2, 1) := by decide +kernel
theorem dX7_plays_305 : decode (am_b mX7_plays) 305 = .ok (.iaload, 1) := by decide +kernel
theorem dX7_plays_306 : decode (am_b mX7_plays) 306 = .ok (.iconst 1, 1) := by decide +kernel
theorem dX7_plays_307 : decode (am_b mX7_plays) 307 = .ok (.iadd, 1) := by decide +kernel
theorem dX7_plays_308 : decode (am_b mX7_plays) 308 = .ok (.iastore, 1) := by decide +kernel
theorem dX7_plays_309 : decode (am_b mX7_plays) 309 = .ok (.iload 4, 2) := by decide +kernel
theorem dX7_plays_311 : decode (am_b mX7_plays) 311 = .ok (.ireturn, 1) := by decide +kernel
theorem dX7_ifPlayed_0 : decode (am_b mX7_ifPlayed) 0 = .ok (.iload_n 1, 1) := by decide +kernel
theorem dX7_ifPlayed_1 : decode (am_b mX7_ifPlayed) 1 = .ok (.iconst 1, 1) := by decide +kernel
theorem dX7_ifPlayed_2 : decode (am_b mX7_ifPlayed) 2 = .ok (.bipush 100, 2) := by decide +kernel
theorem dX7_ifPlayed_4 : decode (am_b mX7_ifPlayed) 4 = .ok (.invokestatic 32, 3) := by decide +kernel
theorem dX7_ifPlayed_7 : decode (am_b mX7_ifPlayed) 7 = .ok (.ifCond .eq 12, 3) := by decide +kernel
theorem dX7_ifPlayed_10 : decode (am_b mX7_ifPlayed) 10 = .ok (.iload_n 2, 1) := by decide +kernel
theorem dX7_ifPlayed_11 : decode (am_b mX7_ifPlayed) 11 = .ok (.iconst 0, 1) := by decide +kernel
theorem dX7_ifPlayed_12 : decode (am_b mX7_ifPlayed) 12 = .ok (.iconst 1, 1) := by decide +kernel
theorem dX7_ifPlayed_13 : decode (am_b mX7_ifPlayed) 13 = .ok (.invokestatic 32, 3) := by decide +kernel
theorem dX7_ifPlayed_16 : decode (am_b mX7_ifPlayed) 16 = .ok (.ifCond .ne 6, 3) := by decide +kernel
theorem dX7_ifPlayed_19 : decode (am_b mX7_ifPlayed) 19 = .ok (.bipush (-2), 2) := by decide +kernel
theorem dX7_ifPlayed_21 : decode (am_b mX7_ifPlayed) 21 = .ok (.ireturn, 1) := by decide +kernel
theorem dX7_ifPlayed_22 : decode (am_b mX7_ifPlayed) 22 = .ok (.aload_n 0, 1) := by decide +kernel
theorem dX7_ifPlayed_23 : decode (am_b mX7_ifPlayed) 23 = .ok (.invokevirtual 133, 3) := by decide +kernel
theorem dX7_ifPlayed_26 : decode (am_b mX7_ifPlayed) 26 = .ok (.iconst 0, 1) := by decide +kernel
theorem dX7_ifPlayed_27 : decode (am_b mX7_ifPlayed) 27 = .ok (.istore_n 3, 1) := by decide +kernel
theorem dX7_ifPlayed_28 : decode (am_b mX7_ifPlayed) 28 = .ok (.iconst 0, 1) := by decide +kernel
theorem dX7_ifPlayed_29 : decode (am_b mX7_ifPlayed) 29 = .ok (.istore 4, 2) := by decide +kernel
theorem dX7_ifPlayed_31 : decode (am_b mX7_ifPlayed) 31 = .ok (.iload 4, 2) := by decide +kernel
theorem dX7_ifPlayed_33 : decode (am_b mX7_ifPlayed) 33 = .ok (.iload_n 1, 1) := by decide +kernel
theorem dX7_ifPlayed_34 : decode (am_b mX7_ifPlayed) 34 = .ok (.if_icmp .ge 18, 3) := by decide +kernel
theorem dX7_ifPlayed_37 : decode (am_b mX7_ifPlayed) 37 = .ok (.iload_n 3, 1) := by decide +kernel
theorem dX7_ifPlayed_38 : decode (am_b mX7_ifPlayed) 38 = .ok (.aload_n 0, 1) := by decide +kernel
theorem dX7_ifPlayed_39 : decode (am_b mX7_ifPlayed) 39 = .ok (.bipush 60, 2) := by decide +kernel
theorem dX7_ifPlayed_41 : decode (am_b mX7_ifPlayed) 41 = .ok (.invokevirtual 109, 3) := by decide +kernel
theorem dX7_ifPlayed_44 : decode (am_b mX7_ifPlayed) 44 = .ok (.iadd, 1) := by decide +kernel
theorem dX7_ifPlayed_45 : decode (am_b mX7_ifPlayed) 45 = .ok (.istore_n 3, 1) := by decide +kernel
theorem dX7_ifPlayed_46 : decode (am_b mX7_ifPlayed) 46 = .ok (.iinc 4 1, 3) := by decide +kernel
theorem dX7_ifPlayed_49 : decode (am_b mX7_ifPlayed) 49 = .ok (.goto (-18), 3) := by decide +kernel
theorem dX7_ifPlayed_52 : decode (am_b mX7_ifPlayed) 52 = .ok (.iload_n 2, 1) := by decide +kernel
theorem dX7_ifPlayed_53 : decode (am_b mX7_ifPlayed) 53 = .ok (.ifCond .ne 7, 3) := by decide +kernel
theorem dX7_ifPlayed_56 : decode (am_b mX7_ifPlayed) 56 = .ok (.iload_n 3, 1) := by decide +kernel
theorem dX7_ifPlayed_57 : decode (am_b mX7_ifPlayed) 57 = .ok (.goto 18, 3) := by decide +kernel
theorem dX7_ifPlayed_60 : decode (am_b mX7_ifPlayed) 60 = .ok (.aload_n 0, 1) := by decide +kernel
theorem dX7_ifPlayed_61 : decode (am_b mX7_ifPlayed) 61 = .ok (.getfield 7, 3) := by decide +kernel
theorem dX7_ifPlayed_64 : decode (am_b mX7_ifPlayed) 64 = .ok (.bipush 70, 2) := by decide +kernel
theorem dX7_ifPlayed_66 : decode (am_b mX7_ifPlayed) 66 = .ok (.iaload, 1) := by decide +kernel
theorem dX7_ifPlayed_67 : decode (am_b mX7_ifPlayed) 67 = .ok (.aload_n 0, 1) := by decide +kernel
theorem dX7_ifPlayed_68 : decode (am_b mX7_ifPlayed) 68 = .ok (.getfield 7, 3) := by decide +kernel
theorem dX7_ifPlayed_71 : decode (am_b mX7_ifPlayed) 71 = .ok (.bipush 10, 2) := by decide +kernel
theorem dX7_ifPlayed_73 : decode (am_b mX7_ifPlayed) 73 = .ok (.iaload, 1) := by decide +kernel
theorem dX7_ifPlayed_74 : decode (am_b mX7_ifPlayed) 74 = .ok (.isub, 1) := by decide +kernel
theorem dX7_ifPlayed_75 : decode (am_b mX7_ifPlayed) 75 = .ok (.ireturn, 1) := by decide +kernel
theorem dX7_play_0 : decode (am_b mX7_play) 0 = .ok (.aload_n 0, 1) := by decide +kernel
theorem dX7_play_1 : decode (am_b mX7_play) 1 = .ok (.getfield 7, 3) := by decide +kernel
theorem dX7_play_4 : decode (am_b mX7_play) 4 = .ok (.bipush 9, 2) := by decide +kernel
theorem dX7_play_6 : decode (am_b mX7_play) 6 = .ok (.iaload, 1) := by decide +kernel
theorem dX7_play_7 : decode (am_b mX7_play) 7 = .ok (.sipush 9999, 3) := by decide +kernel
theorem dX7_play_10 : decode (am_b mX7_play) 10 = .ok (.if_icmp .ne 6, 3) := by decide +kernel
theorem dX7_play_13 : decode (am_b mX7_play) 13 = .ok (.bipush (-4), 2) := by decide +kernel
theorem dX7_play_15 : decode (am_b mX7_play) 15 = .ok (.ireturn, 1) := by decide +kernel
theorem dX7_play_16 : decode (am_b mX7_play) 16 = .ok (.aload_n 0, 1) := by decide +kernel
theorem dX7_play_17 : decode (am_b mX7_play) 17 = .ok (.invokevirtual 86, 3) := by decide +kernel
theorem dX7_play_20 : decode (am_b mX7_play) 20 = .ok (.aload_n 0, 1) := by decide +kernel
theorem dX7_play_21 : decode (am_b mX7_play) 21 = .ok (.iconst 0, 1) := by decide +kernel
theorem dX7_play_22 : decode (am_b mX7_play) 22 = .ok (.invokevirtual 109, 3) := by decide +kernel
theorem dX7_play_25 : decode (am_b mX7_play) 25 = .ok (.ireturn, 1) := by decide +kernel
end
section
/-! rows as they are used: returns; calls in the same cells; calls in renamed cells, without and with new cells -/
def am_pat (h : am_H) : List (Option Bool) := h.map (fun o => o.map am_wr)
theorem am_pat_at {h : am_H} {k : Nat} : (am_pat h)[k]? = (h[k]?).map (fun o => o.map am_wr) := by
  simp [am_pat, List.getElem?_map]
theorem am_pat_some {h : am_H} {k : Nat} {c : am_C} (hk : h[k]? = some (some c)) : (am_pat h)[k]? = some (some (am_wr c)) := by rw [am_pat_at, hk]; rfl
theorem am_pat_inv {h : am_H} {k : Nat} {w : Bool} (hk : (am_pat h)[k]? = some (some w)) : ∃ c, h[k]? = some (some c) ∧ am_wr c = w := by
  rw [am_pat_at] at hk
  cases hx : h[k]? with
  | none => rw [hx] at hk; cases hk
  | some o =>
    rw [hx] at hk
    cases o with
    | none => cases hk
    | some c => exact ⟨c, rfl, by simpa using hk⟩
theorem am_rcid (c : am_C) : am_rc (fun k => k) c = c := by
  match c with
  | .inl o =>
    show Sum.inl (o.1, o.2.map (am_v fun k => k)) = Sum.inl o
    rw [show (am_v fun k => k) = (fun v => v) from funext am_vid, List.map_id']
  | .inr (.inl x) => rfl
  | .inr (.inr x) =>
    show Sum.inr (Sum.inr (x.1, x.2.map (fun o => o.map (fun k => k)))) = Sum.inr (Sum.inr x)
    rw [show (fun o : Option Nat => o.map (fun k => k)) = (fun o => o) from funext fun o => by cases o <;> rfl, List.map_id']
theorem am_mrg_id {h1 h : am_H} (hp : am_pat h1 = am_pat h) : am_mrg (fun k => k) 0 h1 h = h1 := by
  refine List.ext_getElem? fun k => ?_
  have e := am_pat_at (h := h1) (k := k)
  rw [hp, am_pat_at] at e
  cases h1k : h1[k]? with
  | none =>
    rw [am_mrg_out (fun k => k) k h1 0 h (fun i c hi he => by rw [Nat.zero_add] at he; subst he; rw [hi] at h1k; cases h1k)]
    rw [h1k] at e
    cases hk : h[k]? with
    | none => rfl
    | some o => rw [hk] at e; cases e
  | some o =>
    cases o with
    | none =>
      rw [am_mrg_out (fun k => k) k h1 0 h (fun i c hi he => by rw [Nat.zero_add] at he; subst he; rw [hi] at h1k; cases h1k)]
      rw [h1k] at e
      cases hk : h[k]? with
      | none => rw [hk] at e; cases e
      | some o => rw [hk] at e; cases o with
        | none => rfl
        | some c => cases e
    | some c =>
      rw [h1k] at e
      have hl : k < h.length := by
        cases hk : h[k]? with
        | none => rw [hk] at e; cases e
        | some o => exact (List.getElem?_eq_some_iff.mp hk).1
      have := am_mrg_in (fun k => k) k c h1 0 h h1k (fun i c' ne _ he => ne (by simpa using he)) (by rw [Nat.zero_add]; exact hl)
      rw [Nat.zero_add] at this
      rw [this, am_rcid]
def am_mu (l : List Nat) (k : Nat) : Nat := l.getD k 0
def am_okmu (l : List Nat) (p : List (Option Bool)) : Bool := am_mu l 0 == 0 && (am_mu l 1 == 1 && (List.range p.length).all fun i => (List.range i).all fun j => match p.getD i none, p.getD j none with | some _, some _ => am_mu l i != am_mu l j | _, _ => true)
theorem am_getD {α : Type} {l : List (Option α)} {i : Nat} {w : α} (h : l[i]? = some (some w)) : l.getD i none = some w := by rw [List.getD_eq_getElem?_getD, h]; rfl
theorem am_okmu_inj {l : List Nat} {p : List (Option Bool)} (h : am_okmu l p = true) : (am_mu l 0 = 0 ∧ am_mu l 1 = 1) ∧ ∀ (i j : Nat) (v w : Bool), p[i]? = some (some v) → p[j]? = some (some w) → am_mu l i = am_mu l j → i = j := by
  simp only [am_okmu, Bool.and_eq_true, beq_iff_eq, List.all_eq_true, List.mem_range] at h
  obtain ⟨h0, h1, h2⟩ := h
  have half : ∀ (i j : Nat) (v w : Bool), j < i → p[i]? = some (some v) → p[j]? = some (some w) → am_mu l i ≠ am_mu l j := by
    intro i j v w hji hi hj
    have := h2 i (List.getElem?_eq_some_iff.mp hi).1 j hji
    rw [am_getD hi, am_getD hj] at this
    simpa using this
  refine ⟨⟨h0, h1⟩, fun i j v w hi hj he => ?_⟩
  rcases Nat.lt_trichotomy i j with z | z | z
  · exact absurd he.symm (half j i w v z hj hi)
  · exact z
  · exact absurd he (half i j v w z hi hj)
def am_pl (μ : Nat → Nat) : Nat → am_H → am_H → am_H
  | _, [], _ => []
  | j, none :: t, h => none :: am_pl μ (j + 1) t h
  | j, some _ :: t, h => (h[μ j]?).join :: am_pl μ (j + 1) t h
def am_rn (μ : Nat → Nat) (hl : am_H) : am_H := hl.map (fun o => o.map (am_rc μ))
theorem am_pl_sub {μ : Nat → Nat} {h : am_H} : ∀ (hl : am_H) (j : Nat), am_pl μ j hl h = am_rn μ hl → ∀ (i : Nat) (c : am_C), hl[i]? = some (some c) → h[μ (j + i)]? = some (some (am_rc μ c))
  | [], j, _, i, c, hi => by simp at hi
  | none :: t, j, he, i, c, hi => by
    cases i with
    | zero => cases hi
    | succ i =>
      simp only [am_pl, am_rn, List.map_cons, List.cons.injEq] at he
      have := am_pl_sub t (j + 1) he.2 i c hi
      rw [show j + 1 + i = j + (i + 1) by omega] at this
      exact this
  | some d :: t, j, he, i, c, hi => by
    simp only [am_pl, am_rn, List.map_cons, List.cons.injEq] at he
    cases i with
    | zero =>
      have hdc : d = c := Option.some.inj (Option.some.inj hi)
      subst hdc
      have h1 : (h[μ j]?).join = some (am_rc μ d) := he.1
      show h[μ j]? = _
      cases hx : h[μ j]? with
      | none => rw [hx] at h1; cases h1
      | some o => rw [hx] at h1; cases o with
        | none => cases h1
        | some c' => rw [← h1]; rfl
    | succ i =>
      have := am_pl_sub t (j + 1) he.2 i c hi
      rw [show j + 1 + i = j + (i + 1) by omega] at this
      exact this
/-- what new cells ask: closed -/
def am_chk (l : List Nat) (p0 p1 pc : List (Option Bool)) : Bool :=
  (List.range p0.length).all (fun j => match p0.getD j none with | none => true | some w => decide (p1.getD j none = some w)) &&
  (List.range p1.length).all (fun j => match p1.getD j none, p0.getD j none with | some _, none => decide (pc[am_mu l j]? = some none) && decide (2 ≤ am_mu l j) | _, _ => true)
def am_nps (l : List Nat) (p0 p1 : List (Option Bool)) : List Nat := (List.range p1.length).filterMap (fun j => match p1.getD j none, p0.getD j none with | some _, none => some (am_mu l j) | _, _ => none)
def am_tok (p1 : List (Option Bool)) (r : Option Value) (h1 : am_H) : Bool :=
  (r.toList.flatMap am_vr).all (fun t => (p1.getD t none).isSome) && h1.all (fun o => match o with | none => true | some c => (am_refs c).all (fun t => (p1.getD t none).isSome))
theorem am_back_0 {μ : Nat → Nat} {hl h1 h : am_H} {r : Option Value} {L : List (Option Value)} {S : List Value} (hp : am_pat h1 = am_pat hl) (hinj : ∀ (i j : Nat) (c d : am_C), hl[i]? = some (some c) → hl[j]? = some (some d) → μ i = μ j → i = j) : am_back μ hl r h1 L S h := by
  have inv : ∀ (j : Nat) (c : am_C), h1[j]? = some (some c) → ∃ c', hl[j]? = some (some c') := by
    intro j c hj
    obtain ⟨c', h2, -⟩ := am_pat_inv (by rw [← hp]; exact am_pat_some hj)
    exact ⟨c', h2⟩
  refine ⟨fun j c hj => am_pat_inv (by rw [hp]; exact am_pat_some hj), fun i j c d hi hj he => ?_, fun j hj => ?_⟩
  · obtain ⟨c', h2⟩ := inv i c hi
    obtain ⟨d', h3⟩ := inv j d hj
    exact hinj i j c' d' h2 h3 he
  · obtain ⟨⟨c, hc⟩, hn⟩ := hj
    exact absurd (inv j c hc) hn
theorem am_back_1 {l : List Nat} {p0 p1 pc : List (Option Bool)} {hl h1 h : am_H} {r : Option Value} {L : List (Option Value)} {S : List Value} (h0 : am_pat hl = p0) (hp1 : am_pat h1 = p1) (hpc : am_pat h = pc) (ho : am_okmu l p1 = true) (hc : am_chk l p0 p1 pc = true) (hf : (am_nps l p0 p1).all (fun k => am_free k L S h) = true) (ht : am_tok p1 r h1 = true) : am_back (am_mu l) hl r h1 L S h := by
  obtain ⟨-, hinj⟩ := am_okmu_inj ho
  simp only [am_chk, Bool.and_eq_true, List.all_eq_true, List.mem_range] at hc
  obtain ⟨c1, c2⟩ := hc
  have hinj1 : ∀ (i j : Nat) (c d : am_C), h1[i]? = some (some c) → h1[j]? = some (some d) → am_mu l i = am_mu l j → i = j := fun i j c d hi hj he => hinj i j _ _ (hp1 ▸ am_pat_some hi) (hp1 ▸ am_pat_some hj) he
  refine ⟨fun j c hj => ?_, hinj1, fun j hj => ?_⟩
  · have g := am_pat_some hj
    rw [h0] at g
    have := c1 j (List.getElem?_eq_some_iff.mp g).1
    rw [am_getD g] at this
    have e : p1.getD j none = some (am_wr c) := by simpa using this
    rw [List.getD_eq_getElem?_getD] at e
    cases hx : p1[j]? with
    | none => rw [hx] at e; cases e
    | some o =>
      rw [hx] at e
      have e2 : o = some (am_wr c) := e
      subst e2
      rw [← hp1] at hx
      exact am_pat_inv hx
  · obtain ⟨⟨c, hcj⟩, hn⟩ := hj
    have g1 : p1[j]? = some (some (am_wr c)) := hp1 ▸ am_pat_some hcj
    have g0 : p0.getD j none = none := by
      rw [List.getD_eq_getElem?_getD]
      cases hx : p0[j]? with
      | none => rfl
      | some o =>
        cases o with
        | none => rfl
        | some w =>
          rw [← h0] at hx
          obtain ⟨c', hc', -⟩ := am_pat_inv hx
          exact absurd ⟨c', hc'⟩ hn
    have hlt := (List.getElem?_eq_some_iff.mp g1).1
    have := c2 j hlt
    rw [am_getD g1, g0] at this
    simp only [Bool.and_eq_true, decide_eq_true_eq] at this
    have hmem : am_mu l j ∈ am_nps l p0 p1 := List.mem_filterMap.mpr ⟨j, List.mem_range.mpr hlt, by rw [am_getD g1, g0]⟩
    refine ⟨?_, this.2, List.all_eq_true.mp hf _ hmem, fun t htt he => ?_⟩
    · have h3 := this.1
      rw [← hpc, am_pat_at] at h3
      cases hx : h[am_mu l j]? with
      | none => rw [hx] at h3; cases h3
      | some o => rw [hx] at h3; cases o with
        | none => rfl
        | some c => cases h3
    · simp only [am_tok, Bool.and_eq_true, List.all_eq_true] at ht
      have hs : (p1.getD t none).isSome = true := by
        rcases htt with q | ⟨i, c', q1, q2⟩
        · exact ht.1 t q
        · have := ht.2 _ (List.mem_of_getElem? q1)
          exact List.all_eq_true.mp this t q2
      rw [List.getD_eq_getElem?_getD] at hs
      cases hx : p1[t]? with
      | none => rw [hx] at hs; cases hs
      | some o =>
        rw [hx] at hs
        cases o with
        | none => cases hs
        | some w => exact hinj t j w _ hx g1 he
section
variable {M M' : am_M} {h0 : am_H} {P : Option Value → am_H → Prop} {kc ks pc : Nat} {L : List (Option Value)} {st S : List Value} {h hl : am_H} {as : List Value} {Pq : Option Value → am_H → Prop} {idx n : Nat}
theorem ar_iret {v : Int32} (d : decode (am_b M) pc = .ok (.ireturn, 1)) (hr : am_r M = some .int) (hc : kc.ble (am_nc M) = true) (hs : ks.ble (am_ns M) = true) (hp : P (some (.int v)) h) : am_RW M h0 P kc ks pc L [.int v] h :=
  ar_ret (r := some (.int v)) rfl ⟨⟨.int, hr, rfl⟩, d⟩ (Nat.le_of_ble_eq_true hc) (Nat.le_of_ble_eq_true hs) hp
theorem ar_zret {v : Int32} (d : decode (am_b M) pc = .ok (.ireturn, 1)) (hr : am_r M = some .boolean) (hv : v = 0 ∨ v = 1) (hc : kc.ble (am_nc M) = true) (hs : ks.ble (am_ns M) = true) (hp : P (some (.int v)) h) : am_RW M h0 P kc ks pc L [.int v] h :=
  ar_ret (r := some (.int v)) rfl ⟨⟨.boolean, hr, by rcases hv with rfl | rfl <;> decide +kernel⟩, d⟩ (Nat.le_of_ble_eq_true hc) (Nat.le_of_ble_eq_true hs) hp
theorem ar_vret (d : decode (am_b M) pc = .ok (.return_, 1)) (hr : am_r M = none) (hc : kc.ble (am_nc M) = true) (hs : ks.ble (am_ns M) = true) (hp : P none h) : am_RW M h0 P kc ks pc L [] h :=
  ar_ret (r := none) rfl ⟨hr, d⟩ (Nat.le_of_ble_eq_true hc) (Nat.le_of_ble_eq_true hs) hp
theorem ar_aret {v : Nat} {cn : String} (d : decode (am_b M) pc = .ok (.areturn, 1)) (hr : am_r M = some (.object cn)) (hc : kc.ble (am_nc M) = true) (hs : ks.ble (am_ns M) = true) (hp : P (some (.ref v)) h) : am_RW M h0 P kc ks pc L [.ref v] h :=
  ar_ret (r := some (.ref v)) rfl ⟨⟨cn, hr⟩, d⟩ (Nat.le_of_ble_eq_true hc) (Nat.le_of_ble_eq_true hs) hp
theorem ar_mapid (as : List Value) : as.map (am_v fun k => k) = as := by rw [show (am_v fun k => k) = (fun v => v) from funext am_vid, List.map_id']
theorem ar_idc (hr : am_Run M M' pc as h Pq (fun k => k) st S h) (hc : (kc + am_nc M').ble (am_nc M) = true) (hs : (ks + am_ns M').ble (am_ns M) = true) (k : ∀ r h1, Pq r h1 → am_pat h1 = am_pat h ∧ am_RW M h0 P (kc + am_nc M') (ks + am_ns M') (pc + 3) L (r.toList ++ S) h1) : am_RW M h0 P kc ks pc L st h := by
  refine ar_call hr (Nat.le_of_ble_eq_true hc) (Nat.le_of_ble_eq_true hs) (fun j c hj => by rw [am_rcid]; exact hj) fun r h1 hp => ?_
  obtain ⟨k1, k2⟩ := k r h1 hp
  refine ⟨am_back_0 k1 fun i j c d _ _ he => he, ?_⟩
  rw [am_mrg_id k1, show r.map (am_v fun k => k) = r by cases r with | none => rfl | some v => exact congrArg some (am_vid v)]
  exact k2
theorem ar_idV {b ci : Nat} {fsb : List Value} (d : decode (am_b M) pc = .ok (.invokevirtual idx, 3)) (cal : am_cal M' n) (lk : Cond.methodLink (am_y M).cls idx (am_y M') ∈ am_ws ∧ Cond.instanceMethod (am_y M') ∈ am_ws ∧ Cond.selects (am_y M').cls (am_y M') (am_y M') ∈ am_ws) (hlv : (am_lv M' + 1).ble (am_lv M) = true) (sp : am_Sp M' (.ref b :: as) h Pq) (hst : st = as.reverse ++ .ref b :: S) (hb : h[b]? = some (some (.inl (ci, fsb)))) (hrc : (am_cl[ci]?).map (fun q => q.1) = some (am_y M').cls) (hn : as.length = n) (hcat : ((S.map Value.category).sum).ble 8 = true) (hc : (kc + am_nc M').ble (am_nc M) = true) (hs : (ks + am_ns M').ble (am_ns M) = true) (k : ∀ r h1, Pq r h1 → am_pat h1 = am_pat h ∧ am_RW M h0 P (kc + am_nc M') (ks + am_ns M') (pc + 3) L (r.toList ++ S) h1) : am_RW M h0 P kc ks pc L st h := by
  have hr := am_runV (S := S) (h := h) (μ := fun k => k) d cal lk.1 lk.2.1 lk.2.2 (Nat.le_of_ble_eq_true hlv) sp hn (Nat.le_of_ble_eq_true hcat) hrc hb ⟨rfl, rfl⟩ (fun j c hj => by rw [am_rcid]; exact hj) (fun i j c d _ _ he => he)
  rw [ar_mapid, ← hst] at hr
  exact ar_idc hr hc hs k
theorem ar_idS (d : decode (am_b M) pc = .ok (.invokestatic idx, 3)) (cal : am_cal M' n) (lk : Cond.methodLink (am_y M).cls idx (am_y M') ∈ am_ws ∧ Cond.static (am_y M') ∈ am_ws) (hlv : (am_lv M' + 1).ble (am_lv M) = true) (sp : am_Sp M' as h Pq) (hst : st = as.reverse ++ S) (hn : as.length = n) (hcat : ((S.map Value.category).sum).ble 8 = true) (hc : (kc + am_nc M').ble (am_nc M) = true) (hs : (ks + am_ns M').ble (am_ns M) = true) (k : ∀ r h1, Pq r h1 → am_pat h1 = am_pat h ∧ am_RW M h0 P (kc + am_nc M') (ks + am_ns M') (pc + 3) L (r.toList ++ S) h1) : am_RW M h0 P kc ks pc L st h := by
  have hr := am_runS (S := S) (h := h) (μ := fun k => k) d cal lk.1 lk.2 (Nat.le_of_ble_eq_true hlv) sp hn (Nat.le_of_ble_eq_true hcat) ⟨rfl, rfl⟩ (fun j c hj => by rw [am_rcid]; exact hj) (fun i j c d _ _ he => he)
  rw [ar_mapid, ← hst] at hr
  exact ar_idc hr hc hs k
theorem ar_idSN {host : String} (d : decode (am_b M) pc = .ok (.invokestatic idx, 3)) (cal : am_cal M' n) (lk : Cond.methodLinkNest (am_y M).cls idx (am_y M') host ∈ am_nw ∧ Cond.static (am_y M') ∈ am_ws) (hlv : (am_lv M' + 1).ble (am_lv M) = true) (sp : am_Sp M' as h Pq) (hst : st = as.reverse ++ S) (hn : as.length = n) (hcat : ((S.map Value.category).sum).ble 8 = true) (hc : (kc + am_nc M').ble (am_nc M) = true) (hs : (ks + am_ns M').ble (am_ns M) = true) (k : ∀ r h1, Pq r h1 → am_pat h1 = am_pat h ∧ am_RW M h0 P (kc + am_nc M') (ks + am_ns M') (pc + 3) L (r.toList ++ S) h1) : am_RW M h0 P kc ks pc L st h := by
  have hr := am_runSN (S := S) (h := h) (μ := fun k => k) d cal lk.1 lk.2 (Nat.le_of_ble_eq_true hlv) sp hn (Nat.le_of_ble_eq_true hcat) ⟨rfl, rfl⟩ (fun j c hj => by rw [am_rcid]; exact hj) (fun i j c d _ _ he => he)
  rw [ar_mapid, ← hst] at hr
  exact ar_idc hr hc hs k
/-- renamed cells, no new ones -/
theorem ar_mc {l : List Nat} {p0 : List (Option Bool)} (hr : am_Run M M' pc as hl Pq (am_mu l) st S h) (hm : am_okmu l p0 = true) (hp0 : am_pat hl = p0) (hpl : am_pl (am_mu l) 0 hl h = am_rn (am_mu l) hl) (hc : (kc + am_nc M').ble (am_nc M) = true) (hs : (ks + am_ns M').ble (am_ns M) = true) (k : ∀ r h1, Pq r h1 → am_pat h1 = p0 ∧ am_RW M h0 P (kc + am_nc M') (ks + am_ns M') (pc + 3) L ((r.map (am_v (am_mu l))).toList ++ S) (am_mrg (am_mu l) 0 h1 h)) : am_RW M h0 P kc ks pc L st h := by
  subst hp0
  refine ar_call hr (Nat.le_of_ble_eq_true hc) (Nat.le_of_ble_eq_true hs) (fun j c hj => by have := am_pl_sub hl 0 hpl j c hj; rwa [Nat.zero_add] at this) fun r h1 hp => ?_
  obtain ⟨k1, k2⟩ := k r h1 hp
  exact ⟨am_back_0 k1 fun i j c d hi hj he => (am_okmu_inj hm).2 i j _ _ (am_pat_some hi) (am_pat_some hj) he, k2⟩
theorem ar_nc {l : List Nat} {p0 p1 pcl : List (Option Bool)} (hr : am_Run M M' pc as hl Pq (am_mu l) st S h) (hm1 : am_okmu l p1 = true) (hch : am_chk l p0 p1 pcl = true) (hp0 : am_pat hl = p0) (hpc : am_pat h = pcl) (hpl : am_pl (am_mu l) 0 hl h = am_rn (am_mu l) hl) (hf : (am_nps l p0 p1).all (fun k => am_free k L S h) = true) (hc : (kc + am_nc M').ble (am_nc M) = true) (hs : (ks + am_ns M').ble (am_ns M) = true) (k : ∀ r h1, Pq r h1 → (am_pat h1 = p1 ∧ am_tok p1 r h1 = true) ∧ am_RW M h0 P (kc + am_nc M') (ks + am_ns M') (pc + 3) L ((r.map (am_v (am_mu l))).toList ++ S) (am_mrg (am_mu l) 0 h1 h)) : am_RW M h0 P kc ks pc L st h := by
  refine ar_call hr (Nat.le_of_ble_eq_true hc) (Nat.le_of_ble_eq_true hs) (fun j c hj => by have := am_pl_sub hl 0 hpl j c hj; rwa [Nat.zero_add] at this) fun r h1 hp => ?_
  obtain ⟨⟨k1, k1'⟩, k2⟩ := k r h1 hp
  exact ⟨am_back_1 hp0 k1 hpc hm1 hch hf k1', k2⟩
theorem am_subp {l : List Nat} {p0 : List (Option Bool)} (hpl : am_pl (am_mu l) 0 hl h = am_rn (am_mu l) hl) : ∀ (j : Nat) (c : am_C), hl[j]? = some (some c) → h[am_mu l j]? = some (some (am_rc (am_mu l) c)) := fun j c hj => by
  have := am_pl_sub hl 0 hpl j c hj
  rwa [Nat.zero_add] at this
theorem am_injp {l : List Nat} {p0 : List (Option Bool)} (hm : am_okmu l p0 = true) (hp0 : am_pat hl = p0) : ∀ (i j : Nat) (c d : am_C), hl[i]? = some (some c) → hl[j]? = some (some d) → am_mu l i = am_mu l j → i = j := fun i j c d hi hj he =>
  (am_okmu_inj hm).2 i j _ _ (hp0 ▸ am_pat_some hi) (hp0 ▸ am_pat_some hj) he
/-- the run of a virtual call in renamed cells -/
theorem ar_rV {l : List Nat} {p0 : List (Option Bool)} {b ci : Nat} {fsb : List Value} (d : decode (am_b M) pc = .ok (.invokevirtual idx, 3)) (cal : am_cal M' n) (lk : Cond.methodLink (am_y M).cls idx (am_y M') ∈ am_ws ∧ Cond.instanceMethod (am_y M') ∈ am_ws ∧ Cond.selects (am_y M').cls (am_y M') (am_y M') ∈ am_ws) (hlv : (am_lv M' + 1).ble (am_lv M) = true) (sp : am_Sp M' (.ref b :: as) hl Pq) (hst : st = (as.map (am_v (am_mu l))).reverse ++ .ref (am_mu l b) :: S) (hb : hl[b]? = some (some (.inl (ci, fsb)))) (hrc : (am_cl[ci]?).map (fun q => q.1) = some (am_y M').cls) (hn : as.length = n) (hcat : ((S.map Value.category).sum).ble 8 = true) (hm : am_okmu l p0 = true) (hp0 : am_pat hl = p0) (hpl : am_pl (am_mu l) 0 hl h = am_rn (am_mu l) hl) : am_Run M M' pc (.ref b :: as) hl Pq (am_mu l) st S h := by
  rw [hst]
  exact am_runV d cal lk.1 lk.2.1 lk.2.2 (Nat.le_of_ble_eq_true hlv) sp hn (Nat.le_of_ble_eq_true hcat) hrc hb (am_okmu_inj hm).1 (am_subp (p0 := p0) hpl) (am_injp hm hp0)
theorem ar_rS {l : List Nat} {p0 : List (Option Bool)} (d : decode (am_b M) pc = .ok (.invokestatic idx, 3)) (cal : am_cal M' n) (lk : Cond.methodLink (am_y M).cls idx (am_y M') ∈ am_ws ∧ Cond.static (am_y M') ∈ am_ws) (hlv : (am_lv M' + 1).ble (am_lv M) = true) (sp : am_Sp M' as hl Pq) (hst : st = (as.map (am_v (am_mu l))).reverse ++ S) (hn : as.length = n) (hcat : ((S.map Value.category).sum).ble 8 = true) (hm : am_okmu l p0 = true) (hp0 : am_pat hl = p0) (hpl : am_pl (am_mu l) 0 hl h = am_rn (am_mu l) hl) : am_Run M M' pc as hl Pq (am_mu l) st S h := by
  rw [hst]
  exact am_runS d cal lk.1 lk.2 (Nat.le_of_ble_eq_true hlv) sp hn (Nat.le_of_ble_eq_true hcat) (am_okmu_inj hm).1 (am_subp (p0 := p0) hpl) (am_injp hm hp0)
theorem ar_rSN {l : List Nat} {p0 : List (Option Bool)} {host : String} (d : decode (am_b M) pc = .ok (.invokestatic idx, 3)) (cal : am_cal M' n) (lk : Cond.methodLinkNest (am_y M).cls idx (am_y M') host ∈ am_nw ∧ Cond.static (am_y M') ∈ am_ws) (hlv : (am_lv M' + 1).ble (am_lv M) = true) (sp : am_Sp M' as hl Pq) (hst : st = (as.map (am_v (am_mu l))).reverse ++ S) (hn : as.length = n) (hcat : ((S.map Value.category).sum).ble 8 = true) (hm : am_okmu l p0 = true) (hp0 : am_pat hl = p0) (hpl : am_pl (am_mu l) 0 hl h = am_rn (am_mu l) hl) : am_Run M M' pc as hl Pq (am_mu l) st S h := by
  rw [hst]
  exact am_runSN d cal lk.1 lk.2 (Nat.le_of_ble_eq_true hlv) sp hn (Nat.le_of_ble_eq_true hcat) (am_okmu_inj hm).1 (am_subp (p0 := p0) hpl) (am_injp hm hp0)
theorem ar_rI {l : List Nat} {p0 : List (Option Bool)} {b : Nat} (d : decode (am_b M) pc = .ok (.invokespecial idx, 3)) (cal : am_cal M' n) (hret : am_r M' = none) (hnm : (am_y M').name = "<init>") (lk : Cond.methodLink (am_y M).cls idx (am_y M') ∈ am_ws ∧ Cond.instanceMethod (am_y M') ∈ am_ws) (hlv : (am_lv M' + 1).ble (am_lv M) = true) (sp : am_Sp M' (.ref b :: as) hl Pq) (hst : st = (as.map (am_v (am_mu l))).reverse ++ .ref (am_mu l b) :: S) (hn : as.length = n) (hcat : ((S.map Value.category).sum).ble 8 = true) (hm : am_okmu l p0 = true) (hp0 : am_pat hl = p0) (hpl : am_pl (am_mu l) 0 hl h = am_rn (am_mu l) hl) : am_Run M M' pc (.ref b :: as) hl Pq (am_mu l) st S h := by
  rw [hst]
  exact am_runI d cal hret hnm lk.1 lk.2 (Nat.le_of_ble_eq_true hlv) sp hn (Nat.le_of_ble_eq_true hcat) (am_okmu_inj hm).1 (am_subp (p0 := p0) hpl) (am_injp hm hp0)
theorem ar_rIN {l : List Nat} {p0 : List (Option Bool)} {b : Nat} {host : String} (d : decode (am_b M) pc = .ok (.invokespecial idx, 3)) (cal : am_cal M' n) (hret : am_r M' = none) (hnm : (am_y M').name = "<init>") (lk : Cond.methodLinkNest (am_y M).cls idx (am_y M') host ∈ am_nw ∧ Cond.instanceMethod (am_y M') ∈ am_ws) (hlv : (am_lv M' + 1).ble (am_lv M) = true) (sp : am_Sp M' (.ref b :: as) hl Pq) (hst : st = (as.map (am_v (am_mu l))).reverse ++ .ref (am_mu l b) :: S) (hn : as.length = n) (hcat : ((S.map Value.category).sum).ble 8 = true) (hm : am_okmu l p0 = true) (hp0 : am_pat hl = p0) (hpl : am_pl (am_mu l) 0 hl h = am_rn (am_mu l) hl) : am_Run M M' pc (.ref b :: as) hl Pq (am_mu l) st S h := by
  rw [hst]
  exact am_runIN d cal hret hnm lk.1 lk.2 (Nat.le_of_ble_eq_true hlv) sp hn (Nat.le_of_ble_eq_true hcat) (am_okmu_inj hm).1 (am_subp (p0 := p0) hpl) (am_injp hm hp0)
end
end
section
/-! leaves: methods without loops that read little -/
theorem ti_m6 : ((-6 : Int32)).toInt = -6 := by decide +kernel
theorem ti_m5 : ((-5 : Int32)).toInt = -5 := by decide +kernel
theorem ti_m4 : ((-4 : Int32)).toInt = -4 := by decide +kernel
theorem ti_m3 : ((-3 : Int32)).toInt = -3 := by decide +kernel
theorem ti_m2 : ((-2 : Int32)).toInt = -2 := by decide +kernel
theorem ti_m1 : ((-1 : Int32)).toInt = -1 := by decide +kernel
theorem ti_0 : ((0 : Int32)).toInt = 0 := by decide +kernel
theorem ti_1 : ((1 : Int32)).toInt = 1 := by decide +kernel
theorem ti_2 : ((2 : Int32)).toInt = 2 := by decide +kernel
theorem ti_3 : ((3 : Int32)).toInt = 3 := by decide +kernel
theorem ti_4 : ((4 : Int32)).toInt = 4 := by decide +kernel
theorem ti_5 : ((5 : Int32)).toInt = 5 := by decide +kernel
theorem ti_6 : ((6 : Int32)).toInt = 6 := by decide +kernel
theorem ti_7 : ((7 : Int32)).toInt = 7 := by decide +kernel
theorem ti_8 : ((8 : Int32)).toInt = 8 := by decide +kernel
theorem ti_9 : ((9 : Int32)).toInt = 9 := by decide +kernel
theorem ti_12 : ((12 : Int32)).toInt = 12 := by decide +kernel
theorem ti_33 : ((33 : Int32)).toInt = 33 := by decide +kernel
theorem ti_60 : ((60 : Int32)).toInt = 60 := by decide +kernel
theorem ti_65536 : ((65536 : Int32)).toInt = 65536 := by decide +kernel
theorem ti_100 : ((100 : Int32)).toInt = 100 := by decide +kernel
theorem ti_126 : ((126 : Int32)).toInt = 126 := by decide +kernel
theorem ti_9999 : ((9999 : Int32)).toInt = 9999 := by decide +kernel
theorem ni_inc (k : Nat) : nI k + Int32.ofInt 1 = nI (k + 1) := by rw [show Int32.ofInt 1 = (1 : Int32) by decide +kernel]; exact nI_1 k
theorem ni_dec (k : Nat) : nI (k + 1) + Int32.ofInt (-1) = nI k := by rw [show Int32.ofInt (-1) = (-1 : Int32) by decide +kernel]; exact pk_m1 k
set_option maxHeartbeats 4000000 in
set_option maxRecDepth 100000 in
theorem sX7_in (h : am_H) (v lo hi : Int32) : am_Sp mX7_in [.int v, .int lo, .int hi] h (fun r h1 => r = some (.int (if lo.toInt ≤ v.toInt ∧ v.toInt ≤ hi.toInt then 1 else 0)) ∧ h1 = h) := by
  refine am_intro (by decide) (Nat.le_of_ble_eq_true rfl) ?_
  refine ar_iload_n (i := 0) (pc := 0) dX7_in_0 rfl rfl ?_
  refine ar_iload_n (i := 1) (pc := 1) dX7_in_1 rfl rfl ?_
  refine ar_icmp_lt (pc := 2) (tgt := 14) dX7_in_2 (by decide) (fun c2 => ?_) (fun c2 => ?_)
  · refine ar_iconst (pc := 14) dX7_in_14 q_iconst_0 ?_
    exact ar_zret (pc := 15) dX7_in_15 rfl (by first | exact Or.inl rfl | exact Or.inr rfl) rfl rfl ⟨by (try simp only [Int32.lt_iff_toInt_lt, Int32.le_iff_toInt_le, ← Int32.toInt_inj, ti_m6, ti_m1, ti_0, ti_1, ti_2, ti_5, ti_6, ti_8, ti_9, ti_12, ti_100, ti_9999, ti_60] at *); first | rw [if_pos (by omega)] | rw [if_neg (by omega)], rfl⟩
  · refine ar_iload_n (i := 0) (pc := 5) dX7_in_5 rfl rfl ?_
    refine ar_iload_n (i := 2) (pc := 6) dX7_in_6 rfl rfl ?_
    refine ar_icmp_gt (pc := 7) (tgt := 14) dX7_in_7 (by decide) (fun c7 => ?_) (fun c7 => ?_)
    · refine ar_iconst (pc := 14) dX7_in_14 q_iconst_0 ?_
      exact ar_zret (pc := 15) dX7_in_15 rfl (by first | exact Or.inl rfl | exact Or.inr rfl) rfl rfl ⟨by (try simp only [Int32.lt_iff_toInt_lt, Int32.le_iff_toInt_le, ← Int32.toInt_inj, ti_m6, ti_m1, ti_0, ti_1, ti_2, ti_5, ti_6, ti_8, ti_9, ti_12, ti_100, ti_9999, ti_60] at *); first | rw [if_pos (by omega)] | rw [if_neg (by omega)], rfl⟩
    · refine ar_iconst (pc := 10) dX7_in_10 q_iconst_1 ?_
      refine ar_goto (tgt := 15) (pc := 11) dX7_in_11 (by decide) ?_
      exact ar_zret (pc := 15) dX7_in_15 rfl (by first | exact Or.inl rfl | exact Or.inr rfl) rfl rfl ⟨by (try simp only [Int32.lt_iff_toInt_lt, Int32.le_iff_toInt_le, ← Int32.toInt_inj, ti_m6, ti_m1, ti_0, ti_1, ti_2, ti_5, ti_6, ti_8, ti_9, ti_12, ti_100, ti_9999, ti_60] at *); first | rw [if_pos (by omega)] | rw [if_neg (by omega)], rfl⟩

set_option maxHeartbeats 4000000 in
set_option maxRecDepth 100000 in
theorem sX6_isPitch (h : am_H) (v : Int32) : am_Sp mX6_isPitch [.int v] h (fun r h1 => r = some (.int (if 0 ≤ v.toInt ∧ v.toInt < 12 then 1 else 0)) ∧ h1 = h) := by
  refine am_intro (by decide) (Nat.le_of_ble_eq_true rfl) ?_
  refine ar_iload_n (i := 0) (pc := 0) dX6_isPitch_0 rfl rfl ?_
  refine ar_if_lt (pc := 1) (tgt := 14) dX6_isPitch_1 (by decide) (fun c1 => ?_) (fun c1 => ?_)
  · refine ar_iconst (pc := 14) dX6_isPitch_14 q_iconst_0 ?_
    exact ar_zret (pc := 15) dX6_isPitch_15 rfl (by first | exact Or.inl rfl | exact Or.inr rfl) rfl rfl ⟨by (try simp only [Int32.lt_iff_toInt_lt, Int32.le_iff_toInt_le, ← Int32.toInt_inj, ti_m6, ti_m1, ti_0, ti_1, ti_2, ti_5, ti_6, ti_8, ti_9, ti_12, ti_100, ti_9999, ti_60] at *); first | rw [if_pos (by omega)] | rw [if_neg (by omega)], rfl⟩
  · refine ar_iload_n (i := 0) (pc := 4) dX6_isPitch_4 rfl rfl ?_
    refine ar_bipush (pc := 5) dX6_isPitch_5 q_bipush_12 ?_
    refine ar_icmp_ge (pc := 7) (tgt := 14) dX6_isPitch_7 (by decide) (fun c7 => ?_) (fun c7 => ?_)
    · refine ar_iconst (pc := 14) dX6_isPitch_14 q_iconst_0 ?_
      exact ar_zret (pc := 15) dX6_isPitch_15 rfl (by first | exact Or.inl rfl | exact Or.inr rfl) rfl rfl ⟨by (try simp only [Int32.lt_iff_toInt_lt, Int32.le_iff_toInt_le, ← Int32.toInt_inj, ti_m6, ti_m1, ti_0, ti_1, ti_2, ti_5, ti_6, ti_8, ti_9, ti_12, ti_100, ti_9999, ti_60] at *); first | rw [if_pos (by omega)] | rw [if_neg (by omega)], rfl⟩
    · refine ar_iconst (pc := 10) dX6_isPitch_10 q_iconst_1 ?_
      refine ar_goto (tgt := 15) (pc := 11) dX6_isPitch_11 (by decide) ?_
      exact ar_zret (pc := 15) dX6_isPitch_15 rfl (by first | exact Or.inl rfl | exact Or.inr rfl) rfl rfl ⟨by (try simp only [Int32.lt_iff_toInt_lt, Int32.le_iff_toInt_le, ← Int32.toInt_inj, ti_m6, ti_m1, ti_0, ti_1, ti_2, ti_5, ti_6, ti_8, ti_9, ti_12, ti_100, ti_9999, ti_60] at *); first | rw [if_pos (by omega)] | rw [if_neg (by omega)], rfl⟩

set_option maxHeartbeats 4000000 in
set_option maxRecDepth 100000 in
theorem sX6_isHeight (h : am_H) (v : Int32) : am_Sp mX6_isHeight [.int v] h (fun r h1 => r = some (.int (if 1 ≤ v.toInt ∧ v.toInt ≤ 9 then 1 else 0)) ∧ h1 = h) := by
  refine am_intro (by decide) (Nat.le_of_ble_eq_true rfl) ?_
  refine ar_iload_n (i := 0) (pc := 0) dX6_isHeight_0 rfl rfl ?_
  refine ar_iconst (pc := 1) dX6_isHeight_1 q_iconst_1 ?_
  refine ar_icmp_lt (pc := 2) (tgt := 15) dX6_isHeight_2 (by decide) (fun c2 => ?_) (fun c2 => ?_)
  · refine ar_iconst (pc := 15) dX6_isHeight_15 q_iconst_0 ?_
    exact ar_zret (pc := 16) dX6_isHeight_16 rfl (by first | exact Or.inl rfl | exact Or.inr rfl) rfl rfl ⟨by (try simp only [Int32.lt_iff_toInt_lt, Int32.le_iff_toInt_le, ← Int32.toInt_inj, ti_m6, ti_m1, ti_0, ti_1, ti_2, ti_5, ti_6, ti_8, ti_9, ti_12, ti_100, ti_9999, ti_60] at *); first | rw [if_pos (by omega)] | rw [if_neg (by omega)], rfl⟩
  · refine ar_iload_n (i := 0) (pc := 5) dX6_isHeight_5 rfl rfl ?_
    refine ar_bipush (pc := 6) dX6_isHeight_6 q_bipush_9 ?_
    refine ar_icmp_gt (pc := 8) (tgt := 15) dX6_isHeight_8 (by decide) (fun c8 => ?_) (fun c8 => ?_)
    · refine ar_iconst (pc := 15) dX6_isHeight_15 q_iconst_0 ?_
      exact ar_zret (pc := 16) dX6_isHeight_16 rfl (by first | exact Or.inl rfl | exact Or.inr rfl) rfl rfl ⟨by (try simp only [Int32.lt_iff_toInt_lt, Int32.le_iff_toInt_le, ← Int32.toInt_inj, ti_m6, ti_m1, ti_0, ti_1, ti_2, ti_5, ti_6, ti_8, ti_9, ti_12, ti_100, ti_9999, ti_60] at *); first | rw [if_pos (by omega)] | rw [if_neg (by omega)], rfl⟩
    · refine ar_iconst (pc := 11) dX6_isHeight_11 q_iconst_1 ?_
      refine ar_goto (tgt := 16) (pc := 12) dX6_isHeight_12 (by decide) ?_
      exact ar_zret (pc := 16) dX6_isHeight_16 rfl (by first | exact Or.inl rfl | exact Or.inr rfl) rfl rfl ⟨by (try simp only [Int32.lt_iff_toInt_lt, Int32.le_iff_toInt_le, ← Int32.toInt_inj, ti_m6, ti_m1, ti_0, ti_1, ti_2, ti_5, ti_6, ti_8, ti_9, ti_12, ti_100, ti_9999, ti_60] at *); first | rw [if_pos (by omega)] | rw [if_neg (by omega)], rfl⟩

set_option maxHeartbeats 4000000 in
set_option maxRecDepth 100000 in
theorem sX7_at (h : am_H) (p k : Nat) : am_Sp mX7_at [.int (nI p), .int (nI k)] h (fun r h1 => r = some (.int (nI (p + 20 + 5 * k))) ∧ h1 = h) := by
  refine am_intro (by decide) (Nat.le_of_ble_eq_true rfl) ?_
  refine ar_iload_n (i := 0) (pc := 0) dX7_at_0 rfl rfl ?_
  refine ar_bipush (pc := 1) dX7_at_1 q_bipush_20 ?_
  refine ar_iadd (pc := 3) dX7_at_3 ?_
  refine ar_iconst (pc := 4) dX7_at_4 q_iconst_5 ?_
  refine ar_iload_n (i := 1) (pc := 5) dX7_at_5 rfl rfl ?_
  refine ar_imul (pc := 6) dX7_at_6 ?_
  refine ar_iadd (pc := 7) dX7_at_7 ?_
  exact ar_iret (pc := 8) dX7_at_8 rfl rfl rfl ⟨by rw [show (20 : Int32) = nI 20 from rfl, show (5 : Int32) = nI 5 from rfl, nI_add, pk_mul, nI_add], rfl⟩

section
variable {M : am_M} {h0 : am_H} {P : Option Value → am_H → Prop} {kc ks pc : Nat} {L : List (Option Value)} {S : List Value} {h : am_H} {idx : Nat}
theorem ar_min {x y : Int32} (d : decode (am_b M) pc = .ok (.invokestatic idx, 3)) (lk : Cond.methodLink (am_y M).cls idx yJ9_min_7cf53 ∈ am_ws ∧ Cond.static yJ9_min_7cf53 ∈ am_ws) (hlv : Nat.ble 1 (am_lv M) = true) (hS : ((S.map Value.category).sum).ble 8 = true) (hc : kc.ble (am_nc M) = true) (hs : ks.ble (am_ns M) = true) (k : am_RW M h0 P kc ks (pc + 3) L (.int (if y < x then y else x) :: S) h) : am_RW M h0 P kc ks pc L (.int y :: .int x :: S) h := by
  intro p l e R s m args below meth c D ad0 Q C F ad H locs ls T Ll
  have hcode : Cond.code Lib.Math.min.name Lib.Math.min.code 2 (some .int) ∈ am_ws := by decide +kernel
  have hini : Cond.initialized "java/lang/Math" ∈ am_ws := by decide +kernel
  have hR := C.2.2.2.2.2.2
  have h1 := Nat.le_of_ble_eq_true hlv
  have h2 := am_cat (ad := ad) (Nat.le_of_ble_eq_true hS)
  exact va_mmin C.1 C.2.1 (C.2.2.1.trans Ll.1.symm) C.2.2.2.1 (am_ts C lk.1) (am_ts C lk.2) (am_ts C hini) (am_ts C hcode) (Nat.le_trans h1 hR.1) (by have := hR.2.1; omega) (Nat.le_trans (Nat.le_of_ble_eq_true hc) hR.2.2.1) (Nat.le_trans (Nat.le_of_ble_eq_true hs) hR.2.2.2) d (k p l e R s m args below meth c D ad0 Q C F ad H locs ls T Ll)
theorem ar_abs {x : Int32} (d : decode (am_b M) pc = .ok (.invokestatic idx, 3)) (lk : Cond.methodLink (am_y M).cls idx yJ9_abs_0f7a4 ∈ am_ws ∧ Cond.static yJ9_abs_0f7a4 ∈ am_ws) (hlv : Nat.ble 1 (am_lv M) = true) (hS : ((S.map Value.category).sum).ble 8 = true) (hc : kc.ble (am_nc M) = true) (hs : ks.ble (am_ns M) = true) (k : am_RW M h0 P kc ks (pc + 3) L (.int (if 0 ≤ x then x else 0 - x) :: S) h) : am_RW M h0 P kc ks pc L (.int x :: S) h := by
  intro p l e R s m args below meth c D ad0 Q C F ad H locs ls T Ll
  have hcode : Cond.code Lib.Math.abs.name Lib.Math.abs.code 1 (some .int) ∈ am_ws := by decide +kernel
  have hini : Cond.initialized "java/lang/Math" ∈ am_ws := by decide +kernel
  have hR := C.2.2.2.2.2.2
  have h1 := Nat.le_of_ble_eq_true hlv
  have h2 := am_cat (ad := ad) (Nat.le_of_ble_eq_true hS)
  exact va_mabs C.1 C.2.1 (C.2.2.1.trans Ll.1.symm) C.2.2.2.1 (am_ts C lk.1) (am_ts C lk.2) (am_ts C hini) (am_ts C hcode) (Nat.le_trans h1 hR.1) (by have := hR.2.1; omega) (Nat.le_trans (Nat.le_of_ble_eq_true hc) hR.2.2.1) (Nat.le_trans (Nat.le_of_ble_eq_true hs) hR.2.2.2) d (k p l e R s m args below meth c D ad0 Q C F ad H locs ls T Ll)
end
def bitc (x : Int32) : Int32 :=
  let a := x - ((x.toUInt32 >>> ((1 : Int32).toUInt32 &&& Int32.toUInt32 31)).toInt32 &&& 1431655765)
  let b := (a &&& 858993459) + ((a.toUInt32 >>> ((2 : Int32).toUInt32 &&& Int32.toUInt32 31)).toInt32 &&& 858993459)
  let c := (b + (b.toUInt32 >>> ((4 : Int32).toUInt32 &&& Int32.toUInt32 31)).toInt32) &&& 252645135
  let d := c + (c.toUInt32 >>> ((8 : Int32).toUInt32 &&& Int32.toUInt32 31)).toInt32
  let e := d + (d.toUInt32 >>> ((16 : Int32).toUInt32 &&& Int32.toUInt32 31)).toInt32
  e &&& 63
set_option maxHeartbeats 4000000 in
set_option maxRecDepth 100000 in
theorem sJ6_bitCount (h : am_H) (x : Int32) : am_Sp mJ6_bitCount_0f7a4 [.int x] h (fun r h1 => r = some (.int (bitc x)) ∧ h1 = h) := by
  refine am_intro (by decide) (Nat.le_of_ble_eq_true rfl) ?_
  refine ar_iload_n (i := 0) (pc := 0) dJ6_bitCount_0f7a4_0 rfl rfl ?_
  refine ar_iload_n (i := 0) (pc := 1) dJ6_bitCount_0f7a4_1 rfl rfl ?_
  refine ar_iconst (pc := 2) dJ6_bitCount_0f7a4_2 q_iconst_1 ?_
  refine ar_iushr (pc := 3) dJ6_bitCount_0f7a4_3 ?_
  refine ar_ldcw (pc := 4) dJ6_bitCount_0f7a4_4 cJ6_265 ?_
  refine ar_iand (pc := 7) dJ6_bitCount_0f7a4_7 ?_
  refine ar_isub (pc := 8) dJ6_bitCount_0f7a4_8 ?_
  refine ar_istore_n (i := 0) (pc := 9) dJ6_bitCount_0f7a4_9 rfl (Nat.le_of_ble_eq_true rfl) rfl ?_
  refine ar_iload_n (i := 0) (pc := 10) dJ6_bitCount_0f7a4_10 rfl rfl ?_
  refine ar_ldcw (pc := 11) dJ6_bitCount_0f7a4_11 cJ6_266 ?_
  refine ar_iand (pc := 14) dJ6_bitCount_0f7a4_14 ?_
  refine ar_iload_n (i := 0) (pc := 15) dJ6_bitCount_0f7a4_15 rfl rfl ?_
  refine ar_iconst (pc := 16) dJ6_bitCount_0f7a4_16 q_iconst_2 ?_
  refine ar_iushr (pc := 17) dJ6_bitCount_0f7a4_17 ?_
  refine ar_ldcw (pc := 18) dJ6_bitCount_0f7a4_18 cJ6_266 ?_
  refine ar_iand (pc := 21) dJ6_bitCount_0f7a4_21 ?_
  refine ar_iadd (pc := 22) dJ6_bitCount_0f7a4_22 ?_
  refine ar_istore_n (i := 0) (pc := 23) dJ6_bitCount_0f7a4_23 rfl (Nat.le_of_ble_eq_true rfl) rfl ?_
  refine ar_iload_n (i := 0) (pc := 24) dJ6_bitCount_0f7a4_24 rfl rfl ?_
  refine ar_iload_n (i := 0) (pc := 25) dJ6_bitCount_0f7a4_25 rfl rfl ?_
  refine ar_iconst (pc := 26) dJ6_bitCount_0f7a4_26 q_iconst_4 ?_
  refine ar_iushr (pc := 27) dJ6_bitCount_0f7a4_27 ?_
  refine ar_iadd (pc := 28) dJ6_bitCount_0f7a4_28 ?_
  refine ar_ldcw (pc := 29) dJ6_bitCount_0f7a4_29 cJ6_267 ?_
  refine ar_iand (pc := 32) dJ6_bitCount_0f7a4_32 ?_
  refine ar_istore_n (i := 0) (pc := 33) dJ6_bitCount_0f7a4_33 rfl (Nat.le_of_ble_eq_true rfl) rfl ?_
  refine ar_iload_n (i := 0) (pc := 34) dJ6_bitCount_0f7a4_34 rfl rfl ?_
  refine ar_iload_n (i := 0) (pc := 35) dJ6_bitCount_0f7a4_35 rfl rfl ?_
  refine ar_bipush (pc := 36) dJ6_bitCount_0f7a4_36 q_bipush_8 ?_
  refine ar_iushr (pc := 38) dJ6_bitCount_0f7a4_38 ?_
  refine ar_iadd (pc := 39) dJ6_bitCount_0f7a4_39 ?_
  refine ar_istore_n (i := 0) (pc := 40) dJ6_bitCount_0f7a4_40 rfl (Nat.le_of_ble_eq_true rfl) rfl ?_
  refine ar_iload_n (i := 0) (pc := 41) dJ6_bitCount_0f7a4_41 rfl rfl ?_
  refine ar_iload_n (i := 0) (pc := 42) dJ6_bitCount_0f7a4_42 rfl rfl ?_
  refine ar_bipush (pc := 43) dJ6_bitCount_0f7a4_43 q_bipush_16 ?_
  refine ar_iushr (pc := 45) dJ6_bitCount_0f7a4_45 ?_
  refine ar_iadd (pc := 46) dJ6_bitCount_0f7a4_46 ?_
  refine ar_istore_n (i := 0) (pc := 47) dJ6_bitCount_0f7a4_47 rfl (Nat.le_of_ble_eq_true rfl) rfl ?_
  refine ar_iload_n (i := 0) (pc := 48) dJ6_bitCount_0f7a4_48 rfl rfl ?_
  refine ar_bipush (pc := 49) dJ6_bitCount_0f7a4_49 q_bipush_63 ?_
  refine ar_iand (pc := 51) dJ6_bitCount_0f7a4_51 ?_
  exact ar_iret (pc := 52) dJ6_bitCount_0f7a4_52 rfl rfl rfl ⟨rfl, rfl⟩
end
section
/-! the class State: what its cells are; its small methods -/
def ix (b : Int32) : Nat := b.toInt.toNat
theorem ix_eq {b : Int32} (h : 0 ≤ b.toInt) : b = nI (ix b) := by
  have h2 := Int32.toInt_lt b
  refine Int32.toInt_inj.mp ?_
  rw [nI_toInt (by unfold ix; omega)]
  unfold ix; omega
theorem ix_nI {k : Nat} (h : k < 2147483648) : ix (nI k) = k := by
  unfold ix; rw [nI_toInt (by omega)]; omega
def am_bp (p : Prop) (h : am_H) : Option Value → am_H → Prop := fun r h1 => ((p ∧ r = some (.int 1)) ∨ (¬ p ∧ r = some (.int 0))) ∧ h1 = h
def am_rp (x : Int32) (h : am_H) : Option Value → am_H → Prop := fun r h1 => r = some (.int x) ∧ h1 = h
def am_vp (h : am_H) : Option Value → am_H → Prop := fun r h1 => r = none ∧ h1 = h
/-- the first place from k on, within d, at which q holds -/
def ffi (q : Nat → Bool) : Nat → Nat → Option Nat
  | 0, _ => none
  | d + 1, k => if q k then some k else ffi q d (k + 1)
def o2i (o : Option Nat) : Int32 := match o with
  | none => -6
  | some k => nI k
theorem am_St.cong {h0 : am_H} {D : va_G} {s : State} {ad0 ad : Nat → Nat} {h : am_H} {H : Heap} {locs : List Loc} {a N : Nat} {ty : FieldType} {w : Bool} {f g : Nat → Int32} (T : am_St h0 D s ad0 ad h H locs) (ha : h[a]? = some (some (.inr (.inl (ty, w, N, f))))) (he : ∀ j, j < N → f j = g j) : am_St h0 D s ad0 ad (h.set a (some (.inr (.inl (ty, w, N, g))))) H locs := by
  obtain ⟨t1, t2, t3, t4, t5, t6, t7, t8⟩ := T
  have hl := (List.getElem?_eq_some_iff.mp ha).1
  have hc : am_cell D s ad (ad a) H (.inr (.inl (ty, w, N, g))) := by
    obtain ⟨cell, c1, c2, c3, c4, c5, c6⟩ := t1.1 a _ ha
    exact ⟨cell, c1, c2, c3, c4, c5, fun j hj => by rw [c6 j hj]; exact congrArg (fun z => some (Value.int z)) (he j hj)⟩
  refine ⟨t1.set ha hc (fun _ _ => rfl), fun k c hk => (am_set_pres ha).mpr (t2 k c hk), fun k hk => t3 k fun q => hk ⟨(am_set_pres ha).mpr q.1, q.2⟩, fun k hk => t4 k ⟨(am_set_pres ha).mp hk.1, hk.2⟩, fun k c hk hcw => ?_, t6, t7, t8⟩
  by_cases e : k = a
  · subst e
    rw [List.getElem?_set_self hl] at hk
    cases hk
    exact t5 k _ ha hcw
  · rw [List.getElem?_set_ne (Ne.symm e)] at hk
    exact t5 k c hk hcw
section
variable {M : am_M} {h0 : am_H} {P : Option Value → am_H → Prop} {kc ks pc : Nat} {L : List (Option Value)} {S : List Value} {h : am_H} {idx : Nat}
/-- a row of numbers counts only as far as it is long -/
theorem ar_cong {a N : Nat} {ty : FieldType} {w : Bool} {f : Nat → Int32} (g : Nat → Int32) (ha : h[a]? = some (some (.inr (.inl (ty, w, N, f))))) (he : ∀ j, j < N → f j = g j) (k : am_RW M h0 P kc ks pc L S (h.set a (some (.inr (.inl (ty, w, N, g)))))) : am_RW M h0 P kc ks pc L S h := by
  intro p l e R s m args below meth c D ad0 Q C F ad H locs ls T Ll
  exact k p l e R s m args below meth c D ad0 Q C F ad H locs ls (T.cong ha he) Ll
/-- the value on top gets a name -/
theorem ar_topi {x : Int32} (k : ∀ y : Int32, y = x → am_RW M h0 P kc ks pc L (.int y :: S) h) : am_RW M h0 P kc ks pc L (.int x :: S) h := k x rfl
theorem ar_topl {x : Int64} (k : ∀ y : Int64, y = x → am_RW M h0 P kc ks pc L (.long y :: S) h) : am_RW M h0 P kc ks pc L (.long x :: S) h := k x rfl
theorem ar_max {x y : Int32} (d : decode (am_b M) pc = .ok (.invokestatic idx, 3)) (lk : Cond.methodLink (am_y M).cls idx yJ9_max_7cf53 ∈ am_ws ∧ Cond.static yJ9_max_7cf53 ∈ am_ws) (hlv : Nat.ble 1 (am_lv M) = true) (hS : ((S.map Value.category).sum).ble 8 = true) (hc : kc.ble (am_nc M) = true) (hs : ks.ble (am_ns M) = true) (k : am_RW M h0 P kc ks (pc + 3) L (.int (if x < y then y else x) :: S) h) : am_RW M h0 P kc ks pc L (.int y :: .int x :: S) h := by
  intro p l e R s m args below meth c D ad0 Q C F ad H locs ls T Ll
  have hcode : Cond.code Lib.Math.max.name Lib.Math.max.code 2 (some .int) ∈ am_ws := by decide +kernel
  have hini : Cond.initialized "java/lang/Math" ∈ am_ws := by decide +kernel
  have hR := C.2.2.2.2.2.2
  have h1 := Nat.le_of_ble_eq_true hlv
  have h2 := am_cat (ad := ad) (Nat.le_of_ble_eq_true hS)
  exact va_mmax C.1 C.2.1 (C.2.2.1.trans Ll.1.symm) C.2.2.2.1 (am_ts C lk.1) (am_ts C lk.2) (am_ts C hini) (am_ts C hcode) (Nat.le_trans h1 hR.1) (by have := hR.2.1; omega) (Nat.le_trans (Nat.le_of_ble_eq_true hc) hR.2.2.1) (Nat.le_trans (Nat.le_of_ble_eq_true hs) hR.2.2.2) d (k p l e R s m args below meth c D ad0 Q C F ad H locs ls T Ll)
end
/-- a State's values: settings, x, roofs, days, rainy days, takings, booths; heights, places, hats, firsts, idle days, lots -/
abbrev SV : Type := (Nat → Int32) × Int64 × Int32 × Int32 × Int32 × Int32 × Int32 × (Nat → Int32) × (Nat → Int32) × (Nat → Int32) × (Nat → Int32) × (Nat → Int32) × (Nat → Int32)
def vS (v : SV) : Nat → Int32 := v.1
def vX (v : SV) : Int64 := v.2.1
def vRo (v : SV) : Int32 := v.2.2.1
def vDa (v : SV) : Int32 := v.2.2.2.1
def vRa (v : SV) : Int32 := v.2.2.2.2.1
def vTa (v : SV) : Int32 := v.2.2.2.2.2.1
def vBo (v : SV) : Int32 := v.2.2.2.2.2.2.1
def vH (v : SV) : Nat → Int32 := v.2.2.2.2.2.2.2.1
def vP (v : SV) : Nat → Int32 := v.2.2.2.2.2.2.2.2.1
def vT (v : SV) : Nat → Int32 := v.2.2.2.2.2.2.2.2.2.1
def vF (v : SV) : Nat → Int32 := v.2.2.2.2.2.2.2.2.2.2.1
def vI (v : SV) : Nat → Int32 := v.2.2.2.2.2.2.2.2.2.2.2.1
def vL (v : SV) : Nat → Int32 := v.2.2.2.2.2.2.2.2.2.2.2.2
def uS (v : SV) (a : Nat → Int32) : SV := (a, v.2)
def uX (v : SV) (a : Int64) : SV := (v.1, a, v.2.2)
def uRo (v : SV) (a : Int32) : SV := (v.1, v.2.1, a, v.2.2.2)
def uDa (v : SV) (a : Int32) : SV := (v.1, v.2.1, v.2.2.1, a, v.2.2.2.2)
def uRa (v : SV) (a : Int32) : SV := (v.1, v.2.1, v.2.2.1, v.2.2.2.1, a, v.2.2.2.2.2)
def uTa (v : SV) (a : Int32) : SV := (v.1, v.2.1, v.2.2.1, v.2.2.2.1, v.2.2.2.2.1, a, v.2.2.2.2.2.2)
def uBo (v : SV) (a : Int32) : SV := (v.1, v.2.1, v.2.2.1, v.2.2.2.1, v.2.2.2.2.1, v.2.2.2.2.2.1, a, v.2.2.2.2.2.2.2)
def uH (v : SV) (a : Nat → Int32) : SV := (v.1, v.2.1, v.2.2.1, v.2.2.2.1, v.2.2.2.2.1, v.2.2.2.2.2.1, v.2.2.2.2.2.2.1, a, v.2.2.2.2.2.2.2.2)
def uP (v : SV) (a : Nat → Int32) : SV := (v.1, v.2.1, v.2.2.1, v.2.2.2.1, v.2.2.2.2.1, v.2.2.2.2.2.1, v.2.2.2.2.2.2.1, v.2.2.2.2.2.2.2.1, a, v.2.2.2.2.2.2.2.2.2)
def uT (v : SV) (a : Nat → Int32) : SV := (v.1, v.2.1, v.2.2.1, v.2.2.2.1, v.2.2.2.2.1, v.2.2.2.2.2.1, v.2.2.2.2.2.2.1, v.2.2.2.2.2.2.2.1, v.2.2.2.2.2.2.2.2.1, a, v.2.2.2.2.2.2.2.2.2.2)
def uF (v : SV) (a : Nat → Int32) : SV := (v.1, v.2.1, v.2.2.1, v.2.2.2.1, v.2.2.2.2.1, v.2.2.2.2.2.1, v.2.2.2.2.2.2.1, v.2.2.2.2.2.2.2.1, v.2.2.2.2.2.2.2.2.1, v.2.2.2.2.2.2.2.2.2.1, a, v.2.2.2.2.2.2.2.2.2.2.2)
def uI (v : SV) (a : Nat → Int32) : SV := (v.1, v.2.1, v.2.2.1, v.2.2.2.1, v.2.2.2.2.1, v.2.2.2.2.2.1, v.2.2.2.2.2.2.1, v.2.2.2.2.2.2.2.1, v.2.2.2.2.2.2.2.2.1, v.2.2.2.2.2.2.2.2.2.1, v.2.2.2.2.2.2.2.2.2.2.1, a, v.2.2.2.2.2.2.2.2.2.2.2.2)
def uL (v : SV) (a : Nat → Int32) : SV := (v.1, v.2.1, v.2.2.1, v.2.2.2.1, v.2.2.2.2.1, v.2.2.2.2.2.1, v.2.2.2.2.2.2.1, v.2.2.2.2.2.2.2.1, v.2.2.2.2.2.2.2.2.1, v.2.2.2.2.2.2.2.2.2.1, v.2.2.2.2.2.2.2.2.2.2.1, v.2.2.2.2.2.2.2.2.2.2.2.1, a)
/-- the object of a State, its rows at the places from a on -/
abbrev stO (a : Nat) (v : SV) : am_C := am_oj 2 [.ref a, .long (vX v), .int (vRo v), .int (vDa v), .int (vRa v), .int (vTa v), .int (vBo v), .ref (a + 1), .ref (a + 2), .ref (a + 3), .ref (a + 4), .ref (a + 5), .ref (a + 6)]
/-- a State's eight cells, the first at the place a -/
def stB (a : Nat) (v : SV) : am_H := [some (stO (a + 1) v), some (am_ia 6 (vS v)), some (am_ia 8 (vH v)), some (am_ia 8 (vP v)), some (am_ia 8 (vT v)), some (am_ia 8 (vF v)), some (am_ia 8 (vI v)), some (am_ia 8 (vL v))]
def stH (v : SV) : am_H := none :: none :: stB 2 v
abbrev stP (v : SV) (n k : Nat) : Prop := k < n ∧ vP v k ≠ -6
def mixF (f g : Nat → Int32) (k : Nat) : Nat → Int32 := fun j => if j < k then f j else g j
theorem mixF_s (f g : Nat → Int32) (k : Nat) : upd (mixF f g k) k (f k) = mixF f g (k + 1) := by
  funext j
  unfold upd mixF
  by_cases h : j = k
  · subst h; simp
  · by_cases h2 : j < k
    · simp [h, h2, show j < k + 1 by omega]
    · simp [h, h2, show ¬ j < k + 1 by omega]
theorem mixF_0 (f g : Nat → Int32) : mixF f g 0 = g := by funext j; simp [mixF]
set_option maxHeartbeats 4000000 in
set_option maxRecDepth 100000 in
theorem sX3_isBooth (v : SV) (n : Nat) (hn : vBo v = nI n) (h8 : n ≤ 8) (b : Int32) : am_Sp mX3_isBooth [.ref 2, .int b] (stH v) (am_bp (0 ≤ b.toInt ∧ b.toInt < n) (stH v)) := by
  refine am_intro (by decide) (Nat.le_of_ble_eq_true rfl) ?_
  refine ar_iload_n (i := 1) (pc := 0) dX3_isBooth_0 rfl rfl ?_
  refine ar_if_lt (pc := 1) (tgt := 22) dX3_isBooth_1 (by decide) (fun c1 => ?_) (fun c1 => ?_)
  · refine ar_iconst (pc := 22) dX3_isBooth_22 q_iconst_0 ?_
    first
      | exact ar_zret (pc := 23) dX3_isBooth_23 rfl (Or.inr rfl) rfl rfl ⟨Or.inl ⟨by (simp (disch := omega) only [Int32.lt_iff_toInt_lt, Int32.le_iff_toInt_le, ← Int32.toInt_inj, ti_m6, ti_m1, ti_0, ti_1, ti_2, ti_3, ti_4, ti_5, ti_6, ti_7, ti_8, ti_9, ti_12, ti_100, ti_9999, ti_60, nI_toInt, hn] at *) <;> omega, rfl⟩, rfl⟩
      | exact ar_zret (pc := 23) dX3_isBooth_23 rfl (Or.inl rfl) rfl rfl ⟨Or.inr ⟨by (simp (disch := omega) only [Int32.lt_iff_toInt_lt, Int32.le_iff_toInt_le, ← Int32.toInt_inj, ti_m6, ti_m1, ti_0, ti_1, ti_2, ti_3, ti_4, ti_5, ti_6, ti_7, ti_8, ti_9, ti_12, ti_100, ti_9999, ti_60, nI_toInt, hn] at *) <;> omega, rfl⟩, rfl⟩
  · refine ar_iload_n (i := 1) (pc := 4) dX3_isBooth_4 rfl rfl ?_
    refine ar_aload_n (i := 0) (pc := 5) dX3_isBooth_5 rfl rfl ?_
    refine ar_getf (pc := 6) dX3_isBooth_6 fX3_60 rfl rfl ?_
    refine ar_icmp_ge (pc := 9) (tgt := 22) dX3_isBooth_9 (by decide) (fun c9 => ?_) (fun c9 => ?_)
    · refine ar_iconst (pc := 22) dX3_isBooth_22 q_iconst_0 ?_
      first
        | exact ar_zret (pc := 23) dX3_isBooth_23 rfl (Or.inr rfl) rfl rfl ⟨Or.inl ⟨by (simp (disch := omega) only [Int32.lt_iff_toInt_lt, Int32.le_iff_toInt_le, ← Int32.toInt_inj, ti_m6, ti_m1, ti_0, ti_1, ti_2, ti_3, ti_4, ti_5, ti_6, ti_7, ti_8, ti_9, ti_12, ti_100, ti_9999, ti_60, nI_toInt, hn] at *) <;> omega, rfl⟩, rfl⟩
        | exact ar_zret (pc := 23) dX3_isBooth_23 rfl (Or.inl rfl) rfl rfl ⟨Or.inr ⟨by (simp (disch := omega) only [Int32.lt_iff_toInt_lt, Int32.le_iff_toInt_le, ← Int32.toInt_inj, ti_m6, ti_m1, ti_0, ti_1, ti_2, ti_3, ti_4, ti_5, ti_6, ti_7, ti_8, ti_9, ti_12, ti_100, ti_9999, ti_60, nI_toInt, hn] at *) <;> omega, rfl⟩, rfl⟩
    · refine ar_iload_n (i := 1) (pc := 12) dX3_isBooth_12 rfl rfl ?_
      refine ar_bipush (pc := 13) dX3_isBooth_13 q_bipush_8 ?_
      refine ar_icmp_ge (pc := 15) (tgt := 22) dX3_isBooth_15 (by decide) (fun c15 => ?_) (fun c15 => ?_)
      · refine ar_iconst (pc := 22) dX3_isBooth_22 q_iconst_0 ?_
        first
          | exact ar_zret (pc := 23) dX3_isBooth_23 rfl (Or.inr rfl) rfl rfl ⟨Or.inl ⟨by (simp (disch := omega) only [Int32.lt_iff_toInt_lt, Int32.le_iff_toInt_le, ← Int32.toInt_inj, ti_m6, ti_m1, ti_0, ti_1, ti_2, ti_3, ti_4, ti_5, ti_6, ti_7, ti_8, ti_9, ti_12, ti_100, ti_9999, ti_60, nI_toInt, hn] at *) <;> omega, rfl⟩, rfl⟩
          | exact ar_zret (pc := 23) dX3_isBooth_23 rfl (Or.inl rfl) rfl rfl ⟨Or.inr ⟨by (simp (disch := omega) only [Int32.lt_iff_toInt_lt, Int32.le_iff_toInt_le, ← Int32.toInt_inj, ti_m6, ti_m1, ti_0, ti_1, ti_2, ti_3, ti_4, ti_5, ti_6, ti_7, ti_8, ti_9, ti_12, ti_100, ti_9999, ti_60, nI_toInt, hn] at *) <;> omega, rfl⟩, rfl⟩
      · refine ar_iconst (pc := 18) dX3_isBooth_18 q_iconst_1 ?_
        refine ar_goto (tgt := 23) (pc := 19) dX3_isBooth_19 (by decide) ?_
        first
          | exact ar_zret (pc := 23) dX3_isBooth_23 rfl (Or.inr rfl) rfl rfl ⟨Or.inl ⟨by (simp (disch := omega) only [Int32.lt_iff_toInt_lt, Int32.le_iff_toInt_le, ← Int32.toInt_inj, ti_m6, ti_m1, ti_0, ti_1, ti_2, ti_3, ti_4, ti_5, ti_6, ti_7, ti_8, ti_9, ti_12, ti_100, ti_9999, ti_60, nI_toInt, hn] at *) <;> omega, rfl⟩, rfl⟩
          | exact ar_zret (pc := 23) dX3_isBooth_23 rfl (Or.inl rfl) rfl rfl ⟨Or.inr ⟨by (simp (disch := omega) only [Int32.lt_iff_toInt_lt, Int32.le_iff_toInt_le, ← Int32.toInt_inj, ti_m6, ti_m1, ti_0, ti_1, ti_2, ti_3, ti_4, ti_5, ti_6, ti_7, ti_8, ti_9, ti_12, ti_100, ti_9999, ti_60, nI_toInt, hn] at *) <;> omega, rfl⟩, rfl⟩
end
section
/-! the class State: its methods -/
abbrev bkP (n : Nat) (b : Int32) : Prop := 0 ≤ b.toInt ∧ b.toInt < n
set_option maxHeartbeats 4000000 in
set_option maxRecDepth 100000 in
theorem sX3_isStanding0 (v : SV) (n : Nat) (hn : vBo v = nI n) (h8 : n ≤ 8) (b : Int32) : am_Sp mX3_isStanding [.ref 2, .int b] (stH v) (am_bp ((0 ≤ b.toInt ∧ b.toInt < n) ∧ vP v (ix b) ≠ -6) (stH v)) := by
  refine am_intro (by decide) (Nat.le_of_ble_eq_true rfl) ?_
  refine ar_aload_n (i := 0) (pc := 0) dX3_isStanding_0 rfl rfl ?_
  refine ar_iload_n (i := 1) (pc := 1) dX3_isStanding_1 rfl rfl ?_
  refine ar_idV (pc := 2) dX3_isStanding_2 cal_X3_isBooth kX3_67 rfl (sX3_isBooth v n hn h8 _) rfl rfl rfl rfl rfl rfl rfl (fun r h1 hp => ?_)
  obtain ⟨⟨h2, rfl⟩ | ⟨h2, rfl⟩, rfl⟩ := hp
  · refine ⟨rfl, ?_⟩
    refine ar_if_eq (pc := 5) (tgt := 23) dX3_isStanding_5 (by decide) (fun c5 => absurd c5 (by decide)) (fun c5 => ?_)
    refine ar_aload_n (i := 0) (pc := 8) dX3_isStanding_8 rfl rfl ?_
    refine ar_getf (pc := 9) dX3_isStanding_9 fX3_29 rfl rfl ?_
    refine ar_iload_n (i := 1) (pc := 12) dX3_isStanding_12 rfl rfl ?_
    refine ar_iald (pc := 13) dX3_isStanding_13 rfl (show ix b < 8 by unfold ix; omega) (ix_eq h2.1) ?_
    refine ar_bipush (pc := 14) dX3_isStanding_14 q_bipush_m6 ?_
    refine ar_icmp_eq (pc := 16) (tgt := 23) dX3_isStanding_16 (by decide) (fun c16 => ?_) (fun c16 => ?_)
    · refine ar_iconst (pc := 23) dX3_isStanding_23 q_iconst_0 ?_
      first
        | exact ar_zret (pc := 24) dX3_isStanding_24 rfl (Or.inr rfl) rfl rfl ⟨Or.inl ⟨⟨h2, c16⟩, rfl⟩, rfl⟩
        | exact ar_zret (pc := 24) dX3_isStanding_24 rfl (Or.inl rfl) rfl rfl ⟨Or.inr ⟨(fun z => by first | exact h2 z.1 | exact z.2 c16), rfl⟩, rfl⟩
    · refine ar_iconst (pc := 19) dX3_isStanding_19 q_iconst_1 ?_
      refine ar_goto (tgt := 24) (pc := 20) dX3_isStanding_20 (by decide) ?_
      first
        | exact ar_zret (pc := 24) dX3_isStanding_24 rfl (Or.inr rfl) rfl rfl ⟨Or.inl ⟨⟨h2, c16⟩, rfl⟩, rfl⟩
        | exact ar_zret (pc := 24) dX3_isStanding_24 rfl (Or.inl rfl) rfl rfl ⟨Or.inr ⟨(fun z => by first | exact h2 z.1 | exact z.2 c16), rfl⟩, rfl⟩
  · refine ⟨rfl, ?_⟩
    refine ar_if_eq (pc := 5) (tgt := 23) dX3_isStanding_5 (by decide) (fun c5 => ?_) (fun c5 => absurd c5 (by decide))
    refine ar_iconst (pc := 23) dX3_isStanding_23 q_iconst_0 ?_
    first
      | exact ar_zret (pc := 24) dX3_isStanding_24 rfl (Or.inr rfl) rfl rfl ⟨Or.inl ⟨⟨h2, c16⟩, rfl⟩, rfl⟩
      | exact ar_zret (pc := 24) dX3_isStanding_24 rfl (Or.inl rfl) rfl rfl ⟨Or.inr ⟨(fun z => by first | exact h2 z.1 | exact z.2 c16), rfl⟩, rfl⟩

theorem sX3_isStanding (v : SV) (n : Nat) (hn : vBo v = nI n) (h8 : n ≤ 8) {k : Nat} (hk : k < 8) : am_Sp mX3_isStanding [.ref 2, .int (nI k)] (stH v) (am_bp (stP v n k) (stH v)) := by
  have h := sX3_isStanding0 v n hn h8 (nI k)
  rw [ix_nI (by omega), nI_toInt (by omega)] at h
  rwa [show ((0 ≤ (k : Int) ∧ (k : Int) < n) ∧ vP v k ≠ -6) = stP v n k from propext ⟨fun z => ⟨by omega, z.2⟩, fun z => ⟨⟨by omega, by have := z.1; omega⟩, z.2⟩⟩] at h
def cst (v : SV) (n : Nat) : Nat → Nat
  | 0 => 0
  | k + 1 => cst v n k + (if stP v n k then 1 else 0)
set_option maxHeartbeats 4000000 in
set_option maxRecDepth 100000 in
theorem lX3_countStanding (v : SV) (n : Nat) (hn : vBo v = nI n) (h8 : n ≤ 8) : ∀ (d k : Nat), k + d = 8 → am_RW mX3_countStanding (stH v) (am_rp (nI (cst v n 8)) (stH v)) 0 0 4 [some (.ref 2), some (.int (nI (cst v n k))), some (.int (nI k))] [] (stH v) := by
  intro d
  induction d with
  | zero =>
    intro k hk
    have e : k = 8 := by omega
    subst e
    refine ar_iload_n (i := 2) (pc := 4) dX3_countStanding_4 rfl rfl ?_
    refine ar_bipush (pc := 5) dX3_countStanding_5 q_bipush_8 ?_
    refine ar_icmp_ge (pc := 7) (tgt := 27) dX3_countStanding_7 (by decide) (fun c7 => ?_) (fun c7 => False.elim (by (simp (disch := omega) only [Int32.lt_iff_toInt_lt, Int32.le_iff_toInt_le, ← Int32.toInt_inj, ti_m6, ti_m1, ti_0, ti_1, ti_2, ti_5, ti_6, ti_8, ti_9, ti_12, ti_100, ti_9999, ti_60, nI_toInt] at c7) <;> omega))
    refine ar_iload_n (i := 1) (pc := 27) dX3_countStanding_27 rfl rfl ?_
    exact ar_iret (pc := 28) dX3_countStanding_28 rfl rfl rfl ⟨rfl, rfl⟩
  | succ d ih =>
    intro k hk
    refine ar_iload_n (i := 2) (pc := 4) dX3_countStanding_4 rfl rfl ?_
    refine ar_bipush (pc := 5) dX3_countStanding_5 q_bipush_8 ?_
    refine ar_icmp_ge (pc := 7) (tgt := 27) dX3_countStanding_7 (by decide) (fun c7 => False.elim (by (simp (disch := omega) only [Int32.lt_iff_toInt_lt, Int32.le_iff_toInt_le, ← Int32.toInt_inj, ti_m6, ti_m1, ti_0, ti_1, ti_2, ti_5, ti_6, ti_8, ti_9, ti_12, ti_100, ti_9999, ti_60, nI_toInt] at c7) <;> omega)) (fun c7 => ?_)
    refine ar_aload_n (i := 0) (pc := 10) dX3_countStanding_10 rfl rfl ?_
    refine ar_iload_n (i := 2) (pc := 11) dX3_countStanding_11 rfl rfl ?_
    refine ar_idV (pc := 12) dX3_countStanding_12 cal_X3_isStanding kX3_70 rfl (sX3_isStanding v n hn h8 (by omega)) rfl rfl rfl rfl rfl rfl rfl (fun r h1 hp => ?_)
    obtain ⟨⟨h12, rfl⟩ | ⟨h12, rfl⟩, rfl⟩ := hp
    · refine ⟨rfl, ?_⟩
      refine ar_if_eq (pc := 15) (tgt := 21) dX3_countStanding_15 (by decide) (fun c15 => absurd c15 (by decide)) (fun c15 => ?_)
      refine ar_iinc (pc := 18) dX3_countStanding_18 rfl (ni_inc _) (Nat.le_of_ble_eq_true rfl) rfl ?_
      refine ar_iinc (pc := 21) dX3_countStanding_21 rfl (ni_inc _) (Nat.le_of_ble_eq_true rfl) rfl ?_
      refine ar_goto (tgt := 4) (pc := 24) dX3_countStanding_24 (by decide) ?_
      have ih' := ih (k + 1) (by omega)
      first
        | (rw [show cst v n (k + 1) = cst v n k + 1 by rw [cst, if_pos h12]] at ih'; exact ih')
        | (rw [show cst v n (k + 1) = cst v n k by rw [cst, if_neg h12, Nat.add_zero]] at ih'; exact ih')
    · refine ⟨rfl, ?_⟩
      refine ar_if_eq (pc := 15) (tgt := 21) dX3_countStanding_15 (by decide) (fun c15 => ?_) (fun c15 => absurd c15 (by decide))
      refine ar_iinc (pc := 21) dX3_countStanding_21 rfl (ni_inc _) (Nat.le_of_ble_eq_true rfl) rfl ?_
      refine ar_goto (tgt := 4) (pc := 24) dX3_countStanding_24 (by decide) ?_
      have ih' := ih (k + 1) (by omega)
      first
        | (rw [show cst v n (k + 1) = cst v n k + 1 by rw [cst, if_pos h12]] at ih'; exact ih')
        | (rw [show cst v n (k + 1) = cst v n k by rw [cst, if_neg h12, Nat.add_zero]] at ih'; exact ih')

set_option maxHeartbeats 4000000 in
set_option maxRecDepth 100000 in
theorem sX3_countStanding (v : SV) (n : Nat) (hn : vBo v = nI n) (h8 : n ≤ 8) : am_Sp mX3_countStanding [.ref 2] (stH v) ((am_rp (nI (cst v n 8)) (stH v))) := by
  refine am_intro (by decide) (Nat.le_of_ble_eq_true rfl) ?_
  refine ar_iconst (pc := 0) dX3_countStanding_0 q_iconst_0 ?_
  refine ar_istore_n (i := 1) (pc := 1) dX3_countStanding_1 rfl (Nat.le_of_ble_eq_true rfl) rfl ?_
  refine ar_iconst (pc := 2) dX3_countStanding_2 q_iconst_0 ?_
  refine ar_istore_n (i := 2) (pc := 3) dX3_countStanding_3 rfl (Nat.le_of_ble_eq_true rfl) rfl ?_
  exact lX3_countStanding v n hn h8 8 0 (by omega)

abbrev atQ (v : SV) (n : Nat) (p : Int32) : Nat → Bool := fun k => decide (stP v n k ∧ vP v k = p)
set_option maxHeartbeats 4000000 in
set_option maxRecDepth 100000 in
theorem lX3_boothAt (v : SV) (n : Nat) (hn : vBo v = nI n) (h8 : n ≤ 8) (p : Int32) (o : Option Nat) : ∀ (d k : Nat), k + d = 8 → ffi (atQ v n p) d k = o → am_RW mX3_boothAt (stH v) (am_rp (o2i o) (stH v)) 0 0 2 [some (.ref 2), some (.int p), some (.int (nI k))] [] (stH v) := by
  intro d
  induction d with
  | zero =>
    intro k hk ho
    have e : k = 8 := by omega
    subst e
    subst ho
    refine ar_iload_n (i := 2) (pc := 2) dX3_boothAt_2 rfl rfl ?_
    refine ar_bipush (pc := 3) dX3_boothAt_3 q_bipush_8 ?_
    refine ar_icmp_ge (pc := 5) (tgt := 34) dX3_boothAt_5 (by decide) (fun c5 => ?_) (fun c5 => False.elim (by (simp (disch := omega) only [Int32.lt_iff_toInt_lt, Int32.le_iff_toInt_le, ← Int32.toInt_inj, ti_m6, ti_m1, ti_0, ti_1, ti_2, ti_5, ti_6, ti_8, ti_9, ti_12, ti_100, ti_9999, ti_60, nI_toInt] at c5) <;> omega))
    refine ar_bipush (pc := 34) dX3_boothAt_34 q_bipush_m6 ?_
    exact ar_iret (pc := 36) dX3_boothAt_36 rfl rfl rfl ⟨rfl, rfl⟩
  | succ d ih =>
    intro k hk ho
    refine ar_iload_n (i := 2) (pc := 2) dX3_boothAt_2 rfl rfl ?_
    refine ar_bipush (pc := 3) dX3_boothAt_3 q_bipush_8 ?_
    refine ar_icmp_ge (pc := 5) (tgt := 34) dX3_boothAt_5 (by decide) (fun c5 => False.elim (by (simp (disch := omega) only [Int32.lt_iff_toInt_lt, Int32.le_iff_toInt_le, ← Int32.toInt_inj, ti_m6, ti_m1, ti_0, ti_1, ti_2, ti_5, ti_6, ti_8, ti_9, ti_12, ti_100, ti_9999, ti_60, nI_toInt] at c5) <;> omega)) (fun c5 => ?_)
    refine ar_aload_n (i := 0) (pc := 8) dX3_boothAt_8 rfl rfl ?_
    refine ar_iload_n (i := 2) (pc := 9) dX3_boothAt_9 rfl rfl ?_
    refine ar_idV (pc := 10) dX3_boothAt_10 cal_X3_isStanding kX3_70 rfl (sX3_isStanding v n hn h8 (by omega)) rfl rfl rfl rfl rfl rfl rfl (fun r h1 hp => ?_)
    obtain ⟨⟨h10, rfl⟩ | ⟨h10, rfl⟩, rfl⟩ := hp
    · refine ⟨rfl, ?_⟩
      refine ar_if_eq (pc := 13) (tgt := 28) dX3_boothAt_13 (by decide) (fun c13 => absurd c13 (by decide)) (fun c13 => ?_)
      refine ar_aload_n (i := 0) (pc := 16) dX3_boothAt_16 rfl rfl ?_
      refine ar_getf (pc := 17) dX3_boothAt_17 fX3_29 rfl rfl ?_
      refine ar_iload_n (i := 2) (pc := 20) dX3_boothAt_20 rfl rfl ?_
      refine ar_iald (pc := 21) dX3_boothAt_21 rfl (by omega) rfl ?_
      refine ar_iload_n (i := 1) (pc := 22) dX3_boothAt_22 rfl rfl ?_
      refine ar_icmp_ne (pc := 23) (tgt := 28) dX3_boothAt_23 (by decide) (fun c23 => ?_) (fun c23 => ?_)
      · refine ar_iinc (pc := 28) dX3_boothAt_28 rfl (ni_inc _) (Nat.le_of_ble_eq_true rfl) rfl ?_
        refine ar_goto (tgt := 2) (pc := 31) dX3_boothAt_31 (by decide) ?_
        refine ih (k + 1) (by omega) ?_
        rw [← ho, ffi, if_neg]
        intro z
        have z := of_decide_eq_true z
        first | exact h10 z.1 | exact c23 z.2
      · refine ar_iload_n (i := 2) (pc := 26) dX3_boothAt_26 rfl rfl ?_
        exact ar_iret (pc := 27) dX3_boothAt_27 rfl rfl rfl ⟨by rw [← ho, ffi, if_pos (decide_eq_true ⟨h10, c23⟩)]; rfl, rfl⟩
    · refine ⟨rfl, ?_⟩
      refine ar_if_eq (pc := 13) (tgt := 28) dX3_boothAt_13 (by decide) (fun c13 => ?_) (fun c13 => absurd c13 (by decide))
      refine ar_iinc (pc := 28) dX3_boothAt_28 rfl (ni_inc _) (Nat.le_of_ble_eq_true rfl) rfl ?_
      refine ar_goto (tgt := 2) (pc := 31) dX3_boothAt_31 (by decide) ?_
      refine ih (k + 1) (by omega) ?_
      rw [← ho, ffi, if_neg]
      intro z
      have z := of_decide_eq_true z
      first | exact h10 z.1 | exact c23 z.2

set_option maxHeartbeats 4000000 in
set_option maxRecDepth 100000 in
theorem sX3_boothAt (v : SV) (n : Nat) (hn : vBo v = nI n) (h8 : n ≤ 8) (p : Int32) : am_Sp mX3_boothAt [.ref 2, .int p] (stH v) (am_rp (o2i (ffi (atQ v n p) 8 0)) (stH v)) := by
  refine am_intro (by decide) (Nat.le_of_ble_eq_true rfl) ?_
  refine ar_iconst (pc := 0) dX3_boothAt_0 q_iconst_0 ?_
  refine ar_istore_n (i := 2) (pc := 1) dX3_boothAt_1 rfl (Nat.le_of_ble_eq_true rfl) rfl ?_
  exact lX3_boothAt v n hn h8 p _ 8 0 (by omega) rfl

theorem ffi_spec {q : Nat → Bool} : ∀ (d k j : Nat), ffi q d k = some j → k ≤ j ∧ j < k + d ∧ q j = true ∧ ∀ i, k ≤ i → i < j → q i = false
  | 0, k, j, h => by cases h
  | d + 1, k, j, h => by
    rw [ffi] at h
    by_cases c : q k = true
    · rw [if_pos c] at h; cases h
      exact ⟨Nat.le_refl _, by omega, c, fun i h1 h2 => by omega⟩
    · rw [if_neg c] at h
      obtain ⟨h1, h2, h3, h4⟩ := ffi_spec d (k + 1) j h
      refine ⟨by omega, by omega, h3, fun i i1 i2 => ?_⟩
      by_cases e : i = k
      · subst e; simpa using c
      · exact h4 i (by omega) i2
theorem ffi_none {q : Nat → Bool} : ∀ (d k : Nat), ffi q d k = none → ∀ i, k ≤ i → i < k + d → q i = false
  | 0, k, _, i, h1, h2 => by omega
  | d + 1, k, h, i, h1, h2 => by
    rw [ffi] at h
    by_cases c : q k = true
    · rw [if_pos c] at h; cases h
    · rw [if_neg c] at h
      by_cases e : i = k
      · subst e; simpa using c
      · exact ffi_none d (k + 1) h i (by omega) (by omega)
abbrev tkP (v : SV) (n : Nat) (p : Int32) (j : Nat) : Prop := ∃ k, ffi (atQ v n p) 8 0 = some k ∧ k ≠ j
theorem tk_1 {o : Option Nat} {j : Nat} (h1 : ¬ o2i o = -6) (h2 : ¬ o2i o = nI j) : ∃ k, o = some k ∧ k ≠ j := by
  cases o with
  | none => exact absurd rfl h1
  | some k => exact ⟨k, rfl, fun e => h2 (by rw [e]; rfl)⟩
theorem tk_2 {k : Nat} {p : Prop} (hk : k < 0 + 8) (h : o2i (some k) = -6) : p := by
  have h : nI k = -6 := h
  simp (disch := omega) only [Int32.lt_iff_toInt_lt, Int32.le_iff_toInt_le, ← Int32.toInt_inj, ti_m6, ti_m1, ti_0, ti_1, ti_2, ti_5, ti_6, ti_8, ti_9, ti_12, ti_100, ti_9999, ti_60, nI_toInt] at h
  omega
theorem tk_3 {k j : Nat} {p : Prop} (hk : k < 0 + 8) (hj : j < 8) (hn : k ≠ j) (h : o2i (some k) = nI j) : p := by
  have h : nI k = nI j := h
  simp (disch := omega) only [Int32.lt_iff_toInt_lt, Int32.le_iff_toInt_le, ← Int32.toInt_inj, ti_m6, ti_m1, ti_0, ti_1, ti_2, ti_5, ti_6, ti_8, ti_9, ti_12, ti_100, ti_9999, ti_60, nI_toInt] at h
  omega
set_option maxHeartbeats 4000000 in
set_option maxRecDepth 100000 in
theorem sX3_isTakenByOther (v : SV) (n : Nat) (hn : vBo v = nI n) (h8 : n ≤ 8) (p : Int32) {j : Nat} (hj : j < 8) : am_Sp mX3_isTakenByOther [.ref 2, .int p, .int (nI j)] (stH v) (am_bp (tkP v n p j) (stH v)) := by
  refine am_intro (by decide) (Nat.le_of_ble_eq_true rfl) ?_
  refine ar_aload_n (i := 0) (pc := 0) dX3_isTakenByOther_0 rfl rfl ?_
  refine ar_iload_n (i := 1) (pc := 1) dX3_isTakenByOther_1 rfl rfl ?_
  refine ar_idV (pc := 2) dX3_isTakenByOther_2 cal_X3_boothAt kX3_73 rfl (sX3_boothAt v n hn h8 _) rfl rfl rfl rfl rfl rfl rfl (fun r h1 hp => ?_)
  obtain ⟨rfl, rfl⟩ := hp
  refine ⟨rfl, ?_⟩
  refine ar_istore_n (i := 3) (pc := 5) dX3_isTakenByOther_5 rfl (Nat.le_of_ble_eq_true rfl) rfl ?_
  refine ar_iload_n (i := 3) (pc := 6) dX3_isTakenByOther_6 rfl rfl ?_
  refine ar_bipush (pc := 7) dX3_isTakenByOther_7 q_bipush_m6 ?_
  refine ar_icmp_eq (pc := 9) (tgt := 21) dX3_isTakenByOther_9 (by decide) (fun c9 => ?_) (fun c9 => ?_)
  · refine ar_iconst (pc := 21) dX3_isTakenByOther_21 q_iconst_0 ?_
    first
      | exact ar_zret (pc := 22) dX3_isTakenByOther_22 rfl (Or.inr rfl) rfl rfl ⟨Or.inl ⟨tk_1 c9 c14, rfl⟩, rfl⟩
      | exact ar_zret (pc := 22) dX3_isTakenByOther_22 rfl (Or.inl rfl) rfl rfl ⟨Or.inr ⟨(fun z => by obtain ⟨k, z1, z2⟩ := z; have z3 := (ffi_spec _ _ _ z1).2.1; first | exact tk_2 z3 (by rw [← z1]; exact c9) | exact tk_3 z3 hj z2 (by rw [← z1]; exact c14)), rfl⟩, rfl⟩
  · refine ar_iload_n (i := 3) (pc := 12) dX3_isTakenByOther_12 rfl rfl ?_
    refine ar_iload_n (i := 2) (pc := 13) dX3_isTakenByOther_13 rfl rfl ?_
    refine ar_icmp_eq (pc := 14) (tgt := 21) dX3_isTakenByOther_14 (by decide) (fun c14 => ?_) (fun c14 => ?_)
    · refine ar_iconst (pc := 21) dX3_isTakenByOther_21 q_iconst_0 ?_
      first
        | exact ar_zret (pc := 22) dX3_isTakenByOther_22 rfl (Or.inr rfl) rfl rfl ⟨Or.inl ⟨tk_1 c9 c14, rfl⟩, rfl⟩
        | exact ar_zret (pc := 22) dX3_isTakenByOther_22 rfl (Or.inl rfl) rfl rfl ⟨Or.inr ⟨(fun z => by obtain ⟨k, z1, z2⟩ := z; have z3 := (ffi_spec _ _ _ z1).2.1; first | exact tk_2 z3 (by rw [← z1]; exact c9) | exact tk_3 z3 hj z2 (by rw [← z1]; exact c14)), rfl⟩, rfl⟩
    · refine ar_iconst (pc := 17) dX3_isTakenByOther_17 q_iconst_1 ?_
      refine ar_goto (tgt := 22) (pc := 18) dX3_isTakenByOther_18 (by decide) ?_
      first
        | exact ar_zret (pc := 22) dX3_isTakenByOther_22 rfl (Or.inr rfl) rfl rfl ⟨Or.inl ⟨tk_1 c9 c14, rfl⟩, rfl⟩
        | exact ar_zret (pc := 22) dX3_isTakenByOther_22 rfl (Or.inl rfl) rfl rfl ⟨Or.inr ⟨(fun z => by obtain ⟨k, z1, z2⟩ := z; have z3 := (ffi_spec _ _ _ z1).2.1; first | exact tk_2 z3 (by rw [← z1]; exact c9) | exact tk_3 z3 hj z2 (by rw [← z1]; exact c14)), rfl⟩, rfl⟩

abbrev hdP (v : SV) (n : Nat) (k j : Nat) (l : Int32) : Prop := stP v n k ∧ stP v n j ∧ vH v j ≤ vH v k ∧ (¬ l = 0 → vP v k < vP v j) ∧ (l = 0 → vP v j < vP v k)
set_option maxHeartbeats 4000000 in
set_option maxRecDepth 100000 in
theorem sX3_hides (v : SV) (n : Nat) (hn : vBo v = nI n) (h8 : n ≤ 8) {k j : Nat} (hk : k < 8) (hj : j < 8) (l : Int32) : am_Sp mX3_hides [.ref 2, .int (nI k), .int (nI j), .int l] (stH v) (am_bp (hdP v n k j l) (stH v)) := by
  refine am_intro (by decide) (Nat.le_of_ble_eq_true rfl) ?_
  refine ar_aload_n (i := 0) (pc := 0) dX3_hides_0 rfl rfl ?_
  refine ar_iload_n (i := 1) (pc := 1) dX3_hides_1 rfl rfl ?_
  refine ar_idV (pc := 2) dX3_hides_2 cal_X3_isStanding kX3_70 rfl (sX3_isStanding v n hn h8 hk) rfl rfl rfl rfl rfl rfl rfl (fun r h1 hp => ?_)
  obtain ⟨⟨h2, rfl⟩ | ⟨h2, rfl⟩, rfl⟩ := hp
  · refine ⟨rfl, ?_⟩
    refine ar_if_eq (pc := 5) (tgt := 31) dX3_hides_5 (by decide) (fun c5 => absurd c5 (by decide)) (fun c5 => ?_)
    refine ar_aload_n (i := 0) (pc := 8) dX3_hides_8 rfl rfl ?_
    refine ar_iload_n (i := 2) (pc := 9) dX3_hides_9 rfl rfl ?_
    refine ar_idV (pc := 10) dX3_hides_10 cal_X3_isStanding kX3_70 rfl (sX3_isStanding v n hn h8 hj) rfl rfl rfl rfl rfl rfl rfl (fun r h1 hp => ?_)
    obtain ⟨⟨h10, rfl⟩ | ⟨h10, rfl⟩, rfl⟩ := hp
    · refine ⟨rfl, ?_⟩
      refine ar_if_eq (pc := 13) (tgt := 31) dX3_hides_13 (by decide) (fun c13 => absurd c13 (by decide)) (fun c13 => ?_)
      refine ar_aload_n (i := 0) (pc := 16) dX3_hides_16 rfl rfl ?_
      refine ar_getf (pc := 17) dX3_hides_17 fX3_26 rfl rfl ?_
      refine ar_iload_n (i := 1) (pc := 20) dX3_hides_20 rfl rfl ?_
      refine ar_iald (pc := 21) dX3_hides_21 rfl (by assumption) rfl ?_
      refine ar_aload_n (i := 0) (pc := 22) dX3_hides_22 rfl rfl ?_
      refine ar_getf (pc := 23) dX3_hides_23 fX3_26 rfl rfl ?_
      refine ar_iload_n (i := 2) (pc := 26) dX3_hides_26 rfl rfl ?_
      refine ar_iald (pc := 27) dX3_hides_27 rfl (by assumption) rfl ?_
      refine ar_icmp_ge (pc := 28) (tgt := 33) dX3_hides_28 (by decide) (fun c28 => ?_) (fun c28 => ?_)
      · refine ar_iload_n (i := 3) (pc := 33) dX3_hides_33 rfl rfl ?_
        refine ar_if_eq (pc := 34) (tgt := 60) dX3_hides_34 (by decide) (fun c34 => ?_) (fun c34 => ?_)
        · refine ar_aload_n (i := 0) (pc := 60) dX3_hides_60 rfl rfl ?_
          refine ar_getf (pc := 61) dX3_hides_61 fX3_29 rfl rfl ?_
          refine ar_iload_n (i := 1) (pc := 64) dX3_hides_64 rfl rfl ?_
          refine ar_iald (pc := 65) dX3_hides_65 rfl (by assumption) rfl ?_
          refine ar_aload_n (i := 0) (pc := 66) dX3_hides_66 rfl rfl ?_
          refine ar_getf (pc := 67) dX3_hides_67 fX3_29 rfl rfl ?_
          refine ar_iload_n (i := 2) (pc := 70) dX3_hides_70 rfl rfl ?_
          refine ar_iald (pc := 71) dX3_hides_71 rfl (by assumption) rfl ?_
          refine ar_icmp_le (pc := 72) (tgt := 79) dX3_hides_72 (by decide) (fun c72 => ?_) (fun c72 => ?_)
          · refine ar_iconst (pc := 79) dX3_hides_79 q_iconst_0 ?_
            first
              | exact ar_zret (pc := 80) dX3_hides_80 rfl (Or.inr rfl) rfl rfl ⟨Or.inl ⟨⟨h2, h10, c28, fun z => by first | exact (Int32.not_le.mp c49) | exact absurd c34 z, fun z => by first | exact (Int32.not_le.mp c72) | exact absurd z c34⟩, rfl⟩, rfl⟩
              | exact ar_zret (pc := 80) dX3_hides_80 rfl (Or.inl rfl) rfl rfl ⟨Or.inr ⟨(fun z => by first | exact h2 z.1 | exact h10 z.2.1 | exact c28 z.2.2.1 | exact (Int32.not_lt.mpr c49) (z.2.2.2.1 c34) | exact (Int32.not_lt.mpr c72) (z.2.2.2.2 c34)), rfl⟩, rfl⟩
          · refine ar_iconst (pc := 75) dX3_hides_75 q_iconst_1 ?_
            refine ar_goto (tgt := 80) (pc := 76) dX3_hides_76 (by decide) ?_
            first
              | exact ar_zret (pc := 80) dX3_hides_80 rfl (Or.inr rfl) rfl rfl ⟨Or.inl ⟨⟨h2, h10, c28, fun z => by first | exact (Int32.not_le.mp c49) | exact absurd c34 z, fun z => by first | exact (Int32.not_le.mp c72) | exact absurd z c34⟩, rfl⟩, rfl⟩
              | exact ar_zret (pc := 80) dX3_hides_80 rfl (Or.inl rfl) rfl rfl ⟨Or.inr ⟨(fun z => by first | exact h2 z.1 | exact h10 z.2.1 | exact c28 z.2.2.1 | exact (Int32.not_lt.mpr c49) (z.2.2.2.1 c34) | exact (Int32.not_lt.mpr c72) (z.2.2.2.2 c34)), rfl⟩, rfl⟩
        · refine ar_aload_n (i := 0) (pc := 37) dX3_hides_37 rfl rfl ?_
          refine ar_getf (pc := 38) dX3_hides_38 fX3_29 rfl rfl ?_
          refine ar_iload_n (i := 1) (pc := 41) dX3_hides_41 rfl rfl ?_
          refine ar_iald (pc := 42) dX3_hides_42 rfl (by assumption) rfl ?_
          refine ar_aload_n (i := 0) (pc := 43) dX3_hides_43 rfl rfl ?_
          refine ar_getf (pc := 44) dX3_hides_44 fX3_29 rfl rfl ?_
          refine ar_iload_n (i := 2) (pc := 47) dX3_hides_47 rfl rfl ?_
          refine ar_iald (pc := 48) dX3_hides_48 rfl (by assumption) rfl ?_
          refine ar_icmp_ge (pc := 49) (tgt := 56) dX3_hides_49 (by decide) (fun c49 => ?_) (fun c49 => ?_)
          · refine ar_iconst (pc := 56) dX3_hides_56 q_iconst_0 ?_
            refine ar_goto (tgt := 80) (pc := 57) dX3_hides_57 (by decide) ?_
            first
              | exact ar_zret (pc := 80) dX3_hides_80 rfl (Or.inr rfl) rfl rfl ⟨Or.inl ⟨⟨h2, h10, c28, fun z => by first | exact (Int32.not_le.mp c49) | exact absurd c34 z, fun z => by first | exact (Int32.not_le.mp c72) | exact absurd z c34⟩, rfl⟩, rfl⟩
              | exact ar_zret (pc := 80) dX3_hides_80 rfl (Or.inl rfl) rfl rfl ⟨Or.inr ⟨(fun z => by first | exact h2 z.1 | exact h10 z.2.1 | exact c28 z.2.2.1 | exact (Int32.not_lt.mpr c49) (z.2.2.2.1 c34) | exact (Int32.not_lt.mpr c72) (z.2.2.2.2 c34)), rfl⟩, rfl⟩
          · refine ar_iconst (pc := 52) dX3_hides_52 q_iconst_1 ?_
            refine ar_goto (tgt := 80) (pc := 53) dX3_hides_53 (by decide) ?_
            first
              | exact ar_zret (pc := 80) dX3_hides_80 rfl (Or.inr rfl) rfl rfl ⟨Or.inl ⟨⟨h2, h10, c28, fun z => by first | exact (Int32.not_le.mp c49) | exact absurd c34 z, fun z => by first | exact (Int32.not_le.mp c72) | exact absurd z c34⟩, rfl⟩, rfl⟩
              | exact ar_zret (pc := 80) dX3_hides_80 rfl (Or.inl rfl) rfl rfl ⟨Or.inr ⟨(fun z => by first | exact h2 z.1 | exact h10 z.2.1 | exact c28 z.2.2.1 | exact (Int32.not_lt.mpr c49) (z.2.2.2.1 c34) | exact (Int32.not_lt.mpr c72) (z.2.2.2.2 c34)), rfl⟩, rfl⟩
      · refine ar_iconst (pc := 31) dX3_hides_31 q_iconst_0 ?_
        first
          | exact ar_zret (pc := 32) dX3_hides_32 rfl (Or.inr rfl) rfl rfl ⟨Or.inl ⟨⟨h2, h10, c28, fun z => by first | exact (Int32.not_le.mp c49) | exact absurd c34 z, fun z => by first | exact (Int32.not_le.mp c72) | exact absurd z c34⟩, rfl⟩, rfl⟩
          | exact ar_zret (pc := 32) dX3_hides_32 rfl (Or.inl rfl) rfl rfl ⟨Or.inr ⟨(fun z => by first | exact h2 z.1 | exact h10 z.2.1 | exact c28 z.2.2.1 | exact (Int32.not_lt.mpr c49) (z.2.2.2.1 c34) | exact (Int32.not_lt.mpr c72) (z.2.2.2.2 c34)), rfl⟩, rfl⟩
    · refine ⟨rfl, ?_⟩
      refine ar_if_eq (pc := 13) (tgt := 31) dX3_hides_13 (by decide) (fun c13 => ?_) (fun c13 => absurd c13 (by decide))
      refine ar_iconst (pc := 31) dX3_hides_31 q_iconst_0 ?_
      first
        | exact ar_zret (pc := 32) dX3_hides_32 rfl (Or.inr rfl) rfl rfl ⟨Or.inl ⟨⟨h2, h10, c28, fun z => by first | exact (Int32.not_le.mp c49) | exact absurd c34 z, fun z => by first | exact (Int32.not_le.mp c72) | exact absurd z c34⟩, rfl⟩, rfl⟩
        | exact ar_zret (pc := 32) dX3_hides_32 rfl (Or.inl rfl) rfl rfl ⟨Or.inr ⟨(fun z => by first | exact h2 z.1 | exact h10 z.2.1 | exact c28 z.2.2.1 | exact (Int32.not_lt.mpr c49) (z.2.2.2.1 c34) | exact (Int32.not_lt.mpr c72) (z.2.2.2.2 c34)), rfl⟩, rfl⟩
  · refine ⟨rfl, ?_⟩
    refine ar_if_eq (pc := 5) (tgt := 31) dX3_hides_5 (by decide) (fun c5 => ?_) (fun c5 => absurd c5 (by decide))
    refine ar_iconst (pc := 31) dX3_hides_31 q_iconst_0 ?_
    first
      | exact ar_zret (pc := 32) dX3_hides_32 rfl (Or.inr rfl) rfl rfl ⟨Or.inl ⟨⟨h2, h10, c28, fun z => by first | exact (Int32.not_le.mp c49) | exact absurd c34 z, fun z => by first | exact (Int32.not_le.mp c72) | exact absurd z c34⟩, rfl⟩, rfl⟩
      | exact ar_zret (pc := 32) dX3_hides_32 rfl (Or.inl rfl) rfl rfl ⟨Or.inr ⟨(fun z => by first | exact h2 z.1 | exact h10 z.2.1 | exact c28 z.2.2.1 | exact (Int32.not_lt.mpr c49) (z.2.2.2.1 c34) | exact (Int32.not_lt.mpr c72) (z.2.2.2.2 c34)), rfl⟩, rfl⟩

set_option maxHeartbeats 4000000 in
set_option maxRecDepth 100000 in
theorem lX3_isHidden (v : SV) (n : Nat) (hn : vBo v = nI n) (h8 : n ≤ 8) {j : Nat} (hj : j < 8) (l : Int32) : ∀ (d k : Nat), k + d = 8 → (∀ i, i < k → i ≠ j → ¬ hdP v n i j l) → am_RW mX3_isHidden (stH v) (am_bp (∃ i, i < 8 ∧ i ≠ j ∧ hdP v n i j l) (stH v)) 0 0 2 [some (.ref 2), some (.int (nI j)), some (.int l), some (.int (nI k))] [] (stH v) := by
  intro d
  induction d with
  | zero =>
    intro k hk hq
    have e : k = 8 := by omega
    subst e
    refine ar_iload_n (i := 3) (pc := 2) dX3_isHidden_2 rfl rfl ?_
    refine ar_bipush (pc := 3) dX3_isHidden_3 q_bipush_8 ?_
    refine ar_icmp_ge (pc := 5) (tgt := 31) dX3_isHidden_5 (by decide) (fun c5 => ?_) (fun c5 => False.elim (by (simp (disch := omega) only [Int32.lt_iff_toInt_lt, Int32.le_iff_toInt_le, ← Int32.toInt_inj, ti_m6, ti_m1, ti_0, ti_1, ti_2, ti_5, ti_6, ti_8, ti_9, ti_12, ti_100, ti_9999, ti_60, nI_toInt] at c5) <;> omega))
    refine ar_iconst (pc := 31) dX3_isHidden_31 q_iconst_0 ?_
    first
      | exact ar_zret (pc := 32) dX3_isHidden_32 rfl (Or.inr rfl) rfl rfl ⟨Or.inl ⟨(hq.elim), rfl⟩, rfl⟩
      | exact ar_zret (pc := 32) dX3_isHidden_32 rfl (Or.inl rfl) rfl rfl ⟨Or.inr ⟨(fun z => by obtain ⟨i, z1, z2, z3⟩ := z; exact hq i z1 z2 z3), rfl⟩, rfl⟩
  | succ d ih =>
    intro k hk hq
    refine ar_iload_n (i := 3) (pc := 2) dX3_isHidden_2 rfl rfl ?_
    refine ar_bipush (pc := 3) dX3_isHidden_3 q_bipush_8 ?_
    refine ar_icmp_ge (pc := 5) (tgt := 31) dX3_isHidden_5 (by decide) (fun c5 => False.elim (by (simp (disch := omega) only [Int32.lt_iff_toInt_lt, Int32.le_iff_toInt_le, ← Int32.toInt_inj, ti_m6, ti_m1, ti_0, ti_1, ti_2, ti_5, ti_6, ti_8, ti_9, ti_12, ti_100, ti_9999, ti_60, nI_toInt] at c5) <;> omega)) (fun c5 => ?_)
    refine ar_iload_n (i := 3) (pc := 8) dX3_isHidden_8 rfl rfl ?_
    refine ar_iload_n (i := 1) (pc := 9) dX3_isHidden_9 rfl rfl ?_
    refine ar_icmp_eq (pc := 10) (tgt := 25) dX3_isHidden_10 (by decide) (fun c10 => ?_) (fun c10 => ?_)
    · refine ar_iinc (pc := 25) dX3_isHidden_25 rfl (ni_inc _) (Nat.le_of_ble_eq_true rfl) rfl ?_
      refine ar_goto (tgt := 2) (pc := 28) dX3_isHidden_28 (by decide) ?_
      refine ih (k + 1) (by omega) fun i i1 i2 => ?_
      by_cases e : i = k
      · subst e
        first | exact h17 | exact absurd (by simp (disch := omega) only [Int32.lt_iff_toInt_lt, Int32.le_iff_toInt_le, ← Int32.toInt_inj, ti_m6, ti_m1, ti_0, ti_1, ti_2, ti_5, ti_6, ti_8, ti_9, ti_12, ti_100, ti_9999, ti_60, nI_toInt] at c10; omega) i2
      · exact hq i (by omega) i2
    · refine ar_aload_n (i := 0) (pc := 13) dX3_isHidden_13 rfl rfl ?_
      refine ar_iload_n (i := 3) (pc := 14) dX3_isHidden_14 rfl rfl ?_
      refine ar_iload_n (i := 1) (pc := 15) dX3_isHidden_15 rfl rfl ?_
      refine ar_iload_n (i := 2) (pc := 16) dX3_isHidden_16 rfl rfl ?_
      refine ar_idV (pc := 17) dX3_isHidden_17 cal_X3_hides kX3_77 rfl (sX3_hides v n hn h8 (by omega) hj l) rfl rfl rfl rfl rfl rfl rfl (fun r h1 hp => ?_)
      obtain ⟨⟨h17, rfl⟩ | ⟨h17, rfl⟩, rfl⟩ := hp
      · refine ⟨rfl, ?_⟩
        refine ar_if_eq (pc := 20) (tgt := 25) dX3_isHidden_20 (by decide) (fun c20 => absurd c20 (by decide)) (fun c20 => ?_)
        refine ar_iconst (pc := 23) dX3_isHidden_23 q_iconst_1 ?_
        first
          | exact ar_zret (pc := 24) dX3_isHidden_24 rfl (Or.inr rfl) rfl rfl ⟨Or.inl ⟨⟨k, by omega, fun e => c10 (by rw [e]), h17⟩, rfl⟩, rfl⟩
          | exact ar_zret (pc := 24) dX3_isHidden_24 rfl (Or.inl rfl) rfl rfl ⟨Or.inr ⟨(hq.elim), rfl⟩, rfl⟩
      · refine ⟨rfl, ?_⟩
        refine ar_if_eq (pc := 20) (tgt := 25) dX3_isHidden_20 (by decide) (fun c20 => ?_) (fun c20 => absurd c20 (by decide))
        refine ar_iinc (pc := 25) dX3_isHidden_25 rfl (ni_inc _) (Nat.le_of_ble_eq_true rfl) rfl ?_
        refine ar_goto (tgt := 2) (pc := 28) dX3_isHidden_28 (by decide) ?_
        refine ih (k + 1) (by omega) fun i i1 i2 => ?_
        by_cases e : i = k
        · subst e
          first | exact h17 | exact absurd (by simp (disch := omega) only [Int32.lt_iff_toInt_lt, Int32.le_iff_toInt_le, ← Int32.toInt_inj, ti_m6, ti_m1, ti_0, ti_1, ti_2, ti_5, ti_6, ti_8, ti_9, ti_12, ti_100, ti_9999, ti_60, nI_toInt] at c10; omega) i2
        · exact hq i (by omega) i2

set_option maxHeartbeats 4000000 in
set_option maxRecDepth 100000 in
theorem sX3_isHidden (v : SV) (n : Nat) (hn : vBo v = nI n) (h8 : n ≤ 8) {j : Nat} (hj : j < 8) (l : Int32) : am_Sp mX3_isHidden [.ref 2, .int (nI j), .int l] (stH v) ((am_bp (∃ i, i < 8 ∧ i ≠ j ∧ hdP v n i j l) (stH v))) := by
  refine am_intro (by decide) (Nat.le_of_ble_eq_true rfl) ?_
  refine ar_iconst (pc := 0) dX3_isHidden_0 q_iconst_0 ?_
  refine ar_istore_n (i := 3) (pc := 1) dX3_isHidden_1 rfl (Nat.le_of_ble_eq_true rfl) rfl ?_
  exact lX3_isHidden v n hn h8 hj l 8 0 (by omega) (fun i i1 => absurd i1 (Nat.not_lt_zero i))
end
section
/-! the class State: methods that write; rows that are copied -/
set_option maxHeartbeats 4000000 in
set_option maxRecDepth 100000 in
theorem sX6_isPitchB (h : am_H) (b : Int32) : am_Sp mX6_isPitch [.int b] (h) (am_bp (0 ≤ b.toInt ∧ b.toInt < 12) h) := by
  refine am_intro (by decide) (Nat.le_of_ble_eq_true rfl) ?_
  refine ar_iload_n (i := 0) (pc := 0) dX6_isPitch_0 rfl rfl ?_
  refine ar_if_lt (pc := 1) (tgt := 14) dX6_isPitch_1 (by decide) (fun c1 => ?_) (fun c1 => ?_)
  · refine ar_iconst (pc := 14) dX6_isPitch_14 q_iconst_0 ?_
    first
      | exact ar_zret (pc := 15) dX6_isPitch_15 rfl (Or.inr rfl) rfl rfl ⟨Or.inl ⟨by (simp (disch := omega) only [Int32.lt_iff_toInt_lt, Int32.le_iff_toInt_le, ← Int32.toInt_inj, ti_m6, ti_m1, ti_0, ti_1, ti_2, ti_3, ti_4, ti_5, ti_6, ti_7, ti_8, ti_9, ti_12, ti_100, ti_9999, ti_60, nI_toInt] at *) <;> omega, rfl⟩, rfl⟩
      | exact ar_zret (pc := 15) dX6_isPitch_15 rfl (Or.inl rfl) rfl rfl ⟨Or.inr ⟨by (simp (disch := omega) only [Int32.lt_iff_toInt_lt, Int32.le_iff_toInt_le, ← Int32.toInt_inj, ti_m6, ti_m1, ti_0, ti_1, ti_2, ti_3, ti_4, ti_5, ti_6, ti_7, ti_8, ti_9, ti_12, ti_100, ti_9999, ti_60, nI_toInt] at *) <;> omega, rfl⟩, rfl⟩
  · refine ar_iload_n (i := 0) (pc := 4) dX6_isPitch_4 rfl rfl ?_
    refine ar_bipush (pc := 5) dX6_isPitch_5 q_bipush_12 ?_
    refine ar_icmp_ge (pc := 7) (tgt := 14) dX6_isPitch_7 (by decide) (fun c7 => ?_) (fun c7 => ?_)
    · refine ar_iconst (pc := 14) dX6_isPitch_14 q_iconst_0 ?_
      first
        | exact ar_zret (pc := 15) dX6_isPitch_15 rfl (Or.inr rfl) rfl rfl ⟨Or.inl ⟨by (simp (disch := omega) only [Int32.lt_iff_toInt_lt, Int32.le_iff_toInt_le, ← Int32.toInt_inj, ti_m6, ti_m1, ti_0, ti_1, ti_2, ti_3, ti_4, ti_5, ti_6, ti_7, ti_8, ti_9, ti_12, ti_100, ti_9999, ti_60, nI_toInt] at *) <;> omega, rfl⟩, rfl⟩
        | exact ar_zret (pc := 15) dX6_isPitch_15 rfl (Or.inl rfl) rfl rfl ⟨Or.inr ⟨by (simp (disch := omega) only [Int32.lt_iff_toInt_lt, Int32.le_iff_toInt_le, ← Int32.toInt_inj, ti_m6, ti_m1, ti_0, ti_1, ti_2, ti_3, ti_4, ti_5, ti_6, ti_7, ti_8, ti_9, ti_12, ti_100, ti_9999, ti_60, nI_toInt] at *) <;> omega, rfl⟩, rfl⟩
    · refine ar_iconst (pc := 10) dX6_isPitch_10 q_iconst_1 ?_
      refine ar_goto (tgt := 15) (pc := 11) dX6_isPitch_11 (by decide) ?_
      first
        | exact ar_zret (pc := 15) dX6_isPitch_15 rfl (Or.inr rfl) rfl rfl ⟨Or.inl ⟨by (simp (disch := omega) only [Int32.lt_iff_toInt_lt, Int32.le_iff_toInt_le, ← Int32.toInt_inj, ti_m6, ti_m1, ti_0, ti_1, ti_2, ti_3, ti_4, ti_5, ti_6, ti_7, ti_8, ti_9, ti_12, ti_100, ti_9999, ti_60, nI_toInt] at *) <;> omega, rfl⟩, rfl⟩
        | exact ar_zret (pc := 15) dX6_isPitch_15 rfl (Or.inl rfl) rfl rfl ⟨Or.inr ⟨by (simp (disch := omega) only [Int32.lt_iff_toInt_lt, Int32.le_iff_toInt_le, ← Int32.toInt_inj, ti_m6, ti_m1, ti_0, ti_1, ti_2, ti_3, ti_4, ti_5, ti_6, ti_7, ti_8, ti_9, ti_12, ti_100, ti_9999, ti_60, nI_toInt] at *) <;> omega, rfl⟩, rfl⟩

set_option maxHeartbeats 4000000 in
set_option maxRecDepth 100000 in
theorem sX6_isHeightB (h : am_H) (b : Int32) : am_Sp mX6_isHeight [.int b] (h) (am_bp (1 ≤ b.toInt ∧ b.toInt ≤ 9) h) := by
  refine am_intro (by decide) (Nat.le_of_ble_eq_true rfl) ?_
  refine ar_iload_n (i := 0) (pc := 0) dX6_isHeight_0 rfl rfl ?_
  refine ar_iconst (pc := 1) dX6_isHeight_1 q_iconst_1 ?_
  refine ar_icmp_lt (pc := 2) (tgt := 15) dX6_isHeight_2 (by decide) (fun c2 => ?_) (fun c2 => ?_)
  · refine ar_iconst (pc := 15) dX6_isHeight_15 q_iconst_0 ?_
    first
      | exact ar_zret (pc := 16) dX6_isHeight_16 rfl (Or.inr rfl) rfl rfl ⟨Or.inl ⟨by (simp (disch := omega) only [Int32.lt_iff_toInt_lt, Int32.le_iff_toInt_le, ← Int32.toInt_inj, ti_m6, ti_m1, ti_0, ti_1, ti_2, ti_3, ti_4, ti_5, ti_6, ti_7, ti_8, ti_9, ti_12, ti_100, ti_9999, ti_60, nI_toInt] at *) <;> omega, rfl⟩, rfl⟩
      | exact ar_zret (pc := 16) dX6_isHeight_16 rfl (Or.inl rfl) rfl rfl ⟨Or.inr ⟨by (simp (disch := omega) only [Int32.lt_iff_toInt_lt, Int32.le_iff_toInt_le, ← Int32.toInt_inj, ti_m6, ti_m1, ti_0, ti_1, ti_2, ti_3, ti_4, ti_5, ti_6, ti_7, ti_8, ti_9, ti_12, ti_100, ti_9999, ti_60, nI_toInt] at *) <;> omega, rfl⟩, rfl⟩
  · refine ar_iload_n (i := 0) (pc := 5) dX6_isHeight_5 rfl rfl ?_
    refine ar_bipush (pc := 6) dX6_isHeight_6 q_bipush_9 ?_
    refine ar_icmp_gt (pc := 8) (tgt := 15) dX6_isHeight_8 (by decide) (fun c8 => ?_) (fun c8 => ?_)
    · refine ar_iconst (pc := 15) dX6_isHeight_15 q_iconst_0 ?_
      first
        | exact ar_zret (pc := 16) dX6_isHeight_16 rfl (Or.inr rfl) rfl rfl ⟨Or.inl ⟨by (simp (disch := omega) only [Int32.lt_iff_toInt_lt, Int32.le_iff_toInt_le, ← Int32.toInt_inj, ti_m6, ti_m1, ti_0, ti_1, ti_2, ti_3, ti_4, ti_5, ti_6, ti_7, ti_8, ti_9, ti_12, ti_100, ti_9999, ti_60, nI_toInt] at *) <;> omega, rfl⟩, rfl⟩
        | exact ar_zret (pc := 16) dX6_isHeight_16 rfl (Or.inl rfl) rfl rfl ⟨Or.inr ⟨by (simp (disch := omega) only [Int32.lt_iff_toInt_lt, Int32.le_iff_toInt_le, ← Int32.toInt_inj, ti_m6, ti_m1, ti_0, ti_1, ti_2, ti_3, ti_4, ti_5, ti_6, ti_7, ti_8, ti_9, ti_12, ti_100, ti_9999, ti_60, nI_toInt] at *) <;> omega, rfl⟩, rfl⟩
    · refine ar_iconst (pc := 11) dX6_isHeight_11 q_iconst_1 ?_
      refine ar_goto (tgt := 16) (pc := 12) dX6_isHeight_12 (by decide) ?_
      first
        | exact ar_zret (pc := 16) dX6_isHeight_16 rfl (Or.inr rfl) rfl rfl ⟨Or.inl ⟨by (simp (disch := omega) only [Int32.lt_iff_toInt_lt, Int32.le_iff_toInt_le, ← Int32.toInt_inj, ti_m6, ti_m1, ti_0, ti_1, ti_2, ti_3, ti_4, ti_5, ti_6, ti_7, ti_8, ti_9, ti_12, ti_100, ti_9999, ti_60, nI_toInt] at *) <;> omega, rfl⟩, rfl⟩
        | exact ar_zret (pc := 16) dX6_isHeight_16 rfl (Or.inl rfl) rfl rfl ⟨Or.inr ⟨by (simp (disch := omega) only [Int32.lt_iff_toInt_lt, Int32.le_iff_toInt_le, ← Int32.toInt_inj, ti_m6, ti_m1, ti_0, ti_1, ti_2, ti_3, ti_4, ti_5, ti_6, ti_7, ti_8, ti_9, ti_12, ti_100, ti_9999, ti_60, nI_toInt] at *) <;> omega, rfl⟩, rfl⟩

theorem st_S (v : SV) (f : Nat → Int32) : (stH v).set 3 (some (am_ia 6 f)) = stH (uS v f) := by simp only [stH, stB, stO, am_oj, List.set_cons_succ, List.set_cons_zero, uS, uX, uRo, uDa, uRa, uTa, uBo, uH, uP, uT, uF, uI, uL, vS, vX, vRo, vDa, vRa, vTa, vBo, vH, vP, vT, vF, vI, vL]
theorem st_H (v : SV) (f : Nat → Int32) : (stH v).set 4 (some (am_ia 8 f)) = stH (uH v f) := by simp only [stH, stB, stO, am_oj, List.set_cons_succ, List.set_cons_zero, uS, uX, uRo, uDa, uRa, uTa, uBo, uH, uP, uT, uF, uI, uL, vS, vX, vRo, vDa, vRa, vTa, vBo, vH, vP, vT, vF, vI, vL]
theorem st_P (v : SV) (f : Nat → Int32) : (stH v).set 5 (some (am_ia 8 f)) = stH (uP v f) := by simp only [stH, stB, stO, am_oj, List.set_cons_succ, List.set_cons_zero, uS, uX, uRo, uDa, uRa, uTa, uBo, uH, uP, uT, uF, uI, uL, vS, vX, vRo, vDa, vRa, vTa, vBo, vH, vP, vT, vF, vI, vL]
theorem st_T (v : SV) (f : Nat → Int32) : (stH v).set 6 (some (am_ia 8 f)) = stH (uT v f) := by simp only [stH, stB, stO, am_oj, List.set_cons_succ, List.set_cons_zero, uS, uX, uRo, uDa, uRa, uTa, uBo, uH, uP, uT, uF, uI, uL, vS, vX, vRo, vDa, vRa, vTa, vBo, vH, vP, vT, vF, vI, vL]
theorem st_F (v : SV) (f : Nat → Int32) : (stH v).set 7 (some (am_ia 8 f)) = stH (uF v f) := by simp only [stH, stB, stO, am_oj, List.set_cons_succ, List.set_cons_zero, uS, uX, uRo, uDa, uRa, uTa, uBo, uH, uP, uT, uF, uI, uL, vS, vX, vRo, vDa, vRa, vTa, vBo, vH, vP, vT, vF, vI, vL]
theorem st_I (v : SV) (f : Nat → Int32) : (stH v).set 8 (some (am_ia 8 f)) = stH (uI v f) := by simp only [stH, stB, stO, am_oj, List.set_cons_succ, List.set_cons_zero, uS, uX, uRo, uDa, uRa, uTa, uBo, uH, uP, uT, uF, uI, uL, vS, vX, vRo, vDa, vRa, vTa, vBo, vH, vP, vT, vF, vI, vL]
theorem st_L (v : SV) (f : Nat → Int32) : (stH v).set 9 (some (am_ia 8 f)) = stH (uL v f) := by simp only [stH, stB, stO, am_oj, List.set_cons_succ, List.set_cons_zero, uS, uX, uRo, uDa, uRa, uTa, uBo, uH, uP, uT, uF, uI, uL, vS, vX, vRo, vDa, vRa, vTa, vBo, vH, vP, vT, vF, vI, vL]
theorem st_X (v : SV) (a : Int64) : (stH v).set 2 (some (.inl (2, ([.ref 3, .long (vX v), .int (vRo v), .int (vDa v), .int (vRa v), .int (vTa v), .int (vBo v), .ref 4, .ref 5, .ref 6, .ref 7, .ref 8, .ref 9] : List Value).set 1 (.long a)))) = stH (uX v a) := by simp only [stH, stB, stO, am_oj, List.set_cons_succ, List.set_cons_zero, uS, uX, uRo, uDa, uRa, uTa, uBo, uH, uP, uT, uF, uI, uL, vS, vX, vRo, vDa, vRa, vTa, vBo, vH, vP, vT, vF, vI, vL]
theorem st_Ro (v : SV) (a : Int32) : (stH v).set 2 (some (.inl (2, ([.ref 3, .long (vX v), .int (vRo v), .int (vDa v), .int (vRa v), .int (vTa v), .int (vBo v), .ref 4, .ref 5, .ref 6, .ref 7, .ref 8, .ref 9] : List Value).set 2 (.int a)))) = stH (uRo v a) := by simp only [stH, stB, stO, am_oj, List.set_cons_succ, List.set_cons_zero, uS, uX, uRo, uDa, uRa, uTa, uBo, uH, uP, uT, uF, uI, uL, vS, vX, vRo, vDa, vRa, vTa, vBo, vH, vP, vT, vF, vI, vL]
theorem st_Da (v : SV) (a : Int32) : (stH v).set 2 (some (.inl (2, ([.ref 3, .long (vX v), .int (vRo v), .int (vDa v), .int (vRa v), .int (vTa v), .int (vBo v), .ref 4, .ref 5, .ref 6, .ref 7, .ref 8, .ref 9] : List Value).set 3 (.int a)))) = stH (uDa v a) := by simp only [stH, stB, stO, am_oj, List.set_cons_succ, List.set_cons_zero, uS, uX, uRo, uDa, uRa, uTa, uBo, uH, uP, uT, uF, uI, uL, vS, vX, vRo, vDa, vRa, vTa, vBo, vH, vP, vT, vF, vI, vL]
theorem st_Ra (v : SV) (a : Int32) : (stH v).set 2 (some (.inl (2, ([.ref 3, .long (vX v), .int (vRo v), .int (vDa v), .int (vRa v), .int (vTa v), .int (vBo v), .ref 4, .ref 5, .ref 6, .ref 7, .ref 8, .ref 9] : List Value).set 4 (.int a)))) = stH (uRa v a) := by simp only [stH, stB, stO, am_oj, List.set_cons_succ, List.set_cons_zero, uS, uX, uRo, uDa, uRa, uTa, uBo, uH, uP, uT, uF, uI, uL, vS, vX, vRo, vDa, vRa, vTa, vBo, vH, vP, vT, vF, vI, vL]
theorem st_Ta (v : SV) (a : Int32) : (stH v).set 2 (some (.inl (2, ([.ref 3, .long (vX v), .int (vRo v), .int (vDa v), .int (vRa v), .int (vTa v), .int (vBo v), .ref 4, .ref 5, .ref 6, .ref 7, .ref 8, .ref 9] : List Value).set 5 (.int a)))) = stH (uTa v a) := by simp only [stH, stB, stO, am_oj, List.set_cons_succ, List.set_cons_zero, uS, uX, uRo, uDa, uRa, uTa, uBo, uH, uP, uT, uF, uI, uL, vS, vX, vRo, vDa, vRa, vTa, vBo, vH, vP, vT, vF, vI, vL]
theorem st_Bo (v : SV) (a : Int32) : (stH v).set 2 (some (.inl (2, ([.ref 3, .long (vX v), .int (vRo v), .int (vDa v), .int (vRa v), .int (vTa v), .int (vBo v), .ref 4, .ref 5, .ref 6, .ref 7, .ref 8, .ref 9] : List Value).set 6 (.int a)))) = stH (uBo v a) := by simp only [stH, stB, stO, am_oj, List.set_cons_succ, List.set_cons_zero, uS, uX, uRo, uDa, uRa, uTa, uBo, uH, uP, uT, uF, uI, uL, vS, vX, vRo, vDa, vRa, vTa, vBo, vH, vP, vT, vF, vI, vL]
theorem uu_S (v : SV) (a b) : uS (uS v a) b = uS v b := rfl
theorem vu_S (v : SV) (a) : vS (uS v a) = a := rfl
theorem uu_X (v : SV) (a b) : uX (uX v a) b = uX v b := rfl
theorem vu_X (v : SV) (a) : vX (uX v a) = a := rfl
theorem uu_Ro (v : SV) (a b) : uRo (uRo v a) b = uRo v b := rfl
theorem vu_Ro (v : SV) (a) : vRo (uRo v a) = a := rfl
theorem uu_Da (v : SV) (a b) : uDa (uDa v a) b = uDa v b := rfl
theorem vu_Da (v : SV) (a) : vDa (uDa v a) = a := rfl
theorem uu_Ra (v : SV) (a b) : uRa (uRa v a) b = uRa v b := rfl
theorem vu_Ra (v : SV) (a) : vRa (uRa v a) = a := rfl
theorem uu_Ta (v : SV) (a b) : uTa (uTa v a) b = uTa v b := rfl
theorem vu_Ta (v : SV) (a) : vTa (uTa v a) = a := rfl
theorem uu_Bo (v : SV) (a b) : uBo (uBo v a) b = uBo v b := rfl
theorem vu_Bo (v : SV) (a) : vBo (uBo v a) = a := rfl
theorem uu_H (v : SV) (a b) : uH (uH v a) b = uH v b := rfl
theorem vu_H (v : SV) (a) : vH (uH v a) = a := rfl
theorem uu_P (v : SV) (a b) : uP (uP v a) b = uP v b := rfl
theorem vu_P (v : SV) (a) : vP (uP v a) = a := rfl
theorem uu_T (v : SV) (a b) : uT (uT v a) b = uT v b := rfl
theorem vu_T (v : SV) (a) : vT (uT v a) = a := rfl
theorem uu_F (v : SV) (a b) : uF (uF v a) b = uF v b := rfl
theorem vu_F (v : SV) (a) : vF (uF v a) = a := rfl
theorem uu_I (v : SV) (a b) : uI (uI v a) b = uI v b := rfl
theorem vu_I (v : SV) (a) : vI (uI v a) = a := rfl
theorem uu_L (v : SV) (a b) : uL (uL v a) b = uL v b := rfl
theorem vu_L (v : SV) (a) : vL (uL v a) = a := rfl
set_option maxHeartbeats 4000000 in
set_option maxRecDepth 100000 in
theorem sX3_setting (v : SV) {k : Nat} (hk : k < 6) : am_Sp mX3_setting [.ref 2, .int (nI k)] (stH v) (am_rp (vS v k) (stH v)) := by
  refine am_intro (by decide) (Nat.le_of_ble_eq_true rfl) ?_
  refine ar_iload_n (i := 1) (pc := 0) dX3_setting_0 rfl rfl ?_
  refine ar_if_lt (pc := 1) (tgt := 22) dX3_setting_1 (by decide) (fun c1 => False.elim (by (simp (disch := omega) only [Int32.lt_iff_toInt_lt, Int32.le_iff_toInt_le, ← Int32.toInt_inj, ti_m6, ti_m1, ti_0, ti_1, ti_2, ti_3, ti_4, ti_5, ti_6, ti_7, ti_8, ti_9, ti_12, ti_100, ti_9999, ti_60, nI_toInt] at c1) <;> omega)) (fun c1 => ?_)
  refine ar_iload_n (i := 1) (pc := 4) dX3_setting_4 rfl rfl ?_
  refine ar_aload_n (i := 0) (pc := 5) dX3_setting_5 rfl rfl ?_
  refine ar_getf (pc := 6) dX3_setting_6 fX3_13 rfl rfl ?_
  refine ar_alen (pc := 9) dX3_setting_9 rfl ?_
  refine ar_icmp_ge (pc := 10) (tgt := 22) dX3_setting_10 (by decide) (fun c10 => False.elim (by (simp (disch := omega) only [Int32.lt_iff_toInt_lt, Int32.le_iff_toInt_le, ← Int32.toInt_inj, ti_m6, ti_m1, ti_0, ti_1, ti_2, ti_3, ti_4, ti_5, ti_6, ti_7, ti_8, ti_9, ti_12, ti_100, ti_9999, ti_60, nI_toInt] at c10) <;> omega)) (fun c10 => ?_)
  refine ar_aload_n (i := 0) (pc := 13) dX3_setting_13 rfl rfl ?_
  refine ar_getf (pc := 14) dX3_setting_14 fX3_13 rfl rfl ?_
  refine ar_iload_n (i := 1) (pc := 17) dX3_setting_17 rfl rfl ?_
  refine ar_iald (pc := 18) dX3_setting_18 rfl hk rfl ?_
  refine ar_goto (tgt := 23) (pc := 19) dX3_setting_19 (by decide) ?_
  exact ar_iret (pc := 23) dX3_setting_23 rfl rfl rfl ⟨rfl, rfl⟩

set_option maxHeartbeats 4000000 in
set_option maxRecDepth 100000 in
theorem sX3_changeSetting (v : SV) {k : Nat} (hk : k < 6) (a : Int32) : am_Sp mX3_changeSetting [.ref 2, .int (nI k), .int a] (stH v) (am_vp (stH (uS v (upd (vS v) k a)))) := by
  refine am_intro (by decide) (Nat.le_of_ble_eq_true rfl) ?_
  refine ar_iload_n (i := 1) (pc := 0) dX3_changeSetting_0 rfl rfl ?_
  refine ar_if_lt (pc := 1) (tgt := 20) dX3_changeSetting_1 (by decide) (fun c1 => False.elim (by (simp (disch := omega) only [Int32.lt_iff_toInt_lt, Int32.le_iff_toInt_le, ← Int32.toInt_inj, ti_m6, ti_m1, ti_0, ti_1, ti_2, ti_3, ti_4, ti_5, ti_6, ti_7, ti_8, ti_9, ti_12, ti_100, ti_9999, ti_60, nI_toInt] at c1) <;> omega)) (fun c1 => ?_)
  refine ar_iload_n (i := 1) (pc := 4) dX3_changeSetting_4 rfl rfl ?_
  refine ar_aload_n (i := 0) (pc := 5) dX3_changeSetting_5 rfl rfl ?_
  refine ar_getf (pc := 6) dX3_changeSetting_6 fX3_13 rfl rfl ?_
  refine ar_alen (pc := 9) dX3_changeSetting_9 rfl ?_
  refine ar_icmp_ge (pc := 10) (tgt := 20) dX3_changeSetting_10 (by decide) (fun c10 => False.elim (by (simp (disch := omega) only [Int32.lt_iff_toInt_lt, Int32.le_iff_toInt_le, ← Int32.toInt_inj, ti_m6, ti_m1, ti_0, ti_1, ti_2, ti_3, ti_4, ti_5, ti_6, ti_7, ti_8, ti_9, ti_12, ti_100, ti_9999, ti_60, nI_toInt] at c10) <;> omega)) (fun c10 => ?_)
  refine ar_aload_n (i := 0) (pc := 13) dX3_changeSetting_13 rfl rfl ?_
  refine ar_getf (pc := 14) dX3_changeSetting_14 fX3_13 rfl rfl ?_
  refine ar_iload_n (i := 1) (pc := 17) dX3_changeSetting_17 rfl rfl ?_
  refine ar_iload_n (i := 2) (pc := 18) dX3_changeSetting_18 rfl rfl ?_
  refine ar_iast (pc := 19) dX3_changeSetting_19 rfl hk rfl ?_
  exact ar_vret (pc := 20) dX3_changeSetting_20 rfl rfl rfl ⟨rfl, rfl⟩

abbrev rfP (ro : Int32) (k : Nat) : Prop := (ro >>> (nI k &&& 31)) &&& 1 = 1
set_option maxHeartbeats 4000000 in
set_option maxRecDepth 100000 in
theorem sX3_isRoofed (v : SV) {k : Nat} (hk : k < 12) : am_Sp mX3_isRoofed [.ref 2, .int (nI k)] (stH v) (am_bp (rfP (vRo v) k) (stH v)) := by
  refine am_intro (by decide) (Nat.le_of_ble_eq_true rfl) ?_
  refine ar_iload_n (i := 1) (pc := 0) dX3_isRoofed_0 rfl rfl ?_
  refine ar_idSN (pc := 1) dX3_isRoofed_1 cal_X6_isPitch kX3_63 rfl (sX6_isPitchB (stH v) _) rfl rfl rfl rfl rfl (fun r h1 hp => ?_)
  obtain ⟨⟨h1, rfl⟩ | ⟨h1, rfl⟩, rfl⟩ := hp
  · refine ⟨rfl, ?_⟩
    refine ar_if_eq (pc := 4) (tgt := 23) dX3_isRoofed_4 (by decide) (fun c4 => absurd c4 (by decide)) (fun c4 => ?_)
    refine ar_aload_n (i := 0) (pc := 7) dX3_isRoofed_7 rfl rfl ?_
    refine ar_getf (pc := 8) dX3_isRoofed_8 fX3_22 rfl rfl ?_
    refine ar_iload_n (i := 1) (pc := 11) dX3_isRoofed_11 rfl rfl ?_
    refine ar_ishr (pc := 12) dX3_isRoofed_12 ?_
    refine ar_iconst (pc := 13) dX3_isRoofed_13 q_iconst_1 ?_
    refine ar_iand (pc := 14) dX3_isRoofed_14 ?_
    refine ar_iconst (pc := 15) dX3_isRoofed_15 q_iconst_1 ?_
    refine ar_icmp_ne (pc := 16) (tgt := 23) dX3_isRoofed_16 (by decide) (fun c16 => ?_) (fun c16 => ?_)
    · refine ar_iconst (pc := 23) dX3_isRoofed_23 q_iconst_0 ?_
      first
        | exact ar_zret (pc := 24) dX3_isRoofed_24 rfl (Or.inr rfl) rfl rfl ⟨Or.inl ⟨c16, rfl⟩, rfl⟩
        | exact ar_zret (pc := 24) dX3_isRoofed_24 rfl (Or.inl rfl) rfl rfl ⟨Or.inr ⟨(fun z => by first | exact c16 z | exact h1 (by (simp (disch := omega) only [Int32.lt_iff_toInt_lt, Int32.le_iff_toInt_le, ← Int32.toInt_inj, ti_m6, ti_m1, ti_0, ti_1, ti_2, ti_3, ti_4, ti_5, ti_6, ti_7, ti_8, ti_9, ti_12, ti_100, ti_9999, ti_60, nI_toInt] at ⊢); omega)), rfl⟩, rfl⟩
    · refine ar_iconst (pc := 19) dX3_isRoofed_19 q_iconst_1 ?_
      refine ar_goto (tgt := 24) (pc := 20) dX3_isRoofed_20 (by decide) ?_
      first
        | exact ar_zret (pc := 24) dX3_isRoofed_24 rfl (Or.inr rfl) rfl rfl ⟨Or.inl ⟨c16, rfl⟩, rfl⟩
        | exact ar_zret (pc := 24) dX3_isRoofed_24 rfl (Or.inl rfl) rfl rfl ⟨Or.inr ⟨(fun z => by first | exact c16 z | exact h1 (by (simp (disch := omega) only [Int32.lt_iff_toInt_lt, Int32.le_iff_toInt_le, ← Int32.toInt_inj, ti_m6, ti_m1, ti_0, ti_1, ti_2, ti_3, ti_4, ti_5, ti_6, ti_7, ti_8, ti_9, ti_12, ti_100, ti_9999, ti_60, nI_toInt] at ⊢); omega)), rfl⟩, rfl⟩
  · refine ⟨rfl, ?_⟩
    refine ar_if_eq (pc := 4) (tgt := 23) dX3_isRoofed_4 (by decide) (fun c4 => ?_) (fun c4 => absurd c4 (by decide))
    refine ar_iconst (pc := 23) dX3_isRoofed_23 q_iconst_0 ?_
    first
      | exact ar_zret (pc := 24) dX3_isRoofed_24 rfl (Or.inr rfl) rfl rfl ⟨Or.inl ⟨c16, rfl⟩, rfl⟩
      | exact ar_zret (pc := 24) dX3_isRoofed_24 rfl (Or.inl rfl) rfl rfl ⟨Or.inr ⟨(fun z => by first | exact c16 z | exact h1 (by (simp (disch := omega) only [Int32.lt_iff_toInt_lt, Int32.le_iff_toInt_le, ← Int32.toInt_inj, ti_m6, ti_m1, ti_0, ti_1, ti_2, ti_3, ti_4, ti_5, ti_6, ti_7, ti_8, ti_9, ti_12, ti_100, ti_9999, ti_60, nI_toInt] at ⊢); omega)), rfl⟩, rfl⟩

def adB (v : SV) (n : Nat) (a b : Int32) : SV := uBo (uI (uF (uT (uP (uH v (upd (vH v) n a)) (upd (vP v) n b)) (upd (vT v) n 0)) (upd (vF v) n 0)) (upd (vI v) n 0)) (nI (n + 1))
set_option maxHeartbeats 4000000 in
set_option maxRecDepth 100000 in
theorem sX3_addBooth (v : SV) (n : Nat) (hn : vBo v = nI n) (h8 : n < 8) (a b : Int32) : am_Sp mX3_addBooth [.ref 2, .int a, .int b] (stH v) (am_vp (stH (adB v n a b))) := by
  refine am_intro (by decide) (Nat.le_of_ble_eq_true rfl) ?_
  refine ar_aload_n (i := 0) (pc := 0) dX3_addBooth_0 rfl rfl ?_
  refine ar_getf (pc := 1) dX3_addBooth_1 fX3_60 rfl rfl ?_
  refine ar_if_lt (pc := 4) (tgt := 16) dX3_addBooth_4 (by decide) (fun c4 => False.elim (by (simp (disch := omega) only [Int32.lt_iff_toInt_lt, Int32.le_iff_toInt_le, ← Int32.toInt_inj, ti_m6, ti_m1, ti_0, ti_1, ti_2, ti_3, ti_4, ti_5, ti_6, ti_7, ti_8, ti_9, ti_12, ti_100, ti_9999, ti_60, nI_toInt, hn] at c4) <;> omega)) (fun c4 => ?_)
  refine ar_aload_n (i := 0) (pc := 7) dX3_addBooth_7 rfl rfl ?_
  refine ar_getf (pc := 8) dX3_addBooth_8 fX3_60 rfl rfl ?_
  refine ar_bipush (pc := 11) dX3_addBooth_11 q_bipush_8 ?_
  refine ar_icmp_lt (pc := 13) (tgt := 17) dX3_addBooth_13 (by decide) (fun c13 => ?_) (fun c13 => False.elim (by (simp (disch := omega) only [Int32.lt_iff_toInt_lt, Int32.le_iff_toInt_le, ← Int32.toInt_inj, ti_m6, ti_m1, ti_0, ti_1, ti_2, ti_3, ti_4, ti_5, ti_6, ti_7, ti_8, ti_9, ti_12, ti_100, ti_9999, ti_60, nI_toInt, hn] at c13) <;> omega))
  refine ar_aload_n (i := 0) (pc := 17) dX3_addBooth_17 rfl rfl ?_
  refine ar_getf (pc := 18) dX3_addBooth_18 fX3_26 rfl rfl ?_
  refine ar_aload_n (i := 0) (pc := 21) dX3_addBooth_21 rfl rfl ?_
  refine ar_getf (pc := 22) dX3_addBooth_22 fX3_60 rfl rfl ?_
  refine ar_iload_n (i := 1) (pc := 25) dX3_addBooth_25 rfl rfl ?_
  refine ar_iast (pc := 26) dX3_addBooth_26 rfl h8 hn ?_
  refine ar_aload_n (i := 0) (pc := 27) dX3_addBooth_27 rfl rfl ?_
  refine ar_getf (pc := 28) dX3_addBooth_28 fX3_29 rfl rfl ?_
  refine ar_aload_n (i := 0) (pc := 31) dX3_addBooth_31 rfl rfl ?_
  refine ar_getf (pc := 32) dX3_addBooth_32 fX3_60 rfl rfl ?_
  refine ar_iload_n (i := 2) (pc := 35) dX3_addBooth_35 rfl rfl ?_
  refine ar_iast (pc := 36) dX3_addBooth_36 rfl h8 hn ?_
  refine ar_aload_n (i := 0) (pc := 37) dX3_addBooth_37 rfl rfl ?_
  refine ar_getf (pc := 38) dX3_addBooth_38 fX3_32 rfl rfl ?_
  refine ar_aload_n (i := 0) (pc := 41) dX3_addBooth_41 rfl rfl ?_
  refine ar_getf (pc := 42) dX3_addBooth_42 fX3_60 rfl rfl ?_
  refine ar_iconst (pc := 45) dX3_addBooth_45 q_iconst_0 ?_
  refine ar_iast (pc := 46) dX3_addBooth_46 rfl h8 hn ?_
  refine ar_aload_n (i := 0) (pc := 47) dX3_addBooth_47 rfl rfl ?_
  refine ar_getf (pc := 48) dX3_addBooth_48 fX3_35 rfl rfl ?_
  refine ar_aload_n (i := 0) (pc := 51) dX3_addBooth_51 rfl rfl ?_
  refine ar_getf (pc := 52) dX3_addBooth_52 fX3_60 rfl rfl ?_
  refine ar_iconst (pc := 55) dX3_addBooth_55 q_iconst_0 ?_
  refine ar_iast (pc := 56) dX3_addBooth_56 rfl h8 hn ?_
  refine ar_aload_n (i := 0) (pc := 57) dX3_addBooth_57 rfl rfl ?_
  refine ar_getf (pc := 58) dX3_addBooth_58 fX3_38 rfl rfl ?_
  refine ar_aload_n (i := 0) (pc := 61) dX3_addBooth_61 rfl rfl ?_
  refine ar_getf (pc := 62) dX3_addBooth_62 fX3_60 rfl rfl ?_
  refine ar_iconst (pc := 65) dX3_addBooth_65 q_iconst_0 ?_
  refine ar_iast (pc := 66) dX3_addBooth_66 rfl h8 hn ?_
  refine ar_aload_n (i := 0) (pc := 67) dX3_addBooth_67 rfl rfl ?_
  refine ar_dup (pc := 68) dX3_addBooth_68 rfl ?_
  refine ar_getf (pc := 69) dX3_addBooth_69 fX3_60 rfl rfl ?_
  refine ar_iconst (pc := 72) dX3_addBooth_72 q_iconst_1 ?_
  refine ar_iadd (pc := 73) dX3_addBooth_73 ?_
  refine ar_putf (pc := 74) dX3_addBooth_74 fX3_60 rfl (Nat.le_of_ble_eq_true rfl) (fun _ => ⟨rfl, rfl⟩) ?_
  exact ar_vret (pc := 77) dX3_addBooth_77 rfl rfl rfl ⟨rfl, by rw [adB, ← nI_1, ← hn]; rfl⟩

def clF (f : Nat → Int32) (j i : Nat) : Nat → Int32 := fun k => if j ≤ k ∧ k < i then f (k + 1) else f k
theorem clF_0 (f : Nat → Int32) (j : Nat) : clF f j j = f := by
  funext k
  unfold clF
  rw [if_neg (by omega)]
theorem clF_s (f : Nat → Int32) {j i : Nat} (h : j ≤ i) : upd (clF f j i) i (clF f j i (i + 1)) = clF f j (i + 1) := by
  funext k
  unfold upd clF
  rw [if_neg (show ¬ (j ≤ i + 1 ∧ i + 1 < i) by omega)]
  by_cases e : k = i
  · subst e
    rw [if_pos rfl, if_pos (by omega)]
  · rw [if_neg e]
    by_cases e2 : j ≤ k ∧ k < i
    · rw [if_pos e2, if_pos (by omega)]
    · rw [if_neg e2, if_neg (by omega)]
def ar1 (f : Nat → Int32) : am_H := [none, none, some (am_ia 8 f)]
def clU (f : Nat → Int32) (j : Nat) : Nat → Int32 := clF f j 7
set_option maxHeartbeats 4000000 in
set_option maxRecDepth 100000 in
theorem lX3_closeUp (f : Nat → Int32) (j : Nat) : ∀ (d k : Nat), k + d = 7 → j ≤ k → am_RW mX3_closeUp (ar1 f) (am_vp (ar1 (clU f j))) 0 0 6 [some (.ref 2), some (.int (nI j)), some (.int (nI k))] [] (ar1 (clF f j k)) := by
  intro d
  induction d with
  | zero =>
    intro k hk hj
    have e : k = 7 := by omega
    subst e
    refine ar_iload_n (i := 2) (pc := 6) dX3_closeUp_6 rfl rfl ?_
    refine ar_aload_n (i := 0) (pc := 7) dX3_closeUp_7 rfl rfl ?_
    refine ar_alen (pc := 8) dX3_closeUp_8 rfl ?_
    refine ar_iconst (pc := 9) dX3_closeUp_9 q_iconst_1 ?_
    refine ar_isub (pc := 10) dX3_closeUp_10 ?_
    rw [show nI 8 - (1 : Int32) = 7 by decide +kernel]
    refine ar_icmp_ge (pc := 11) (tgt := 28) dX3_closeUp_11 (by decide) (fun c11 => ?_) (fun c11 => False.elim (by (simp (disch := omega) only [Int32.lt_iff_toInt_lt, Int32.le_iff_toInt_le, ← Int32.toInt_inj, ti_m6, ti_m1, ti_0, ti_1, ti_2, ti_3, ti_4, ti_5, ti_6, ti_7, ti_8, ti_9, ti_12, ti_100, ti_9999, ti_60, nI_toInt] at c11) <;> omega))
    exact ar_vret (pc := 28) dX3_closeUp_28 rfl rfl rfl ⟨rfl, rfl⟩
  | succ d ih =>
    intro k hk hj
    refine ar_iload_n (i := 2) (pc := 6) dX3_closeUp_6 rfl rfl ?_
    refine ar_aload_n (i := 0) (pc := 7) dX3_closeUp_7 rfl rfl ?_
    refine ar_alen (pc := 8) dX3_closeUp_8 rfl ?_
    refine ar_iconst (pc := 9) dX3_closeUp_9 q_iconst_1 ?_
    refine ar_isub (pc := 10) dX3_closeUp_10 ?_
    rw [show nI 8 - (1 : Int32) = 7 by decide +kernel]
    refine ar_icmp_ge (pc := 11) (tgt := 28) dX3_closeUp_11 (by decide) (fun c11 => False.elim (by (simp (disch := omega) only [Int32.lt_iff_toInt_lt, Int32.le_iff_toInt_le, ← Int32.toInt_inj, ti_m6, ti_m1, ti_0, ti_1, ti_2, ti_3, ti_4, ti_5, ti_6, ti_7, ti_8, ti_9, ti_12, ti_100, ti_9999, ti_60, nI_toInt] at c11) <;> omega)) (fun c11 => ?_)
    refine ar_aload_n (i := 0) (pc := 14) dX3_closeUp_14 rfl rfl ?_
    refine ar_iload_n (i := 2) (pc := 15) dX3_closeUp_15 rfl rfl ?_
    refine ar_aload_n (i := 0) (pc := 16) dX3_closeUp_16 rfl rfl ?_
    refine ar_iload_n (i := 2) (pc := 17) dX3_closeUp_17 rfl rfl ?_
    refine ar_iconst (pc := 18) dX3_closeUp_18 q_iconst_1 ?_
    refine ar_iadd (pc := 19) dX3_closeUp_19 ?_
    refine ar_iald (pc := 20) dX3_closeUp_20 rfl (show k + 1 < 8 by omega) (nI_1 k) ?_
    refine ar_iast (pc := 21) dX3_closeUp_21 rfl (by omega) rfl ?_
    refine ar_iinc (pc := 22) dX3_closeUp_22 rfl (ni_inc _) (Nat.le_of_ble_eq_true rfl) rfl ?_
    refine ar_goto (tgt := 6) (pc := 25) dX3_closeUp_25 (by decide) ?_
    have ih' := ih (k + 1) (by omega) (by omega)
    rw [← clF_s f hj] at ih'
    exact ih'

theorem lX3_closeUp' (f : Nat → Int32) {j : Nat} (hj : j < 8) : am_RW mX3_closeUp (ar1 f) (am_vp (ar1 (clU f j))) 0 0 6 [some (.ref 2), some (.int (nI j)), some (.int (nI j))] [] (ar1 f) := by
  by_cases e : j = 7
  · subst e
    refine ar_iload_n (i := 2) (pc := 6) dX3_closeUp_6 rfl rfl ?_
    refine ar_aload_n (i := 0) (pc := 7) dX3_closeUp_7 rfl rfl ?_
    refine ar_alen (pc := 8) dX3_closeUp_8 rfl ?_
    refine ar_iconst (pc := 9) dX3_closeUp_9 q_iconst_1 ?_
    refine ar_isub (pc := 10) dX3_closeUp_10 ?_
    rw [show nI 8 - (1 : Int32) = 7 by decide +kernel]
    refine ar_icmp_ge (pc := 11) (tgt := 28) dX3_closeUp_11 (by decide) (fun c11 => ?_) (fun c11 => False.elim (by (simp (disch := omega) only [Int32.lt_iff_toInt_lt, Int32.le_iff_toInt_le, ← Int32.toInt_inj, ti_m6, ti_m1, ti_0, ti_1, ti_2, ti_3, ti_4, ti_5, ti_6, ti_7, ti_8, ti_9, ti_12, ti_100, ti_9999, ti_60, nI_toInt] at c11) <;> omega))
    exact ar_vret (pc := 28) dX3_closeUp_28 rfl rfl rfl ⟨rfl, by rw [clU, clF_0]⟩
  · have := lX3_closeUp f j (7 - j) j (by omega) (Nat.le_refl _)
    rw [clF_0] at this
    exact this
set_option maxHeartbeats 4000000 in
set_option maxRecDepth 100000 in
theorem sX3_closeUp (f : Nat → Int32) {j : Nat} (hj : j < 8) : am_Sp mX3_closeUp [.ref 2, .int (nI j)] (ar1 f) (am_vp (ar1 (clU f j))) := by
  refine am_intro (by decide) (Nat.le_of_ble_eq_true rfl) ?_
  refine ar_iload_n (i := 1) (pc := 0) dX3_closeUp_0 rfl rfl ?_
  refine ar_iconst (pc := 1) dX3_closeUp_1 q_iconst_0 ?_
  refine ar_max (pc := 2) dX3_closeUp_2 kX3_85 rfl rfl rfl rfl ?_
  rw [if_neg (nI_pos (show j < 2 ^ 31 by omega))]
  refine ar_istore_n (i := 2) (pc := 5) dX3_closeUp_5 rfl (Nat.le_of_ble_eq_true rfl) rfl ?_
  exact lX3_closeUp' f hj

theorem mixF_c (c : Int32) (g : Nat → Int32) (k : Nat) : upd (mixF (fun _ => c) g k) k c = mixF (fun _ => c) g (k + 1) := mixF_s (fun _ => c) g k
set_option maxHeartbeats 4000000 in
set_option maxRecDepth 100000 in
theorem lX3_forgetLots (v : SV) : ∀ (d k : Nat), k + d = 8 → am_RW mX3_forgetLots (stH v) (am_vp (stH (uL v (fun _ => -6)))) 0 0 2 [some (.ref 2), some (.int (nI k))] [] (stH (uL v (mixF (fun _ => -6) (vL v) k))) := by
  intro d
  induction d with
  | zero =>
    intro k hk
    have e : k = 8 := by omega
    subst e
    refine ar_iload_n (i := 1) (pc := 2) dX3_forgetLots_2 rfl rfl ?_
    refine ar_aload_n (i := 0) (pc := 3) dX3_forgetLots_3 rfl rfl ?_
    refine ar_getf (pc := 4) dX3_forgetLots_4 fX3_41 rfl rfl ?_
    refine ar_alen (pc := 7) dX3_forgetLots_7 rfl ?_
    refine ar_icmp_ge (pc := 8) (tgt := 25) dX3_forgetLots_8 (by decide) (fun c8 => ?_) (fun c8 => False.elim (by (simp (disch := omega) only [Int32.lt_iff_toInt_lt, Int32.le_iff_toInt_le, ← Int32.toInt_inj, ti_m6, ti_m1, ti_0, ti_1, ti_2, ti_3, ti_4, ti_5, ti_6, ti_7, ti_8, ti_9, ti_12, ti_100, ti_9999, ti_60, nI_toInt] at c8) <;> omega))
    refine ar_cong (a := 9) (fun _ => -6) rfl (fun j hj => by rw [vu_L]; simp only [mixF, hj, if_true]) ?_
    exact ar_vret (pc := 25) dX3_forgetLots_25 rfl rfl rfl ⟨rfl, by rw [st_L, uu_L]⟩
  | succ d ih =>
    intro k hk
    refine ar_iload_n (i := 1) (pc := 2) dX3_forgetLots_2 rfl rfl ?_
    refine ar_aload_n (i := 0) (pc := 3) dX3_forgetLots_3 rfl rfl ?_
    refine ar_getf (pc := 4) dX3_forgetLots_4 fX3_41 rfl rfl ?_
    refine ar_alen (pc := 7) dX3_forgetLots_7 rfl ?_
    refine ar_icmp_ge (pc := 8) (tgt := 25) dX3_forgetLots_8 (by decide) (fun c8 => False.elim (by (simp (disch := omega) only [Int32.lt_iff_toInt_lt, Int32.le_iff_toInt_le, ← Int32.toInt_inj, ti_m6, ti_m1, ti_0, ti_1, ti_2, ti_3, ti_4, ti_5, ti_6, ti_7, ti_8, ti_9, ti_12, ti_100, ti_9999, ti_60, nI_toInt] at c8) <;> omega)) (fun c8 => ?_)
    refine ar_aload_n (i := 0) (pc := 11) dX3_forgetLots_11 rfl rfl ?_
    refine ar_getf (pc := 12) dX3_forgetLots_12 fX3_41 rfl rfl ?_
    refine ar_iload_n (i := 1) (pc := 15) dX3_forgetLots_15 rfl rfl ?_
    refine ar_bipush (pc := 16) dX3_forgetLots_16 q_bipush_m6 ?_
    refine ar_iast (pc := 18) dX3_forgetLots_18 rfl (by omega) rfl ?_
    refine ar_iinc (pc := 19) dX3_forgetLots_19 rfl (ni_inc _) (Nat.le_of_ble_eq_true rfl) rfl ?_
    refine ar_goto (tgt := 2) (pc := 22) dX3_forgetLots_22 (by decide) ?_
    have ih' := ih (k + 1) (by omega)
    rw [st_L, uu_L, vu_L, mixF_c]
    exact ih'

set_option maxHeartbeats 4000000 in
set_option maxRecDepth 100000 in
theorem sX3_forgetLots (v : SV) : am_Sp mX3_forgetLots [.ref 2] (stH v) (am_vp (stH (uL v (fun _ => -6)))) := by
  refine am_intro (by decide) (Nat.le_of_ble_eq_true rfl) ?_
  refine ar_iconst (pc := 0) dX3_forgetLots_0 q_iconst_0 ?_
  refine ar_istore_n (i := 1) (pc := 1) dX3_forgetLots_1 rfl (Nat.le_of_ble_eq_true rfl) rfl ?_
  have h := lX3_forgetLots v 8 0 (by omega)
  rw [mixF_0] at h
  exact h

set_option maxHeartbeats 4000000 in
set_option maxRecDepth 100000 in
theorem sX3_forgetBooths (v : SV) : am_Sp mX3_forgetBooths [.ref 2] (stH v) (am_vp (stH (uL (uBo v 0) (fun _ => -6)))) := by
  refine am_intro (by decide) (Nat.le_of_ble_eq_true rfl) ?_
  refine ar_aload_n (i := 0) (pc := 0) dX3_forgetBooths_0 rfl rfl ?_
  refine ar_iconst (pc := 1) dX3_forgetBooths_1 q_iconst_0 ?_
  refine ar_putf (pc := 2) dX3_forgetBooths_2 fX3_60 rfl (Nat.le_of_ble_eq_true rfl) (fun _ => ⟨rfl, rfl⟩) ?_
  refine ar_aload_n (i := 0) (pc := 5) dX3_forgetBooths_5 rfl rfl ?_
  refine ar_idV (pc := 6) dX3_forgetBooths_6 cal_X3_forgetLots kX3_48 rfl (sX3_forgetLots (uBo v 0)) rfl rfl rfl rfl rfl rfl rfl (fun r h1 hp => ?_)
  obtain ⟨rfl, rfl⟩ := hp
  refine ⟨rfl, ?_⟩
  exact ar_vret (pc := 9) dX3_forgetBooths_9 rfl rfl rfl ⟨rfl, rfl⟩

def lcg (x : Int64) : Int64 := x * 1103515245 + 12345 - (x * 1103515245 + 12345) / 2147483648 * 2147483648
def drw (x : Int64) (m : Nat) : Int32 := (lcg x / 65536 - lcg x / 65536 / (nI m).toInt64 * (nI m).toInt64).toInt32
theorem nI64_ne {m : Nat} (h0 : 0 < m) (h : m < 2147483648) : ¬ (nI m).toInt64 = 0 := by
  rw [nI_l (by omega)]
  intro z
  have := congrArg Int64.toInt z
  rw [lN_toInt (by omega)] at this
  have e : (0 : Int64).toInt = 0 := by decide +kernel
  omega
set_option maxHeartbeats 4000000 in
set_option maxRecDepth 100000 in
theorem sX3_draw (v : SV) {m : Nat} (h0 : 0 < m) (hm : m < 2147483648) : am_Sp mX3_draw [.ref 2, .int (nI m)] (stH v) (am_rp (drw (vX v) m) (stH (uX v (lcg (vX v))))) := by
  refine am_intro (by decide) (Nat.le_of_ble_eq_true rfl) ?_
  refine ar_aload_n (i := 0) (pc := 0) dX3_draw_0 rfl rfl ?_
  refine ar_aload_n (i := 0) (pc := 1) dX3_draw_1 rfl rfl ?_
  refine ar_getf (pc := 2) dX3_draw_2 fX3_18 rfl rfl ?_
  refine ar_ldc2 (pc := 5) dX3_draw_5 cX3_91 ?_
  refine ar_lmul (pc := 8) dX3_draw_8 ?_
  refine ar_ldc2 (pc := 9) dX3_draw_9 cX3_93 ?_
  refine ar_ladd (pc := 12) dX3_draw_12 ?_
  refine ar_ldc2 (pc := 13) dX3_draw_13 cX3_95 ?_
  refine ar_lrem (pc := 16) dX3_draw_16 (by decide +kernel) ?_
  refine ar_topl (fun y16 e16 => ?_)
  refine ar_putf (pc := 17) dX3_draw_17 fX3_18 rfl (Nat.le_of_ble_eq_true rfl) (fun _ => ⟨rfl, rfl⟩) ?_
  refine ar_iload_n (i := 1) (pc := 20) dX3_draw_20 rfl rfl ?_
  refine ar_iconst (pc := 21) dX3_draw_21 q_iconst_1 ?_
  refine ar_icmp_ge (pc := 22) (tgt := 29) dX3_draw_22 (by decide) (fun c22 => ?_) (fun c22 => False.elim (by (simp (disch := omega) only [Int32.lt_iff_toInt_lt, Int32.le_iff_toInt_le, ← Int32.toInt_inj, ti_m6, ti_m1, ti_0, ti_1, ti_2, ti_3, ti_4, ti_5, ti_6, ti_7, ti_8, ti_9, ti_12, ti_100, ti_9999, ti_60, nI_toInt] at c22) <;> omega))
  refine ar_aload_n (i := 0) (pc := 29) dX3_draw_29 rfl rfl ?_
  refine ar_getf (pc := 30) dX3_draw_30 fX3_18 rfl rfl ?_
  refine ar_ldc2 (pc := 33) dX3_draw_33 cX3_97 ?_
  refine ar_ldiv (pc := 36) dX3_draw_36 (by decide +kernel) ?_
  refine ar_iload_n (i := 1) (pc := 37) dX3_draw_37 rfl rfl ?_
  refine ar_i2l (pc := 38) dX3_draw_38 ?_
  refine ar_lrem (pc := 39) dX3_draw_39 (nI64_ne h0 hm) ?_
  refine ar_l2i (pc := 40) dX3_draw_40 ?_
  refine ar_topi (fun y40 e40 => ?_)
  exact ar_iret (pc := 41) dX3_draw_41 rfl rfl rfl ⟨by rw [e40, e16]; rfl, by rw [show lcg (vX v) = y16 from e16.symm]; rfl⟩

def ar2 (w : Bool) (N : Nat) (f g : Nat → Int32) : am_H := [none, none, some (.inr (.inl (.int, w, N, f))), some (am_ia N g)]
set_option maxHeartbeats 4000000 in
set_option maxRecDepth 100000 in
theorem lX6_copyRow (w : Bool) (N : Nat) (hN : N < 2147483648) (f g : Nat → Int32) : ∀ (d k : Nat), k + d = N → am_RW mX6_copyRow (ar2 w N f g) (am_vp (ar2 w N f f)) 0 0 2 [some (.ref 2), some (.ref 3), some (.int (nI k))] [] (ar2 w N f (mixF f g k)) := by
  intro d
  induction d with
  | zero =>
    intro k hk
    have e : k = N := by omega
    subst e
    refine ar_iload_n (i := 2) (pc := 2) dX6_copyRow_2 rfl rfl ?_
    refine ar_aload_n (i := 0) (pc := 3) dX6_copyRow_3 rfl rfl ?_
    refine ar_alen (pc := 4) dX6_copyRow_4 rfl ?_
    refine ar_icmp_ge (pc := 5) (tgt := 26) dX6_copyRow_5 (by decide) (fun c5 => ?_) (fun c5 => False.elim (by (simp (disch := omega) only [Int32.lt_iff_toInt_lt, Int32.le_iff_toInt_le, ← Int32.toInt_inj, ti_m6, ti_m1, ti_0, ti_1, ti_2, ti_3, ti_4, ti_5, ti_6, ti_7, ti_8, ti_9, ti_12, ti_100, ti_9999, ti_60, nI_toInt] at c5) <;> omega))
    refine ar_cong (a := 3) f rfl (fun j hj => by simp [mixF, hj]) ?_
    exact ar_vret (pc := 26) dX6_copyRow_26 rfl rfl rfl ⟨rfl, rfl⟩
  | succ d ih =>
    intro k hk
    refine ar_iload_n (i := 2) (pc := 2) dX6_copyRow_2 rfl rfl ?_
    refine ar_aload_n (i := 0) (pc := 3) dX6_copyRow_3 rfl rfl ?_
    refine ar_alen (pc := 4) dX6_copyRow_4 rfl ?_
    refine ar_icmp_ge (pc := 5) (tgt := 26) dX6_copyRow_5 (by decide) (fun c5 => False.elim (by (simp (disch := omega) only [Int32.lt_iff_toInt_lt, Int32.le_iff_toInt_le, ← Int32.toInt_inj, ti_m6, ti_m1, ti_0, ti_1, ti_2, ti_3, ti_4, ti_5, ti_6, ti_7, ti_8, ti_9, ti_12, ti_100, ti_9999, ti_60, nI_toInt] at c5) <;> omega)) (fun c5 => ?_)
    refine ar_iload_n (i := 2) (pc := 8) dX6_copyRow_8 rfl rfl ?_
    refine ar_aload_n (i := 1) (pc := 9) dX6_copyRow_9 rfl rfl ?_
    refine ar_alen (pc := 10) dX6_copyRow_10 rfl ?_
    refine ar_icmp_ge (pc := 11) (tgt := 26) dX6_copyRow_11 (by decide) (fun c11 => False.elim (by (simp (disch := omega) only [Int32.lt_iff_toInt_lt, Int32.le_iff_toInt_le, ← Int32.toInt_inj, ti_m6, ti_m1, ti_0, ti_1, ti_2, ti_3, ti_4, ti_5, ti_6, ti_7, ti_8, ti_9, ti_12, ti_100, ti_9999, ti_60, nI_toInt] at c11) <;> omega)) (fun c11 => ?_)
    refine ar_aload_n (i := 1) (pc := 14) dX6_copyRow_14 rfl rfl ?_
    refine ar_iload_n (i := 2) (pc := 15) dX6_copyRow_15 rfl rfl ?_
    refine ar_aload_n (i := 0) (pc := 16) dX6_copyRow_16 rfl rfl ?_
    refine ar_iload_n (i := 2) (pc := 17) dX6_copyRow_17 rfl rfl ?_
    refine ar_iald (pc := 18) dX6_copyRow_18 rfl (show k < N by omega) rfl ?_
    refine ar_iast (pc := 19) dX6_copyRow_19 rfl (show k < N by omega) rfl ?_
    refine ar_iinc (pc := 20) dX6_copyRow_20 rfl (ni_inc _) (Nat.le_of_ble_eq_true rfl) rfl ?_
    refine ar_goto (tgt := 2) (pc := 23) dX6_copyRow_23 (by decide) ?_
    have ih' := ih (k + 1) (by omega)
    rw [← mixF_s] at ih'
    exact ih'

set_option maxHeartbeats 4000000 in
set_option maxRecDepth 100000 in
theorem sX6_copyRow (w : Bool) (N : Nat) (hN : N < 2147483648) (f g : Nat → Int32) : am_Sp mX6_copyRow [.ref 2, .ref 3] (ar2 w N f g) (am_vp (ar2 w N f f)) := by
  refine am_intro (by decide) (Nat.le_of_ble_eq_true rfl) ?_
  refine ar_iconst (pc := 0) dX6_copyRow_0 q_iconst_0 ?_
  refine ar_istore_n (i := 2) (pc := 1) dX6_copyRow_1 rfl (Nat.le_of_ble_eq_true rfl) rfl ?_
  have h := lX6_copyRow w N hN f g N 0 (by omega)
  rw [mixF_0] at h
  exact h
end
section
/-! the class State: removeBooth, copyFrom, its constructor -/
theorem mixF_at (f g : Nat → Int32) (k : Nat) : mixF f g k k = g k := by simp [mixF]
theorem mixF_v {f g : Nat → Int32} {k : Nat} {c : Int32} (h : f k = c) : upd (mixF f g k) k c = mixF f g (k + 1) := h ▸ mixF_s f g k
theorem mixF_n {f g : Nat → Int32} {k : Nat} (h : f k = g k) : mixF f g k = mixF f g (k + 1) := by
  rw [← mixF_v h]
  funext j
  unfold upd
  by_cases e : j = k
  · rw [if_pos e, e, mixF_at]
  · rw [if_neg e]
theorem mixF_all {f g : Nat → Int32} {N j : Nat} (h : j < N) : mixF f g N j = f j := by simp [mixF, h]
theorem mrg1 (p : Nat) (f : Nat → Int32) (h : am_H) : am_mrg (am_mu [0, 1, p]) 0 (ar1 f) h = h.set p (some (am_ia 8 f)) := rfl
theorem okm1_4 : am_okmu [0, 1, 4] [none, none, some true] = true := by decide +kernel
theorem okm1_5 : am_okmu [0, 1, 5] [none, none, some true] = true := by decide +kernel
theorem okm1_6 : am_okmu [0, 1, 6] [none, none, some true] = true := by decide +kernel
theorem okm1_7 : am_okmu [0, 1, 7] [none, none, some true] = true := by decide +kernel
theorem okm1_8 : am_okmu [0, 1, 8] [none, none, some true] = true := by decide +kernel
def rmL (f : Nat → Int32) (j : Nat) : Nat → Int32 := fun k => if f k = nI j then -6 else if nI j < f k then f k - 1 else f k
def rmA (v : SV) (n j : Nat) : SV := uBo (uI (uF (uT (uP (uH v (clU (vH v) j)) (clU (vP v) j)) (clU (vT v) j)) (clU (vF v) j)) (clU (vI v) j)) (nI (n - 1))
def rmB (v : SV) (n j : Nat) : SV := uL (rmA v n j) (rmL (vL v) j)
set_option maxHeartbeats 4000000 in
set_option maxRecDepth 100000 in
theorem lX3_removeBooth (h0 : am_H) (w : SV) (j : Nat) : ∀ (d k : Nat), k + d = 8 → am_RW mX3_removeBooth h0 (am_vp (stH (uL w (rmL (vL w) j)))) 0 0 61 [some (.ref 2), some (.int (nI j)), some (.int (nI k))] [] (stH (uL w (mixF (rmL (vL w) j) (vL w) k))) := by
  intro d
  induction d with
  | zero =>
    intro k hk
    have e : k = 8 := by omega
    subst e
    refine ar_iload_n (i := 2) (pc := 61) dX3_removeBooth_61 rfl rfl ?_
    refine ar_aload_n (i := 0) (pc := 62) dX3_removeBooth_62 rfl rfl ?_
    refine ar_getf (pc := 63) dX3_removeBooth_63 fX3_41 rfl rfl ?_
    refine ar_alen (pc := 66) dX3_removeBooth_66 rfl ?_
    refine ar_icmp_ge (pc := 67) (tgt := 117) dX3_removeBooth_67 (by decide) (fun c67 => ?_) (fun c67 => False.elim (by (simp (disch := omega) only [Int32.lt_iff_toInt_lt, Int32.le_iff_toInt_le, ← Int32.toInt_inj, ti_m6, ti_m1, ti_0, ti_1, ti_2, ti_3, ti_4, ti_5, ti_6, ti_7, ti_8, ti_9, ti_12, ti_100, ti_9999, ti_60, nI_toInt] at c67) <;> omega))
    refine ar_cong (a := 9) (rmL (vL w) j) rfl (fun j hj => by rw [vu_L, mixF_all hj]) ?_
    exact ar_vret (pc := 117) dX3_removeBooth_117 rfl rfl rfl ⟨rfl, by rw [st_L, uu_L]⟩
  | succ d ih =>
    intro k hk
    refine ar_iload_n (i := 2) (pc := 61) dX3_removeBooth_61 rfl rfl ?_
    refine ar_aload_n (i := 0) (pc := 62) dX3_removeBooth_62 rfl rfl ?_
    refine ar_getf (pc := 63) dX3_removeBooth_63 fX3_41 rfl rfl ?_
    refine ar_alen (pc := 66) dX3_removeBooth_66 rfl ?_
    refine ar_icmp_ge (pc := 67) (tgt := 117) dX3_removeBooth_67 (by decide) (fun c67 => False.elim (by (simp (disch := omega) only [Int32.lt_iff_toInt_lt, Int32.le_iff_toInt_le, ← Int32.toInt_inj, ti_m6, ti_m1, ti_0, ti_1, ti_2, ti_3, ti_4, ti_5, ti_6, ti_7, ti_8, ti_9, ti_12, ti_100, ti_9999, ti_60, nI_toInt] at c67) <;> omega)) (fun c67 => ?_)
    refine ar_aload_n (i := 0) (pc := 70) dX3_removeBooth_70 rfl rfl ?_
    refine ar_getf (pc := 71) dX3_removeBooth_71 fX3_41 rfl rfl ?_
    refine ar_iload_n (i := 2) (pc := 74) dX3_removeBooth_74 rfl rfl ?_
    refine ar_iald (pc := 75) dX3_removeBooth_75 rfl (show k < 8 by omega) rfl ?_
    rw [vu_L, mixF_at]
    refine ar_iload_n (i := 1) (pc := 76) dX3_removeBooth_76 rfl rfl ?_
    refine ar_icmp_ne (pc := 77) (tgt := 91) dX3_removeBooth_77 (by decide) (fun c77 => ?_) (fun c77 => ?_)
    · refine ar_aload_n (i := 0) (pc := 91) dX3_removeBooth_91 rfl rfl ?_
      refine ar_getf (pc := 92) dX3_removeBooth_92 fX3_41 rfl rfl ?_
      refine ar_iload_n (i := 2) (pc := 95) dX3_removeBooth_95 rfl rfl ?_
      refine ar_iald (pc := 96) dX3_removeBooth_96 rfl (show k < 8 by omega) rfl ?_
      rw [vu_L, mixF_at]
      refine ar_iload_n (i := 1) (pc := 97) dX3_removeBooth_97 rfl rfl ?_
      refine ar_icmp_le (pc := 98) (tgt := 111) dX3_removeBooth_98 (by decide) (fun c98 => ?_) (fun c98 => ?_)
      · refine ar_iinc (pc := 111) dX3_removeBooth_111 rfl (ni_inc _) (Nat.le_of_ble_eq_true rfl) rfl ?_
        refine ar_goto (tgt := 61) (pc := 114) dX3_removeBooth_114 (by decide) ?_
        refine Eq.mp (congrArg _ ?_) (ih (k + 1) (by omega))
        first
          | (rw [st_L, uu_L, vu_L, mixF_v (by rw [rmL, if_pos c77])]; done)
          | (rw [st_L, uu_L, vu_L, mixF_v (by rw [rmL, if_neg c77, if_pos (Int32.not_le.mp c98), e109])]; done)
          | (rw [← mixF_n (f := rmL (vL w) j) (g := vL w) (k := k) (by rw [rmL, if_neg c77, if_neg (Int32.not_lt.mpr c98)])]; done)
      · refine ar_aload_n (i := 0) (pc := 101) dX3_removeBooth_101 rfl rfl ?_
        refine ar_getf (pc := 102) dX3_removeBooth_102 fX3_41 rfl rfl ?_
        refine ar_iload_n (i := 2) (pc := 105) dX3_removeBooth_105 rfl rfl ?_
        refine ar_dup2 (pc := 106) dX3_removeBooth_106 rfl rfl ?_
        refine ar_iald (pc := 107) dX3_removeBooth_107 rfl (show k < 8 by omega) rfl ?_
        rw [vu_L, mixF_at]
        refine ar_iconst (pc := 108) dX3_removeBooth_108 q_iconst_1 ?_
        refine ar_isub (pc := 109) dX3_removeBooth_109 ?_
        refine ar_topi (fun y109 e109 => ?_)
        refine ar_iast (pc := 110) dX3_removeBooth_110 rfl (show k < 8 by omega) rfl ?_
        refine ar_iinc (pc := 111) dX3_removeBooth_111 rfl (ni_inc _) (Nat.le_of_ble_eq_true rfl) rfl ?_
        refine ar_goto (tgt := 61) (pc := 114) dX3_removeBooth_114 (by decide) ?_
        refine Eq.mp (congrArg _ ?_) (ih (k + 1) (by omega))
        first
          | (rw [st_L, uu_L, vu_L, mixF_v (by rw [rmL, if_pos c77])]; done)
          | (rw [st_L, uu_L, vu_L, mixF_v (by rw [rmL, if_neg c77, if_pos (Int32.not_le.mp c98), e109])]; done)
          | (rw [← mixF_n (f := rmL (vL w) j) (g := vL w) (k := k) (by rw [rmL, if_neg c77, if_neg (Int32.not_lt.mpr c98)])]; done)
    · refine ar_aload_n (i := 0) (pc := 80) dX3_removeBooth_80 rfl rfl ?_
      refine ar_getf (pc := 81) dX3_removeBooth_81 fX3_41 rfl rfl ?_
      refine ar_iload_n (i := 2) (pc := 84) dX3_removeBooth_84 rfl rfl ?_
      refine ar_bipush (pc := 85) dX3_removeBooth_85 q_bipush_m6 ?_
      refine ar_iast (pc := 87) dX3_removeBooth_87 rfl (show k < 8 by omega) rfl ?_
      refine ar_goto (tgt := 111) (pc := 88) dX3_removeBooth_88 (by decide) ?_
      refine ar_iinc (pc := 111) dX3_removeBooth_111 rfl (ni_inc _) (Nat.le_of_ble_eq_true rfl) rfl ?_
      refine ar_goto (tgt := 61) (pc := 114) dX3_removeBooth_114 (by decide) ?_
      refine Eq.mp (congrArg _ ?_) (ih (k + 1) (by omega))
      first
        | (rw [st_L, uu_L, vu_L, mixF_v (by rw [rmL, if_pos c77])]; done)
        | (rw [st_L, uu_L, vu_L, mixF_v (by rw [rmL, if_neg c77, if_pos (Int32.not_le.mp c98), e109])]; done)
        | (rw [← mixF_n (f := rmL (vL w) j) (g := vL w) (k := k) (by rw [rmL, if_neg c77, if_neg (Int32.not_lt.mpr c98)])]; done)

set_option maxHeartbeats 4000000 in
set_option maxRecDepth 100000 in
theorem sX3_removeBooth (v : SV) (n : Nat) (hn : vBo v = nI n) (h8 : n ≤ 8) {j : Nat} (hj : j < n) : am_Sp mX3_removeBooth [.ref 2, .int (nI j)] (stH v) (am_vp (stH (rmB v n j))) := by
  refine am_intro (by decide) (Nat.le_of_ble_eq_true rfl) ?_
  refine ar_aload_n (i := 0) (pc := 0) dX3_removeBooth_0 rfl rfl ?_
  refine ar_iload_n (i := 1) (pc := 1) dX3_removeBooth_1 rfl rfl ?_
  refine ar_idV (pc := 2) dX3_removeBooth_2 cal_X3_isBooth kX3_67 rfl (sX3_isBooth v n hn h8 _) rfl rfl rfl rfl rfl rfl rfl (fun r h1 hp => ?_)
  obtain ⟨⟨h2, rfl⟩ | ⟨h2, rfl⟩, rfl⟩ := hp
  · refine ⟨rfl, ?_⟩
    refine ar_if_ne (pc := 5) (tgt := 9) dX3_removeBooth_5 (by decide) (fun c5 => ?_) (fun c5 => absurd c5 (by decide))
    refine ar_aload_n (i := 0) (pc := 9) dX3_removeBooth_9 rfl rfl ?_
    refine ar_getf (pc := 10) dX3_removeBooth_10 fX3_26 rfl rfl ?_
    refine ar_iload_n (i := 1) (pc := 13) dX3_removeBooth_13 rfl rfl ?_
    refine ar_mc (pc := 14) (l := [0, 1, 4]) (ar_rS dX3_removeBooth_14 cal_X3_closeUp kX3_81 rfl (sX3_closeUp _ (show j < 8 by omega)) rfl rfl rfl okm1_4 rfl rfl) okm1_4 rfl rfl rfl rfl (fun r h1 hp => ?_)
    obtain ⟨rfl, rfl⟩ := hp
    refine ⟨rfl, ?_⟩
    rw [mrg1, st_H]
    refine ar_aload_n (i := 0) (pc := 17) dX3_removeBooth_17 rfl rfl ?_
    refine ar_getf (pc := 18) dX3_removeBooth_18 fX3_29 rfl rfl ?_
    refine ar_iload_n (i := 1) (pc := 21) dX3_removeBooth_21 rfl rfl ?_
    refine ar_mc (pc := 22) (l := [0, 1, 5]) (ar_rS dX3_removeBooth_22 cal_X3_closeUp kX3_81 rfl (sX3_closeUp _ (show j < 8 by omega)) rfl rfl rfl okm1_5 rfl rfl) okm1_5 rfl rfl rfl rfl (fun r h1 hp => ?_)
    obtain ⟨rfl, rfl⟩ := hp
    refine ⟨rfl, ?_⟩
    rw [mrg1, st_P]
    refine ar_aload_n (i := 0) (pc := 25) dX3_removeBooth_25 rfl rfl ?_
    refine ar_getf (pc := 26) dX3_removeBooth_26 fX3_32 rfl rfl ?_
    refine ar_iload_n (i := 1) (pc := 29) dX3_removeBooth_29 rfl rfl ?_
    refine ar_mc (pc := 30) (l := [0, 1, 6]) (ar_rS dX3_removeBooth_30 cal_X3_closeUp kX3_81 rfl (sX3_closeUp _ (show j < 8 by omega)) rfl rfl rfl okm1_6 rfl rfl) okm1_6 rfl rfl rfl rfl (fun r h1 hp => ?_)
    obtain ⟨rfl, rfl⟩ := hp
    refine ⟨rfl, ?_⟩
    rw [mrg1, st_T]
    refine ar_aload_n (i := 0) (pc := 33) dX3_removeBooth_33 rfl rfl ?_
    refine ar_getf (pc := 34) dX3_removeBooth_34 fX3_35 rfl rfl ?_
    refine ar_iload_n (i := 1) (pc := 37) dX3_removeBooth_37 rfl rfl ?_
    refine ar_mc (pc := 38) (l := [0, 1, 7]) (ar_rS dX3_removeBooth_38 cal_X3_closeUp kX3_81 rfl (sX3_closeUp _ (show j < 8 by omega)) rfl rfl rfl okm1_7 rfl rfl) okm1_7 rfl rfl rfl rfl (fun r h1 hp => ?_)
    obtain ⟨rfl, rfl⟩ := hp
    refine ⟨rfl, ?_⟩
    rw [mrg1, st_F]
    refine ar_aload_n (i := 0) (pc := 41) dX3_removeBooth_41 rfl rfl ?_
    refine ar_getf (pc := 42) dX3_removeBooth_42 fX3_38 rfl rfl ?_
    refine ar_iload_n (i := 1) (pc := 45) dX3_removeBooth_45 rfl rfl ?_
    refine ar_mc (pc := 46) (l := [0, 1, 8]) (ar_rS dX3_removeBooth_46 cal_X3_closeUp kX3_81 rfl (sX3_closeUp _ (show j < 8 by omega)) rfl rfl rfl okm1_8 rfl rfl) okm1_8 rfl rfl rfl rfl (fun r h1 hp => ?_)
    obtain ⟨rfl, rfl⟩ := hp
    refine ⟨rfl, ?_⟩
    rw [mrg1, st_I]
    refine ar_aload_n (i := 0) (pc := 49) dX3_removeBooth_49 rfl rfl ?_
    refine ar_dup (pc := 50) dX3_removeBooth_50 rfl ?_
    refine ar_getf (pc := 51) dX3_removeBooth_51 fX3_60 rfl rfl ?_
    refine ar_iconst (pc := 54) dX3_removeBooth_54 q_iconst_1 ?_
    refine ar_isub (pc := 55) dX3_removeBooth_55 ?_
    refine ar_topi (fun y55 e55 => ?_)
    refine ar_putf (pc := 56) dX3_removeBooth_56 fX3_60 rfl (Nat.le_of_ble_eq_true rfl) (fun _ => ⟨rfl, rfl⟩) ?_
    rw [st_Bo]
    have e1 : y55 = nI (n - 1) := by
      rw [e55]
      show vBo v - 1 = _
      rw [hn, show n = n - 1 + 1 by omega]
      exact nI_pred _
    subst e1
    refine ar_iconst (pc := 59) dX3_removeBooth_59 q_iconst_0 ?_
    refine ar_istore_n (i := 2) (pc := 60) dX3_removeBooth_60 rfl (Nat.le_of_ble_eq_true rfl) rfl ?_
    have h := lX3_removeBooth (stH v) (rmA v n j) j 8 0 (by omega)
    rw [mixF_0] at h
    exact h
  · refine ⟨rfl, ?_⟩
    refine ar_if_ne (pc := 5) (tgt := 9) dX3_removeBooth_5 (by decide) (fun c5 => absurd c5 (by decide)) (fun c5 => ?_)
    exact ar_vret (pc := 8) dX3_removeBooth_8 rfl rfl rfl (h2 (by (simp (disch := omega) only [Int32.lt_iff_toInt_lt, Int32.le_iff_toInt_le, ← Int32.toInt_inj, ti_m6, ti_m1, ti_0, ti_1, ti_2, ti_3, ti_4, ti_5, ti_6, ti_7, ti_8, ti_9, ti_12, ti_100, ti_9999, ti_60, nI_toInt] at ⊢); omega)).elim

def st2 (v w : SV) : am_H := none :: none :: (stB 2 v ++ stB 10 w)
theorem mrg2 (a b N : Nat) (f g : Nat → Int32) (h : am_H) : am_mrg (am_mu [0, 1, a, b]) 0 (ar2 true N f g) h = (h.set a (some (am_ia N f))).set b (some (am_ia N g)) := rfl
theorem st2_S (v w : SV) (f : Nat → Int32) : ((st2 v w).set 11 (some (am_ia 6 (vS w)))).set 3 (some (am_ia 6 f)) = st2 (uS v f) w := by simp only [st2, List.cons_append, List.nil_append, stH, stB, stO, am_oj, List.set_cons_succ, List.set_cons_zero, uS, uX, uRo, uDa, uRa, uTa, uBo, uH, uP, uT, uF, uI, uL, vS, vX, vRo, vDa, vRa, vTa, vBo, vH, vP, vT, vF, vI, vL]
theorem okm2_0 : am_okmu [0, 1, 11, 3] [none, none, some true, some true] = true := by decide +kernel
theorem st2_H (v w : SV) (f : Nat → Int32) : ((st2 v w).set 12 (some (am_ia 8 (vH w)))).set 4 (some (am_ia 8 f)) = st2 (uH v f) w := by simp only [st2, List.cons_append, List.nil_append, stH, stB, stO, am_oj, List.set_cons_succ, List.set_cons_zero, uS, uX, uRo, uDa, uRa, uTa, uBo, uH, uP, uT, uF, uI, uL, vS, vX, vRo, vDa, vRa, vTa, vBo, vH, vP, vT, vF, vI, vL]
theorem okm2_1 : am_okmu [0, 1, 12, 4] [none, none, some true, some true] = true := by decide +kernel
theorem st2_P (v w : SV) (f : Nat → Int32) : ((st2 v w).set 13 (some (am_ia 8 (vP w)))).set 5 (some (am_ia 8 f)) = st2 (uP v f) w := by simp only [st2, List.cons_append, List.nil_append, stH, stB, stO, am_oj, List.set_cons_succ, List.set_cons_zero, uS, uX, uRo, uDa, uRa, uTa, uBo, uH, uP, uT, uF, uI, uL, vS, vX, vRo, vDa, vRa, vTa, vBo, vH, vP, vT, vF, vI, vL]
theorem okm2_2 : am_okmu [0, 1, 13, 5] [none, none, some true, some true] = true := by decide +kernel
theorem st2_T (v w : SV) (f : Nat → Int32) : ((st2 v w).set 14 (some (am_ia 8 (vT w)))).set 6 (some (am_ia 8 f)) = st2 (uT v f) w := by simp only [st2, List.cons_append, List.nil_append, stH, stB, stO, am_oj, List.set_cons_succ, List.set_cons_zero, uS, uX, uRo, uDa, uRa, uTa, uBo, uH, uP, uT, uF, uI, uL, vS, vX, vRo, vDa, vRa, vTa, vBo, vH, vP, vT, vF, vI, vL]
theorem okm2_3 : am_okmu [0, 1, 14, 6] [none, none, some true, some true] = true := by decide +kernel
theorem st2_F (v w : SV) (f : Nat → Int32) : ((st2 v w).set 15 (some (am_ia 8 (vF w)))).set 7 (some (am_ia 8 f)) = st2 (uF v f) w := by simp only [st2, List.cons_append, List.nil_append, stH, stB, stO, am_oj, List.set_cons_succ, List.set_cons_zero, uS, uX, uRo, uDa, uRa, uTa, uBo, uH, uP, uT, uF, uI, uL, vS, vX, vRo, vDa, vRa, vTa, vBo, vH, vP, vT, vF, vI, vL]
theorem okm2_4 : am_okmu [0, 1, 15, 7] [none, none, some true, some true] = true := by decide +kernel
theorem st2_I (v w : SV) (f : Nat → Int32) : ((st2 v w).set 16 (some (am_ia 8 (vI w)))).set 8 (some (am_ia 8 f)) = st2 (uI v f) w := by simp only [st2, List.cons_append, List.nil_append, stH, stB, stO, am_oj, List.set_cons_succ, List.set_cons_zero, uS, uX, uRo, uDa, uRa, uTa, uBo, uH, uP, uT, uF, uI, uL, vS, vX, vRo, vDa, vRa, vTa, vBo, vH, vP, vT, vF, vI, vL]
theorem okm2_5 : am_okmu [0, 1, 16, 8] [none, none, some true, some true] = true := by decide +kernel
theorem st2_L (v w : SV) (f : Nat → Int32) : ((st2 v w).set 17 (some (am_ia 8 (vL w)))).set 9 (some (am_ia 8 f)) = st2 (uL v f) w := by simp only [st2, List.cons_append, List.nil_append, stH, stB, stO, am_oj, List.set_cons_succ, List.set_cons_zero, uS, uX, uRo, uDa, uRa, uTa, uBo, uH, uP, uT, uF, uI, uL, vS, vX, vRo, vDa, vRa, vTa, vBo, vH, vP, vT, vF, vI, vL]
theorem okm2_6 : am_okmu [0, 1, 17, 9] [none, none, some true, some true] = true := by decide +kernel
theorem st2_X (v w : SV) (a : Int64) : (st2 v w).set 2 (some (.inl (2, ([.ref 3, .long (vX v), .int (vRo v), .int (vDa v), .int (vRa v), .int (vTa v), .int (vBo v), .ref 4, .ref 5, .ref 6, .ref 7, .ref 8, .ref 9] : List Value).set 1 (.long a)))) = st2 (uX v a) w := by simp only [st2, List.cons_append, List.nil_append, stH, stB, stO, am_oj, List.set_cons_succ, List.set_cons_zero, uS, uX, uRo, uDa, uRa, uTa, uBo, uH, uP, uT, uF, uI, uL, vS, vX, vRo, vDa, vRa, vTa, vBo, vH, vP, vT, vF, vI, vL]
theorem st2_Ro (v w : SV) (a : Int32) : (st2 v w).set 2 (some (.inl (2, ([.ref 3, .long (vX v), .int (vRo v), .int (vDa v), .int (vRa v), .int (vTa v), .int (vBo v), .ref 4, .ref 5, .ref 6, .ref 7, .ref 8, .ref 9] : List Value).set 2 (.int a)))) = st2 (uRo v a) w := by simp only [st2, List.cons_append, List.nil_append, stH, stB, stO, am_oj, List.set_cons_succ, List.set_cons_zero, uS, uX, uRo, uDa, uRa, uTa, uBo, uH, uP, uT, uF, uI, uL, vS, vX, vRo, vDa, vRa, vTa, vBo, vH, vP, vT, vF, vI, vL]
theorem st2_Da (v w : SV) (a : Int32) : (st2 v w).set 2 (some (.inl (2, ([.ref 3, .long (vX v), .int (vRo v), .int (vDa v), .int (vRa v), .int (vTa v), .int (vBo v), .ref 4, .ref 5, .ref 6, .ref 7, .ref 8, .ref 9] : List Value).set 3 (.int a)))) = st2 (uDa v a) w := by simp only [st2, List.cons_append, List.nil_append, stH, stB, stO, am_oj, List.set_cons_succ, List.set_cons_zero, uS, uX, uRo, uDa, uRa, uTa, uBo, uH, uP, uT, uF, uI, uL, vS, vX, vRo, vDa, vRa, vTa, vBo, vH, vP, vT, vF, vI, vL]
theorem st2_Ra (v w : SV) (a : Int32) : (st2 v w).set 2 (some (.inl (2, ([.ref 3, .long (vX v), .int (vRo v), .int (vDa v), .int (vRa v), .int (vTa v), .int (vBo v), .ref 4, .ref 5, .ref 6, .ref 7, .ref 8, .ref 9] : List Value).set 4 (.int a)))) = st2 (uRa v a) w := by simp only [st2, List.cons_append, List.nil_append, stH, stB, stO, am_oj, List.set_cons_succ, List.set_cons_zero, uS, uX, uRo, uDa, uRa, uTa, uBo, uH, uP, uT, uF, uI, uL, vS, vX, vRo, vDa, vRa, vTa, vBo, vH, vP, vT, vF, vI, vL]
theorem st2_Ta (v w : SV) (a : Int32) : (st2 v w).set 2 (some (.inl (2, ([.ref 3, .long (vX v), .int (vRo v), .int (vDa v), .int (vRa v), .int (vTa v), .int (vBo v), .ref 4, .ref 5, .ref 6, .ref 7, .ref 8, .ref 9] : List Value).set 5 (.int a)))) = st2 (uTa v a) w := by simp only [st2, List.cons_append, List.nil_append, stH, stB, stO, am_oj, List.set_cons_succ, List.set_cons_zero, uS, uX, uRo, uDa, uRa, uTa, uBo, uH, uP, uT, uF, uI, uL, vS, vX, vRo, vDa, vRa, vTa, vBo, vH, vP, vT, vF, vI, vL]
theorem st2_Bo (v w : SV) (a : Int32) : (st2 v w).set 2 (some (.inl (2, ([.ref 3, .long (vX v), .int (vRo v), .int (vDa v), .int (vRa v), .int (vTa v), .int (vBo v), .ref 4, .ref 5, .ref 6, .ref 7, .ref 8, .ref 9] : List Value).set 6 (.int a)))) = st2 (uBo v a) w := by simp only [st2, List.cons_append, List.nil_append, stH, stB, stO, am_oj, List.set_cons_succ, List.set_cons_zero, uS, uX, uRo, uDa, uRa, uTa, uBo, uH, uP, uT, uF, uI, uL, vS, vX, vRo, vDa, vRa, vTa, vBo, vH, vP, vT, vF, vI, vL]
set_option maxHeartbeats 4000000 in
set_option maxRecDepth 100000 in
theorem sX3_copyFrom (v w : SV) : am_Sp mX3_copyFrom [.ref 2, .ref 10] (st2 v w) (am_vp (st2 w w)) := by
  refine am_intro (by decide) (Nat.le_of_ble_eq_true rfl) ?_
  refine ar_aload_n (i := 1) (pc := 0) dX3_copyFrom_0 rfl rfl ?_
  refine ar_getf (pc := 1) dX3_copyFrom_1 fX3_13 rfl rfl ?_
  refine ar_aload_n (i := 0) (pc := 4) dX3_copyFrom_4 rfl rfl ?_
  refine ar_getf (pc := 5) dX3_copyFrom_5 fX3_13 rfl rfl ?_
  refine ar_mc (pc := 8) (l := [0, 1, 11, 3]) (ar_rSN dX3_copyFrom_8 cal_X6_copyRow kX3_44 rfl (sX6_copyRow true 6 (by decide) _ _) rfl rfl rfl okm2_0 rfl rfl) okm2_0 rfl rfl rfl rfl (fun r h1 hp => ?_)
  obtain ⟨rfl, rfl⟩ := hp
  refine ⟨rfl, ?_⟩
  rw [mrg2, st2_S]
  refine ar_aload_n (i := 0) (pc := 11) dX3_copyFrom_11 rfl rfl ?_
  refine ar_aload_n (i := 1) (pc := 12) dX3_copyFrom_12 rfl rfl ?_
  refine ar_getf (pc := 13) dX3_copyFrom_13 fX3_18 rfl rfl ?_
  refine ar_putf (pc := 16) dX3_copyFrom_16 fX3_18 rfl (Nat.le_of_ble_eq_true rfl) (fun _ => ⟨rfl, rfl⟩) ?_
  rw [st2_X]
  refine ar_aload_n (i := 0) (pc := 19) dX3_copyFrom_19 rfl rfl ?_
  refine ar_aload_n (i := 1) (pc := 20) dX3_copyFrom_20 rfl rfl ?_
  refine ar_getf (pc := 21) dX3_copyFrom_21 fX3_22 rfl rfl ?_
  refine ar_putf (pc := 24) dX3_copyFrom_24 fX3_22 rfl (Nat.le_of_ble_eq_true rfl) (fun _ => ⟨rfl, rfl⟩) ?_
  rw [st2_Ro]
  refine ar_aload_n (i := 0) (pc := 27) dX3_copyFrom_27 rfl rfl ?_
  refine ar_aload_n (i := 1) (pc := 28) dX3_copyFrom_28 rfl rfl ?_
  refine ar_getf (pc := 29) dX3_copyFrom_29 fX3_51 rfl rfl ?_
  refine ar_putf (pc := 32) dX3_copyFrom_32 fX3_51 rfl (Nat.le_of_ble_eq_true rfl) (fun _ => ⟨rfl, rfl⟩) ?_
  rw [st2_Da]
  refine ar_aload_n (i := 0) (pc := 35) dX3_copyFrom_35 rfl rfl ?_
  refine ar_aload_n (i := 1) (pc := 36) dX3_copyFrom_36 rfl rfl ?_
  refine ar_getf (pc := 37) dX3_copyFrom_37 fX3_54 rfl rfl ?_
  refine ar_putf (pc := 40) dX3_copyFrom_40 fX3_54 rfl (Nat.le_of_ble_eq_true rfl) (fun _ => ⟨rfl, rfl⟩) ?_
  rw [st2_Ra]
  refine ar_aload_n (i := 0) (pc := 43) dX3_copyFrom_43 rfl rfl ?_
  refine ar_aload_n (i := 1) (pc := 44) dX3_copyFrom_44 rfl rfl ?_
  refine ar_getf (pc := 45) dX3_copyFrom_45 fX3_57 rfl rfl ?_
  refine ar_putf (pc := 48) dX3_copyFrom_48 fX3_57 rfl (Nat.le_of_ble_eq_true rfl) (fun _ => ⟨rfl, rfl⟩) ?_
  rw [st2_Ta]
  refine ar_aload_n (i := 0) (pc := 51) dX3_copyFrom_51 rfl rfl ?_
  refine ar_aload_n (i := 1) (pc := 52) dX3_copyFrom_52 rfl rfl ?_
  refine ar_getf (pc := 53) dX3_copyFrom_53 fX3_60 rfl rfl ?_
  refine ar_putf (pc := 56) dX3_copyFrom_56 fX3_60 rfl (Nat.le_of_ble_eq_true rfl) (fun _ => ⟨rfl, rfl⟩) ?_
  rw [st2_Bo]
  refine ar_aload_n (i := 1) (pc := 59) dX3_copyFrom_59 rfl rfl ?_
  refine ar_getf (pc := 60) dX3_copyFrom_60 fX3_26 rfl rfl ?_
  refine ar_aload_n (i := 0) (pc := 63) dX3_copyFrom_63 rfl rfl ?_
  refine ar_getf (pc := 64) dX3_copyFrom_64 fX3_26 rfl rfl ?_
  refine ar_mc (pc := 67) (l := [0, 1, 12, 4]) (ar_rSN dX3_copyFrom_67 cal_X6_copyRow kX3_44 rfl (sX6_copyRow true 8 (by decide) _ _) rfl rfl rfl okm2_1 rfl rfl) okm2_1 rfl rfl rfl rfl (fun r h1 hp => ?_)
  obtain ⟨rfl, rfl⟩ := hp
  refine ⟨rfl, ?_⟩
  rw [mrg2, st2_H]
  refine ar_aload_n (i := 1) (pc := 70) dX3_copyFrom_70 rfl rfl ?_
  refine ar_getf (pc := 71) dX3_copyFrom_71 fX3_29 rfl rfl ?_
  refine ar_aload_n (i := 0) (pc := 74) dX3_copyFrom_74 rfl rfl ?_
  refine ar_getf (pc := 75) dX3_copyFrom_75 fX3_29 rfl rfl ?_
  refine ar_mc (pc := 78) (l := [0, 1, 13, 5]) (ar_rSN dX3_copyFrom_78 cal_X6_copyRow kX3_44 rfl (sX6_copyRow true 8 (by decide) _ _) rfl rfl rfl okm2_2 rfl rfl) okm2_2 rfl rfl rfl rfl (fun r h1 hp => ?_)
  obtain ⟨rfl, rfl⟩ := hp
  refine ⟨rfl, ?_⟩
  rw [mrg2, st2_P]
  refine ar_aload_n (i := 1) (pc := 81) dX3_copyFrom_81 rfl rfl ?_
  refine ar_getf (pc := 82) dX3_copyFrom_82 fX3_32 rfl rfl ?_
  refine ar_aload_n (i := 0) (pc := 85) dX3_copyFrom_85 rfl rfl ?_
  refine ar_getf (pc := 86) dX3_copyFrom_86 fX3_32 rfl rfl ?_
  refine ar_mc (pc := 89) (l := [0, 1, 14, 6]) (ar_rSN dX3_copyFrom_89 cal_X6_copyRow kX3_44 rfl (sX6_copyRow true 8 (by decide) _ _) rfl rfl rfl okm2_3 rfl rfl) okm2_3 rfl rfl rfl rfl (fun r h1 hp => ?_)
  obtain ⟨rfl, rfl⟩ := hp
  refine ⟨rfl, ?_⟩
  rw [mrg2, st2_T]
  refine ar_aload_n (i := 1) (pc := 92) dX3_copyFrom_92 rfl rfl ?_
  refine ar_getf (pc := 93) dX3_copyFrom_93 fX3_35 rfl rfl ?_
  refine ar_aload_n (i := 0) (pc := 96) dX3_copyFrom_96 rfl rfl ?_
  refine ar_getf (pc := 97) dX3_copyFrom_97 fX3_35 rfl rfl ?_
  refine ar_mc (pc := 100) (l := [0, 1, 15, 7]) (ar_rSN dX3_copyFrom_100 cal_X6_copyRow kX3_44 rfl (sX6_copyRow true 8 (by decide) _ _) rfl rfl rfl okm2_4 rfl rfl) okm2_4 rfl rfl rfl rfl (fun r h1 hp => ?_)
  obtain ⟨rfl, rfl⟩ := hp
  refine ⟨rfl, ?_⟩
  rw [mrg2, st2_F]
  refine ar_aload_n (i := 1) (pc := 103) dX3_copyFrom_103 rfl rfl ?_
  refine ar_getf (pc := 104) dX3_copyFrom_104 fX3_38 rfl rfl ?_
  refine ar_aload_n (i := 0) (pc := 107) dX3_copyFrom_107 rfl rfl ?_
  refine ar_getf (pc := 108) dX3_copyFrom_108 fX3_38 rfl rfl ?_
  refine ar_mc (pc := 111) (l := [0, 1, 16, 8]) (ar_rSN dX3_copyFrom_111 cal_X6_copyRow kX3_44 rfl (sX6_copyRow true 8 (by decide) _ _) rfl rfl rfl okm2_5 rfl rfl) okm2_5 rfl rfl rfl rfl (fun r h1 hp => ?_)
  obtain ⟨rfl, rfl⟩ := hp
  refine ⟨rfl, ?_⟩
  rw [mrg2, st2_I]
  refine ar_aload_n (i := 1) (pc := 114) dX3_copyFrom_114 rfl rfl ?_
  refine ar_getf (pc := 115) dX3_copyFrom_115 fX3_41 rfl rfl ?_
  refine ar_aload_n (i := 0) (pc := 118) dX3_copyFrom_118 rfl rfl ?_
  refine ar_getf (pc := 119) dX3_copyFrom_119 fX3_41 rfl rfl ?_
  refine ar_mc (pc := 122) (l := [0, 1, 17, 9]) (ar_rSN dX3_copyFrom_122 cal_X6_copyRow kX3_44 rfl (sX6_copyRow true 8 (by decide) _ _) rfl rfl rfl okm2_6 rfl rfl) okm2_6 rfl rfl rfl rfl (fun r h1 hp => ?_)
  obtain ⟨rfl, rfl⟩ := hp
  refine ⟨rfl, ?_⟩
  rw [mrg2, st2_L]
  exact ar_vret (pc := 125) dX3_copyFrom_125 rfl rfl rfl ⟨rfl, rfl⟩
end
section
/-! the class Stream, and View without State -/
/-- people who walk along t: how many go on, the greatest height so far -/
def wk (t : Nat → Int32) (w s : Int32) : Nat → Int32 × Int32
  | 0 => (w, 0)
  | k + 1 => if (wk t w s k).2 < t k then ((wk t w s k).1 - (wk t w s k).1 * s / 100, t k) else wk t w s k
/-- the pitch of the k-th step; a left stream has l = 1 -/
def pi (l : Int32) (k : Nat) : Nat := if l = 0 then 11 - k else k
theorem pi_lt {l : Int32} {k : Nat} (h : k < 12) : pi l k < 12 := by unfold pi; split <;> omega
theorem pi_pi {l : Int32} {k : Nat} (h : k < 12) : pi l (pi l k) = k := by unfold pi; split <;> omega
def mixP (l : Int32) (F g : Nat → Int32) (k : Nat) : Nat → Int32 := fun j => if pi l j < k then F (pi l j) else g j
theorem mixP_s {l : Int32} {F g : Nat → Int32} {k j : Nat} (hk : k < 12) (hj : j < 12) : upd (mixP l F g k) (pi l k) (F k) j = mixP l F g (k + 1) j := by
  unfold upd mixP
  by_cases e : j = pi l k
  · subst e
    rw [if_pos rfl, pi_pi hk, if_pos (by omega)]
  · rw [if_neg e]
    have e2 : pi l j ≠ k := fun z => e (by rw [← z, pi_pi hj])
    by_cases e3 : pi l j < k
    · rw [if_pos e3, if_pos (by omega)]
    · rw [if_neg e3, if_neg (by omega)]
theorem mixP_all {l : Int32} {F g : Nat → Int32} {j : Nat} (hj : j < 12) : mixP l F g 12 j = F (pi l j) := by simp [mixP, pi_lt hj]
theorem mixP_0 (l : Int32) (F g : Nat → Int32) : mixP l F g 0 = g := by funext j; simp [mixP]
theorem sub11 {k : Nat} (h : k < 12) : (11 : Int32) - nI k = nI (11 - k) := by
  rw [show (11 : Int32) = nI 11 from rfl, pk_sub (by omega)]
def smB (p : Nat) (l : Int32) (ar ta : Nat → Int32) (sh ps : Int32) : am_H := [some (am_oj 3 [.int l, .ref (p + 1), .ref (p + 2), .int sh, .int ps]), some (am_ia 12 ar), some (am_ia 12 ta)]
def wkH (l : Int32) (ar ta : Nat → Int32) (sh ps : Int32) (tp : Nat → Int32) : am_H := none :: none :: (smB 2 l ar ta sh ps ++ [some (am_ia 12 tp)])
abbrev wkt (l : Int32) (tp : Nat → Int32) (w s : Int32) : Nat → Int32 × Int32 := wk (fun k => tp (pi l k)) w s
def arF (l : Int32) (tp : Nat → Int32) (w s : Int32) : Nat → Int32 := fun j => (wkt l tp w s (pi l j)).1
def taF (l : Int32) (tp : Nat → Int32) (w s : Int32) : Nat → Int32 := fun j => (wkt l tp w s (pi l j)).2
def paF (l : Int32) (tp : Nat → Int32) (w s : Int32) : Int32 := (wkt l tp w s 12).1
set_option maxHeartbeats 4000000 in
set_option maxRecDepth 100000 in
theorem lX4_walk (h0 : am_H) (l : Int32) (ar ta : Nat → Int32) (ps : Int32) (tp : Nat → Int32) (w s : Int32) : ∀ (d k : Nat), ∀ o7 : Option Value, k + d = 12 → am_RW mX4_walk h0 (am_vp (wkH l (arF l tp w s) (taF l tp w s) s (paF l tp w s) tp)) 0 0 14 [some (.ref 2), some (.ref 5), some (.int w), some (.int s), some (.int (wkt l tp w s k).1), some (.int (wkt l tp w s k).2), some (.int (nI k)), o7] [] (wkH l (mixP l (fun i => (wkt l tp w s i).1) ar (k)) (mixP l (fun i => (wkt l tp w s i).2) ta (k)) s ps tp) := by
  intro d
  induction d with
  | zero =>
    intro k o7 hk
    have e : k = 12 := by omega
    subst e
    refine ar_iload (pc := 14) dX4_walk_14 rfl ?_
    refine ar_bipush (pc := 16) dX4_walk_16 q_bipush_12 ?_
    refine ar_icmp_ge (pc := 18) (tgt := 98) dX4_walk_18 (by decide) (fun c18 => ?_) (fun c18 => False.elim (by (simp (disch := omega) only [Int32.lt_iff_toInt_lt, Int32.le_iff_toInt_le, ← Int32.toInt_inj, ti_m6, ti_m1, ti_0, ti_1, ti_2, ti_3, ti_4, ti_5, ti_6, ti_7, ti_8, ti_9, ti_12, ti_100, ti_9999, ti_60, nI_toInt] at c18) <;> omega))
    refine ar_cong (a := 3) (arF l tp w s) rfl (fun j hj => mixP_all hj) ?_
    refine ar_cong (a := 4) (taF l tp w s) rfl (fun j hj => mixP_all hj) ?_
    refine ar_aload_n (i := 0) (pc := 98) dX4_walk_98 rfl rfl ?_
    refine ar_iload (pc := 99) dX4_walk_99 rfl ?_
    refine ar_putf (pc := 101) dX4_walk_101 fX4_26 rfl (Nat.le_of_ble_eq_true rfl) (fun _ => ⟨rfl, rfl⟩) ?_
    exact ar_vret (pc := 104) dX4_walk_104 rfl rfl rfl ⟨rfl, rfl⟩
  | succ d ih =>
    intro k o7 hk
    refine ar_iload (pc := 14) dX4_walk_14 rfl ?_
    refine ar_bipush (pc := 16) dX4_walk_16 q_bipush_12 ?_
    refine ar_icmp_ge (pc := 18) (tgt := 98) dX4_walk_18 (by decide) (fun c18 => False.elim (by (simp (disch := omega) only [Int32.lt_iff_toInt_lt, Int32.le_iff_toInt_le, ← Int32.toInt_inj, ti_m6, ti_m1, ti_0, ti_1, ti_2, ti_3, ti_4, ti_5, ti_6, ti_7, ti_8, ti_9, ti_12, ti_100, ti_9999, ti_60, nI_toInt] at c18) <;> omega)) (fun c18 => ?_)
    refine ar_aload_n (i := 0) (pc := 21) dX4_walk_21 rfl rfl ?_
    refine ar_getf (pc := 22) dX4_walk_22 fX4_18 rfl rfl ?_
    refine ar_if_eq (pc := 25) (tgt := 33) dX4_walk_25 (by decide) (fun c25 => ?_) (fun c25 => ?_)
    · refine ar_bipush (pc := 33) dX4_walk_33 q_bipush_11 ?_
      refine ar_iload (pc := 35) dX4_walk_35 rfl ?_
      refine ar_isub (pc := 37) dX4_walk_37 ?_
      refine ar_topi (fun y37 e37 => ?_)
      have e7 : y37 = nI (pi l k) := by rw [e37]; rw [sub11 (by omega), pi, if_pos c25]
      clear e37
      subst e7
      refine ar_istore (pc := 38) dX4_walk_38 (Nat.le_of_ble_eq_true rfl) rfl ?_
      refine ar_aload_n (i := 0) (pc := 40) dX4_walk_40 rfl rfl ?_
      refine ar_getf (pc := 41) dX4_walk_41 fX4_9 rfl rfl ?_
      refine ar_iload (pc := 44) dX4_walk_44 rfl ?_
      refine ar_iload (pc := 46) dX4_walk_46 rfl ?_
      refine ar_iast (pc := 48) dX4_walk_48 rfl (pi_lt (show k < 12 by omega)) rfl ?_
      refine ar_aload_n (i := 0) (pc := 49) dX4_walk_49 rfl rfl ?_
      refine ar_getf (pc := 50) dX4_walk_50 fX4_15 rfl rfl ?_
      refine ar_iload (pc := 53) dX4_walk_53 rfl ?_
      refine ar_iload (pc := 55) dX4_walk_55 rfl ?_
      refine ar_iast (pc := 57) dX4_walk_57 rfl (pi_lt (show k < 12 by omega)) rfl ?_
      refine ar_cong (a := 3) (mixP l (fun i => (wkt l tp w s i).1) ar (k + 1)) rfl (fun j hj => mixP_s (F := fun i => (wkt l tp w s i).1) (show k < 12 by omega) hj) ?_
      refine ar_cong (a := 4) (mixP l (fun i => (wkt l tp w s i).2) ta (k + 1)) rfl (fun j hj => mixP_s (F := fun i => (wkt l tp w s i).2) (show k < 12 by omega) hj) ?_
      refine ar_iload (pc := 58) dX4_walk_58 rfl ?_
      refine ar_aload_n (i := 1) (pc := 60) dX4_walk_60 rfl rfl ?_
      refine ar_alen (pc := 61) dX4_walk_61 rfl ?_
      refine ar_icmp_ge (pc := 62) (tgt := 92) dX4_walk_62 (by decide) (fun c62 => False.elim (by have hp := pi_lt (l := l) (show k < 12 by omega); (simp (disch := omega) only [Int32.lt_iff_toInt_lt, Int32.le_iff_toInt_le, ← Int32.toInt_inj, ti_m6, ti_m1, ti_0, ti_1, ti_2, ti_3, ti_4, ti_5, ti_6, ti_7, ti_8, ti_9, ti_12, ti_100, ti_9999, ti_60, nI_toInt, show nI (pi l k) = nI (pi l k) from rfl] at c62) <;> omega)) (fun c62 => ?_)
      refine ar_aload_n (i := 1) (pc := 65) dX4_walk_65 rfl rfl ?_
      refine ar_iload (pc := 66) dX4_walk_66 rfl ?_
      refine ar_iald (pc := 68) dX4_walk_68 rfl (pi_lt (show k < 12 by omega)) rfl ?_
      refine ar_iload (pc := 69) dX4_walk_69 rfl ?_
      refine ar_icmp_le (pc := 71) (tgt := 92) dX4_walk_71 (by decide) (fun c71 => ?_) (fun c71 => ?_)
      · refine ar_iinc (pc := 92) dX4_walk_92 rfl (ni_inc _) (Nat.le_of_ble_eq_true rfl) rfl ?_
        refine ar_goto (tgt := 14) (pc := 95) dX4_walk_95 (by decide) ?_
        have ih' := ih (k + 1) (some (.int (nI (pi l k)))) (by omega)
        first
          | (have ew : wkt l tp w s (k + 1) = wkt l tp w s k := by
               rw [wkt, wk, if_neg (Int32.not_lt.mpr c71)]
             rw [ew] at ih'
             exact ih')
          | (have ew : wkt l tp w s (k + 1) = (y83, tp (pi l k)) := by
               rw [wkt, wk, if_pos (Int32.not_le.mp c71), e83]
             rw [ew] at ih'
             exact ih')
      · refine ar_iload (pc := 74) dX4_walk_74 rfl ?_
        refine ar_iload (pc := 76) dX4_walk_76 rfl ?_
        refine ar_iload_n (i := 3) (pc := 78) dX4_walk_78 rfl rfl ?_
        refine ar_imul (pc := 79) dX4_walk_79 ?_
        refine ar_bipush (pc := 80) dX4_walk_80 q_bipush_100 ?_
        refine ar_idiv (pc := 82) dX4_walk_82 (by decide) ?_
        refine ar_isub (pc := 83) dX4_walk_83 ?_
        refine ar_topi (fun y83 e83 => ?_)
        refine ar_istore (pc := 84) dX4_walk_84 (Nat.le_of_ble_eq_true rfl) rfl ?_
        refine ar_aload_n (i := 1) (pc := 86) dX4_walk_86 rfl rfl ?_
        refine ar_iload (pc := 87) dX4_walk_87 rfl ?_
        refine ar_iald (pc := 89) dX4_walk_89 rfl (pi_lt (show k < 12 by omega)) rfl ?_
        refine ar_istore (pc := 90) dX4_walk_90 (Nat.le_of_ble_eq_true rfl) rfl ?_
        refine ar_iinc (pc := 92) dX4_walk_92 rfl (ni_inc _) (Nat.le_of_ble_eq_true rfl) rfl ?_
        refine ar_goto (tgt := 14) (pc := 95) dX4_walk_95 (by decide) ?_
        have ih' := ih (k + 1) (some (.int (nI (pi l k)))) (by omega)
        first
          | (have ew : wkt l tp w s (k + 1) = wkt l tp w s k := by
               rw [wkt, wk, if_neg (Int32.not_lt.mpr c71)]
             rw [ew] at ih'
             exact ih')
          | (have ew : wkt l tp w s (k + 1) = (y83, tp (pi l k)) := by
               rw [wkt, wk, if_pos (Int32.not_le.mp c71), e83]
             rw [ew] at ih'
             exact ih')
    · refine ar_iload (pc := 28) dX4_walk_28 rfl ?_
      refine ar_topi (fun y28 e28 => ?_)
      have e7 : y28 = nI (pi l k) := by rw [e28]; rw [pi, if_neg c25]
      clear e28
      subst e7
      refine ar_goto (tgt := 38) (pc := 30) dX4_walk_30 (by decide) ?_
      refine ar_istore (pc := 38) dX4_walk_38 (Nat.le_of_ble_eq_true rfl) rfl ?_
      refine ar_aload_n (i := 0) (pc := 40) dX4_walk_40 rfl rfl ?_
      refine ar_getf (pc := 41) dX4_walk_41 fX4_9 rfl rfl ?_
      refine ar_iload (pc := 44) dX4_walk_44 rfl ?_
      refine ar_iload (pc := 46) dX4_walk_46 rfl ?_
      refine ar_iast (pc := 48) dX4_walk_48 rfl (pi_lt (show k < 12 by omega)) rfl ?_
      refine ar_aload_n (i := 0) (pc := 49) dX4_walk_49 rfl rfl ?_
      refine ar_getf (pc := 50) dX4_walk_50 fX4_15 rfl rfl ?_
      refine ar_iload (pc := 53) dX4_walk_53 rfl ?_
      refine ar_iload (pc := 55) dX4_walk_55 rfl ?_
      refine ar_iast (pc := 57) dX4_walk_57 rfl (pi_lt (show k < 12 by omega)) rfl ?_
      refine ar_cong (a := 3) (mixP l (fun i => (wkt l tp w s i).1) ar (k + 1)) rfl (fun j hj => mixP_s (F := fun i => (wkt l tp w s i).1) (show k < 12 by omega) hj) ?_
      refine ar_cong (a := 4) (mixP l (fun i => (wkt l tp w s i).2) ta (k + 1)) rfl (fun j hj => mixP_s (F := fun i => (wkt l tp w s i).2) (show k < 12 by omega) hj) ?_
      refine ar_iload (pc := 58) dX4_walk_58 rfl ?_
      refine ar_aload_n (i := 1) (pc := 60) dX4_walk_60 rfl rfl ?_
      refine ar_alen (pc := 61) dX4_walk_61 rfl ?_
      refine ar_icmp_ge (pc := 62) (tgt := 92) dX4_walk_62 (by decide) (fun c62 => False.elim (by have hp := pi_lt (l := l) (show k < 12 by omega); (simp (disch := omega) only [Int32.lt_iff_toInt_lt, Int32.le_iff_toInt_le, ← Int32.toInt_inj, ti_m6, ti_m1, ti_0, ti_1, ti_2, ti_3, ti_4, ti_5, ti_6, ti_7, ti_8, ti_9, ti_12, ti_100, ti_9999, ti_60, nI_toInt, show nI (pi l k) = nI (pi l k) from rfl] at c62) <;> omega)) (fun c62 => ?_)
      refine ar_aload_n (i := 1) (pc := 65) dX4_walk_65 rfl rfl ?_
      refine ar_iload (pc := 66) dX4_walk_66 rfl ?_
      refine ar_iald (pc := 68) dX4_walk_68 rfl (pi_lt (show k < 12 by omega)) rfl ?_
      refine ar_iload (pc := 69) dX4_walk_69 rfl ?_
      refine ar_icmp_le (pc := 71) (tgt := 92) dX4_walk_71 (by decide) (fun c71 => ?_) (fun c71 => ?_)
      · refine ar_iinc (pc := 92) dX4_walk_92 rfl (ni_inc _) (Nat.le_of_ble_eq_true rfl) rfl ?_
        refine ar_goto (tgt := 14) (pc := 95) dX4_walk_95 (by decide) ?_
        have ih' := ih (k + 1) (some (.int (nI (pi l k)))) (by omega)
        first
          | (have ew : wkt l tp w s (k + 1) = wkt l tp w s k := by
               rw [wkt, wk, if_neg (Int32.not_lt.mpr c71)]
             rw [ew] at ih'
             exact ih')
          | (have ew : wkt l tp w s (k + 1) = (y83, tp (pi l k)) := by
               rw [wkt, wk, if_pos (Int32.not_le.mp c71), e83]
             rw [ew] at ih'
             exact ih')
      · refine ar_iload (pc := 74) dX4_walk_74 rfl ?_
        refine ar_iload (pc := 76) dX4_walk_76 rfl ?_
        refine ar_iload_n (i := 3) (pc := 78) dX4_walk_78 rfl rfl ?_
        refine ar_imul (pc := 79) dX4_walk_79 ?_
        refine ar_bipush (pc := 80) dX4_walk_80 q_bipush_100 ?_
        refine ar_idiv (pc := 82) dX4_walk_82 (by decide) ?_
        refine ar_isub (pc := 83) dX4_walk_83 ?_
        refine ar_topi (fun y83 e83 => ?_)
        refine ar_istore (pc := 84) dX4_walk_84 (Nat.le_of_ble_eq_true rfl) rfl ?_
        refine ar_aload_n (i := 1) (pc := 86) dX4_walk_86 rfl rfl ?_
        refine ar_iload (pc := 87) dX4_walk_87 rfl ?_
        refine ar_iald (pc := 89) dX4_walk_89 rfl (pi_lt (show k < 12 by omega)) rfl ?_
        refine ar_istore (pc := 90) dX4_walk_90 (Nat.le_of_ble_eq_true rfl) rfl ?_
        refine ar_iinc (pc := 92) dX4_walk_92 rfl (ni_inc _) (Nat.le_of_ble_eq_true rfl) rfl ?_
        refine ar_goto (tgt := 14) (pc := 95) dX4_walk_95 (by decide) ?_
        have ih' := ih (k + 1) (some (.int (nI (pi l k)))) (by omega)
        first
          | (have ew : wkt l tp w s (k + 1) = wkt l tp w s k := by
               rw [wkt, wk, if_neg (Int32.not_lt.mpr c71)]
             rw [ew] at ih'
             exact ih')
          | (have ew : wkt l tp w s (k + 1) = (y83, tp (pi l k)) := by
               rw [wkt, wk, if_pos (Int32.not_le.mp c71), e83]
             rw [ew] at ih'
             exact ih')

set_option maxHeartbeats 4000000 in
set_option maxRecDepth 100000 in
theorem sX4_walk (l : Int32) (ar ta : Nat → Int32) (sh ps : Int32) (tp : Nat → Int32) (w s : Int32) : am_Sp mX4_walk [.ref 2, .ref 5, .int w, .int s] (wkH l ar ta sh ps tp) (am_vp (wkH l (arF l tp w s) (taF l tp w s) s (paF l tp w s) tp)) := by
  refine am_intro (by decide) (Nat.le_of_ble_eq_true rfl) ?_
  refine ar_aload_n (i := 0) (pc := 0) dX4_walk_0 rfl rfl ?_
  refine ar_iload_n (i := 3) (pc := 1) dX4_walk_1 rfl rfl ?_
  refine ar_putf (pc := 2) dX4_walk_2 fX4_22 rfl (Nat.le_of_ble_eq_true rfl) (fun _ => ⟨rfl, rfl⟩) ?_
  refine ar_iload_n (i := 2) (pc := 5) dX4_walk_5 rfl rfl ?_
  refine ar_istore (pc := 6) dX4_walk_6 (Nat.le_of_ble_eq_true rfl) rfl ?_
  refine ar_iconst (pc := 8) dX4_walk_8 q_iconst_0 ?_
  refine ar_istore (pc := 9) dX4_walk_9 (Nat.le_of_ble_eq_true rfl) rfl ?_
  refine ar_iconst (pc := 11) dX4_walk_11 q_iconst_0 ?_
  refine ar_istore (pc := 12) dX4_walk_12 (Nat.le_of_ble_eq_true rfl) rfl ?_
  have h := lX4_walk (wkH l ar ta sh ps tp) l ar ta ps tp w s 12 0 none (by omega)
  rw [mixP_0, mixP_0] at h
  exact h

def smH (l : Int32) (ar ta : Nat → Int32) (sh ps : Int32) : am_H := none :: none :: smB 2 l ar ta sh ps
abbrev inP (p : Int32) : Prop := 0 ≤ p.toInt ∧ p.toInt < 12
def stpV (ar ta : Nat → Int32) (sh p h : Int32) : Int32 := if inP p ∧ ta (ix p) < h then ar (ix p) * sh / 100 else 0
set_option maxHeartbeats 4000000 in
set_option maxRecDepth 100000 in
theorem sX4_isSeen (l : Int32) (ar ta : Nat → Int32) (sh ps : Int32) (p h : Int32) : am_Sp mX4_isSeen [.ref 2, .int p, .int h] (smH l ar ta sh ps) (am_bp (inP p ∧ ta (ix p) < h) (smH l ar ta sh ps)) := by
  refine am_intro (by decide) (Nat.le_of_ble_eq_true rfl) ?_
  refine ar_iload_n (i := 1) (pc := 0) dX4_isSeen_0 rfl rfl ?_
  refine ar_idSN (pc := 1) dX4_isSeen_1 cal_X6_isPitch kX4_29 rfl (sX6_isPitchB _ _) rfl rfl rfl rfl rfl (fun r h1 hp => ?_)
  obtain ⟨⟨h1, rfl⟩ | ⟨h1, rfl⟩, rfl⟩ := hp
  · refine ⟨rfl, ?_⟩
    refine ar_if_eq (pc := 4) (tgt := 21) dX4_isSeen_4 (by decide) (fun c4 => absurd c4 (by decide)) (fun c4 => ?_)
    refine ar_iload_n (i := 2) (pc := 7) dX4_isSeen_7 rfl rfl ?_
    refine ar_aload_n (i := 0) (pc := 8) dX4_isSeen_8 rfl rfl ?_
    refine ar_getf (pc := 9) dX4_isSeen_9 fX4_15 rfl rfl ?_
    refine ar_iload_n (i := 1) (pc := 12) dX4_isSeen_12 rfl rfl ?_
    refine ar_iald (pc := 13) dX4_isSeen_13 rfl (show ix p < 12 by unfold ix; omega) (ix_eq h1.1) ?_
    refine ar_icmp_le (pc := 14) (tgt := 21) dX4_isSeen_14 (by decide) (fun c14 => ?_) (fun c14 => ?_)
    · refine ar_iconst (pc := 21) dX4_isSeen_21 q_iconst_0 ?_
      first
        | exact ar_zret (pc := 22) dX4_isSeen_22 rfl (Or.inr rfl) rfl rfl ⟨Or.inl ⟨⟨h1, Int32.not_le.mp c14⟩, rfl⟩, rfl⟩
        | exact ar_zret (pc := 22) dX4_isSeen_22 rfl (Or.inl rfl) rfl rfl ⟨Or.inr ⟨(fun z => by first | exact h1 z.1 | exact Int32.not_lt.mpr c14 z.2), rfl⟩, rfl⟩
    · refine ar_iconst (pc := 17) dX4_isSeen_17 q_iconst_1 ?_
      refine ar_goto (tgt := 22) (pc := 18) dX4_isSeen_18 (by decide) ?_
      first
        | exact ar_zret (pc := 22) dX4_isSeen_22 rfl (Or.inr rfl) rfl rfl ⟨Or.inl ⟨⟨h1, Int32.not_le.mp c14⟩, rfl⟩, rfl⟩
        | exact ar_zret (pc := 22) dX4_isSeen_22 rfl (Or.inl rfl) rfl rfl ⟨Or.inr ⟨(fun z => by first | exact h1 z.1 | exact Int32.not_lt.mpr c14 z.2), rfl⟩, rfl⟩
  · refine ⟨rfl, ?_⟩
    refine ar_if_eq (pc := 4) (tgt := 21) dX4_isSeen_4 (by decide) (fun c4 => ?_) (fun c4 => absurd c4 (by decide))
    refine ar_iconst (pc := 21) dX4_isSeen_21 q_iconst_0 ?_
    first
      | exact ar_zret (pc := 22) dX4_isSeen_22 rfl (Or.inr rfl) rfl rfl ⟨Or.inl ⟨⟨h1, Int32.not_le.mp c14⟩, rfl⟩, rfl⟩
      | exact ar_zret (pc := 22) dX4_isSeen_22 rfl (Or.inl rfl) rfl rfl ⟨Or.inr ⟨(fun z => by first | exact h1 z.1 | exact Int32.not_lt.mpr c14 z.2), rfl⟩, rfl⟩

set_option maxHeartbeats 4000000 in
set_option maxRecDepth 100000 in
theorem sX4_stopping (l : Int32) (ar ta : Nat → Int32) (sh ps : Int32) (p h : Int32) : am_Sp mX4_stopping [.ref 2, .int p, .int h] (smH l ar ta sh ps) (am_rp (stpV ar ta sh p h) (smH l ar ta sh ps)) := by
  refine am_intro (by decide) (Nat.le_of_ble_eq_true rfl) ?_
  refine ar_aload_n (i := 0) (pc := 0) dX4_stopping_0 rfl rfl ?_
  refine ar_iload_n (i := 1) (pc := 1) dX4_stopping_1 rfl rfl ?_
  refine ar_iload_n (i := 2) (pc := 2) dX4_stopping_2 rfl rfl ?_
  refine ar_idV (pc := 3) dX4_stopping_3 cal_X4_isSeen kX4_33 rfl (sX4_isSeen l ar ta sh ps p h) rfl rfl rfl rfl rfl rfl rfl (fun r h1 hp => ?_)
  obtain ⟨⟨h3, rfl⟩ | ⟨h3, rfl⟩, rfl⟩ := hp
  · refine ⟨rfl, ?_⟩
    refine ar_if_eq (pc := 6) (tgt := 26) dX4_stopping_6 (by decide) (fun c6 => absurd c6 (by decide)) (fun c6 => ?_)
    refine ar_aload_n (i := 0) (pc := 9) dX4_stopping_9 rfl rfl ?_
    refine ar_getf (pc := 10) dX4_stopping_10 fX4_9 rfl rfl ?_
    refine ar_iload_n (i := 1) (pc := 13) dX4_stopping_13 rfl rfl ?_
    refine ar_iald (pc := 14) dX4_stopping_14 rfl (show ix p < 12 by have := h3.1; unfold ix; omega) (ix_eq h3.1.1) ?_
    refine ar_aload_n (i := 0) (pc := 15) dX4_stopping_15 rfl rfl ?_
    refine ar_getf (pc := 16) dX4_stopping_16 fX4_22 rfl rfl ?_
    refine ar_imul (pc := 19) dX4_stopping_19 ?_
    refine ar_bipush (pc := 20) dX4_stopping_20 q_bipush_100 ?_
    refine ar_idiv (pc := 22) dX4_stopping_22 (by decide +kernel) ?_
    refine ar_goto (tgt := 27) (pc := 23) dX4_stopping_23 (by decide) ?_
    exact ar_iret (pc := 27) dX4_stopping_27 rfl rfl rfl ⟨by first | rw [stpV, if_pos h3] | rw [stpV, if_neg h3], rfl⟩
  · refine ⟨rfl, ?_⟩
    refine ar_if_eq (pc := 6) (tgt := 26) dX4_stopping_6 (by decide) (fun c6 => ?_) (fun c6 => absurd c6 (by decide))
    refine ar_iconst (pc := 26) dX4_stopping_26 q_iconst_0 ?_
    exact ar_iret (pc := 27) dX4_stopping_27 rfl rfl rfl ⟨by first | rw [stpV, if_pos h3] | rw [stpV, if_neg h3], rfl⟩

def vwB (p : Nat) (tp : Nat → Int32) (la lt : Nat → Int32) (ls lp : Int32) (ra rt : Nat → Int32) (rs rp : Int32) : am_H :=
  some (am_oj 4 [.ref (p + 1), .ref (p + 2), .ref (p + 5)]) :: some (am_ia 12 tp) :: (smB (p + 2) 1 la lt ls lp ++ smB (p + 5) 0 ra rt rs rp)
def vwH (tp : Nat → Int32) (la lt : Nat → Int32) (ls lp : Int32) (ra rt : Nat → Int32) (rs rp : Int32) : am_H := none :: none :: vwB 2 tp la lt ls lp ra rt rs rp
set_option maxHeartbeats 4000000 in
set_option maxRecDepth 100000 in
theorem lX5_clear (h0 : am_H) (tp : Nat → Int32) (la lt : Nat → Int32) (ls lp : Int32) (ra rt : Nat → Int32) (rs rp : Int32) : ∀ (d k : Nat), k + d = 12 → am_RW mX5_clear h0 (am_vp (vwH (fun _ => 0) la lt ls lp ra rt rs rp)) 0 0 2 [some (.ref 2), some (.int (nI k))] [] (vwH (mixF (fun _ => 0) tp k) la lt ls lp ra rt rs rp) := by
  intro d
  induction d with
  | zero =>
    intro k hk
    have e : k = 12 := by omega
    subst e
    refine ar_iload_n (i := 1) (pc := 2) dX5_clear_2 rfl rfl ?_
    refine ar_aload_n (i := 0) (pc := 3) dX5_clear_3 rfl rfl ?_
    refine ar_getf (pc := 4) dX5_clear_4 fX5_9 rfl rfl ?_
    refine ar_alen (pc := 7) dX5_clear_7 rfl ?_
    refine ar_icmp_ge (pc := 8) (tgt := 24) dX5_clear_8 (by decide) (fun c8 => ?_) (fun c8 => False.elim (by (simp (disch := omega) only [Int32.lt_iff_toInt_lt, Int32.le_iff_toInt_le, ← Int32.toInt_inj, ti_m6, ti_m1, ti_0, ti_1, ti_2, ti_3, ti_4, ti_5, ti_6, ti_7, ti_8, ti_9, ti_12, ti_100, ti_9999, ti_60, nI_toInt] at c8) <;> omega))
    refine ar_cong (a := 3) (fun _ => 0) rfl (fun j hj => by simp only [mixF, hj, if_true]) ?_
    exact ar_vret (pc := 24) dX5_clear_24 rfl rfl rfl ⟨rfl, rfl⟩
  | succ d ih =>
    intro k hk
    refine ar_iload_n (i := 1) (pc := 2) dX5_clear_2 rfl rfl ?_
    refine ar_aload_n (i := 0) (pc := 3) dX5_clear_3 rfl rfl ?_
    refine ar_getf (pc := 4) dX5_clear_4 fX5_9 rfl rfl ?_
    refine ar_alen (pc := 7) dX5_clear_7 rfl ?_
    refine ar_icmp_ge (pc := 8) (tgt := 24) dX5_clear_8 (by decide) (fun c8 => False.elim (by (simp (disch := omega) only [Int32.lt_iff_toInt_lt, Int32.le_iff_toInt_le, ← Int32.toInt_inj, ti_m6, ti_m1, ti_0, ti_1, ti_2, ti_3, ti_4, ti_5, ti_6, ti_7, ti_8, ti_9, ti_12, ti_100, ti_9999, ti_60, nI_toInt] at c8) <;> omega)) (fun c8 => ?_)
    refine ar_aload_n (i := 0) (pc := 11) dX5_clear_11 rfl rfl ?_
    refine ar_getf (pc := 12) dX5_clear_12 fX5_9 rfl rfl ?_
    refine ar_iload_n (i := 1) (pc := 15) dX5_clear_15 rfl rfl ?_
    refine ar_iconst (pc := 16) dX5_clear_16 q_iconst_0 ?_
    refine ar_iast (pc := 17) dX5_clear_17 rfl (show k < 12 by omega) rfl ?_
    refine ar_iinc (pc := 18) dX5_clear_18 rfl (ni_inc _) (Nat.le_of_ble_eq_true rfl) rfl ?_
    refine ar_goto (tgt := 2) (pc := 21) dX5_clear_21 (by decide) ?_
    have ih' := ih (k + 1) (by omega)
    rw [← mixF_c] at ih'
    exact ih'

set_option maxHeartbeats 4000000 in
set_option maxRecDepth 100000 in
theorem sX5_clear (tp : Nat → Int32) (la lt : Nat → Int32) (ls lp : Int32) (ra rt : Nat → Int32) (rs rp : Int32) : am_Sp mX5_clear [.ref 2] (vwH tp la lt ls lp ra rt rs rp) (am_vp (vwH (fun _ => 0) la lt ls lp ra rt rs rp)) := by
  refine am_intro (by decide) (Nat.le_of_ble_eq_true rfl) ?_
  refine ar_iconst (pc := 0) dX5_clear_0 q_iconst_0 ?_
  refine ar_istore_n (i := 1) (pc := 1) dX5_clear_1 rfl (Nat.le_of_ble_eq_true rfl) rfl ?_
  have h := lX5_clear (vwH tp la lt ls lp ra rt rs rp) tp la lt ls lp ra rt rs rp 12 0 (by omega)
  rw [mixF_0] at h
  exact h

def rsT (tp : Nat → Int32) (p h : Int32) : Nat → Int32 := if inP p then upd tp (ix p) h else tp
set_option maxHeartbeats 4000000 in
set_option maxRecDepth 100000 in
theorem sX5_raise (tp : Nat → Int32) (la lt : Nat → Int32) (ls lp : Int32) (ra rt : Nat → Int32) (rs rp : Int32) (p h : Int32) : am_Sp mX5_raise [.ref 2, .int p, .int h] (vwH tp la lt ls lp ra rt rs rp) (am_vp (vwH (rsT tp p h) la lt ls lp ra rt rs rp)) := by
  refine am_intro (by decide) (Nat.le_of_ble_eq_true rfl) ?_
  refine ar_iload_n (i := 1) (pc := 0) dX5_raise_0 rfl rfl ?_
  refine ar_idSN (pc := 1) dX5_raise_1 cal_X6_isPitch kX5_50 rfl (sX6_isPitchB _ _) rfl rfl rfl rfl rfl (fun r h1 hp => ?_)
  obtain ⟨⟨h1, rfl⟩ | ⟨h1, rfl⟩, rfl⟩ := hp
  · refine ⟨rfl, ?_⟩
    refine ar_if_eq (pc := 4) (tgt := 14) dX5_raise_4 (by decide) (fun c4 => absurd c4 (by decide)) (fun c4 => ?_)
    refine ar_aload_n (i := 0) (pc := 7) dX5_raise_7 rfl rfl ?_
    refine ar_getf (pc := 8) dX5_raise_8 fX5_9 rfl rfl ?_
    refine ar_iload_n (i := 1) (pc := 11) dX5_raise_11 rfl rfl ?_
    refine ar_iload_n (i := 2) (pc := 12) dX5_raise_12 rfl rfl ?_
    refine ar_iast (pc := 13) dX5_raise_13 rfl (show ix p < 12 by unfold ix; omega) (ix_eq h1.1) ?_
    exact ar_vret (pc := 14) dX5_raise_14 rfl rfl rfl ⟨rfl, by first | (rw [rsT, if_pos h1]; rfl) | (rw [rsT, if_neg h1])⟩
  · refine ⟨rfl, ?_⟩
    refine ar_if_eq (pc := 4) (tgt := 14) dX5_raise_4 (by decide) (fun c4 => ?_) (fun c4 => absurd c4 (by decide))
    exact ar_vret (pc := 14) dX5_raise_14 rfl rfl rfl ⟨rfl, by first | (rw [rsT, if_pos h1]; rfl) | (rw [rsT, if_neg h1])⟩

theorem okmL : am_okmu [0, 1, 4, 5, 6] [none, none, some true, some true, some true] = true := by decide +kernel
theorem okmR : am_okmu [0, 1, 7, 8, 9] [none, none, some true, some true, some true] = true := by decide +kernel
set_option maxHeartbeats 4000000 in
set_option maxRecDepth 100000 in
theorem sX5_crowdAt (tp : Nat → Int32) (la lt : Nat → Int32) (ls lp : Int32) (ra rt : Nat → Int32) (rs rp : Int32) (p h : Int32) : am_Sp mX5_crowdAt [.ref 2, .int p, .int h] (vwH tp la lt ls lp ra rt rs rp) (am_rp (stpV la lt ls p h + stpV ra rt rs p h) (vwH tp la lt ls lp ra rt rs rp)) := by
  refine am_intro (by decide) (Nat.le_of_ble_eq_true rfl) ?_
  refine ar_aload_n (i := 0) (pc := 0) dX5_crowdAt_0 rfl rfl ?_
  refine ar_getf (pc := 1) dX5_crowdAt_1 fX5_20 rfl rfl ?_
  refine ar_iload_n (i := 1) (pc := 4) dX5_crowdAt_4 rfl rfl ?_
  refine ar_iload_n (i := 2) (pc := 5) dX5_crowdAt_5 rfl rfl ?_
  refine ar_mc (pc := 6) (l := [0, 1, 4, 5, 6]) (ar_rV dX5_crowdAt_6 cal_X4_stopping kX5_61 rfl (sX4_stopping 1 la lt ls lp p h) rfl rfl rfl rfl rfl okmL rfl rfl) okmL rfl rfl rfl rfl (fun r h1 hp => ?_)
  obtain ⟨rfl, rfl⟩ := hp
  refine ⟨rfl, ?_⟩
  refine ar_aload_n (i := 0) (pc := 9) dX5_crowdAt_9 rfl rfl ?_
  refine ar_getf (pc := 10) dX5_crowdAt_10 fX5_24 rfl rfl ?_
  refine ar_iload_n (i := 1) (pc := 13) dX5_crowdAt_13 rfl rfl ?_
  refine ar_iload_n (i := 2) (pc := 14) dX5_crowdAt_14 rfl rfl ?_
  refine ar_mc (pc := 15) (l := [0, 1, 7, 8, 9]) (ar_rV dX5_crowdAt_15 cal_X4_stopping kX5_61 rfl (sX4_stopping 0 ra rt rs rp p h) rfl rfl rfl rfl rfl okmR rfl rfl) okmR rfl rfl rfl rfl (fun r h1 hp => ?_)
  obtain ⟨rfl, rfl⟩ := hp
  refine ⟨rfl, ?_⟩
  refine ar_iadd (pc := 18) dX5_crowdAt_18 ?_
  exact ar_iret (pc := 19) dX5_crowdAt_19 rfl rfl rfl ⟨rfl, rfl⟩

set_option maxHeartbeats 4000000 in
set_option maxRecDepth 100000 in
theorem sX5_streamFrom (tp : Nat → Int32) (la lt : Nat → Int32) (ls lp : Int32) (ra rt : Nat → Int32) (rs rp : Int32) (b : Int32) : am_Sp mX5_streamFrom [.ref 2, .int b] (vwH tp la lt ls lp ra rt rs rp) (fun r h1 => r = some (.ref (if b = 0 then 7 else 4)) ∧ h1 = vwH tp la lt ls lp ra rt rs rp) := by
  refine am_intro (by decide) (Nat.le_of_ble_eq_true rfl) ?_
  refine ar_iload_n (i := 1) (pc := 0) dX5_streamFrom_0 rfl rfl ?_
  refine ar_if_eq (pc := 1) (tgt := 11) dX5_streamFrom_1 (by decide) (fun c1 => ?_) (fun c1 => ?_)
  · refine ar_aload_n (i := 0) (pc := 11) dX5_streamFrom_11 rfl rfl ?_
    refine ar_getf (pc := 12) dX5_streamFrom_12 fX5_24 rfl rfl ?_
    exact ar_aret (pc := 15) dX5_streamFrom_15 rfl rfl rfl ⟨by first | rw [if_pos c1] | rw [if_neg c1], rfl⟩
  · refine ar_aload_n (i := 0) (pc := 4) dX5_streamFrom_4 rfl rfl ?_
    refine ar_getf (pc := 5) dX5_streamFrom_5 fX5_20 rfl rfl ?_
    refine ar_goto (tgt := 15) (pc := 8) dX5_streamFrom_8 (by decide) ?_
    exact ar_aret (pc := 15) dX5_streamFrom_15 rfl rfl rfl ⟨by first | rw [if_pos c1] | rw [if_neg c1], rfl⟩

def dst (o j : Nat) : Nat := if o < j then j - o else o - j
theorem abs_dst {o j : Nat} (ho : o < 12) (hj : j < 12) : (if 0 ≤ nI o - nI j then nI o - nI j else 0 - (nI o - nI j)) = nI (dst o j) := by
  have : ∀ o, o < 12 → ∀ j, j < 12 → (if 0 ≤ nI o - nI j then nI o - nI j else 0 - (nI o - nI j)) = nI (dst o j) := by decide +kernel
  exact this o ho j hj
abbrev opP (tp : Nat → Int32) (j : Nat) (g : Int32) : Prop := ∀ o, o < 12 → ¬ (0 < tp o ∧ nI (dst o j) ≤ g)
set_option maxHeartbeats 4000000 in
set_option maxRecDepth 100000 in
theorem lX5_isOpen (h0 : am_H) (tp : Nat → Int32) (la lt : Nat → Int32) (ls lp : Int32) (ra rt : Nat → Int32) (rs rp : Int32) {j : Nat} (hj : j < 12) (g : Int32) : ∀ (d k : Nat), k + d = 12 → (∀ o, o < k → ¬ (0 < tp o ∧ nI (dst o j) ≤ g)) → am_RW mX5_isOpen h0 (am_bp (opP tp j g) (vwH tp la lt ls lp ra rt rs rp)) 0 0 2 [some (.ref 2), some (.int (nI j)), some (.int g), some (.int (nI k))] [] (vwH tp la lt ls lp ra rt rs rp) := by
  intro d
  induction d with
  | zero =>
    intro k hk hq
    have e : k = 12 := by omega
    subst e
    refine ar_iload_n (i := 3) (pc := 2) dX5_isOpen_2 rfl rfl ?_
    refine ar_aload_n (i := 0) (pc := 3) dX5_isOpen_3 rfl rfl ?_
    refine ar_getf (pc := 4) dX5_isOpen_4 fX5_9 rfl rfl ?_
    refine ar_alen (pc := 7) dX5_isOpen_7 rfl ?_
    refine ar_icmp_ge (pc := 8) (tgt := 38) dX5_isOpen_8 (by decide) (fun c8 => ?_) (fun c8 => False.elim (by (simp (disch := omega) only [Int32.lt_iff_toInt_lt, Int32.le_iff_toInt_le, ← Int32.toInt_inj, ti_m6, ti_m1, ti_0, ti_1, ti_2, ti_3, ti_4, ti_5, ti_6, ti_7, ti_8, ti_9, ti_12, ti_100, ti_9999, ti_60, nI_toInt] at c8) <;> omega))
    refine ar_iconst (pc := 38) dX5_isOpen_38 q_iconst_1 ?_
    first
      | exact ar_zret (pc := 39) dX5_isOpen_39 rfl (Or.inr rfl) rfl rfl ⟨Or.inl ⟨hq, rfl⟩, rfl⟩
      | exact ar_zret (pc := 39) dX5_isOpen_39 rfl (Or.inl rfl) rfl rfl ⟨Or.inr ⟨(hq.elim), rfl⟩, rfl⟩
  | succ d ih =>
    intro k hk hq
    refine ar_iload_n (i := 3) (pc := 2) dX5_isOpen_2 rfl rfl ?_
    refine ar_aload_n (i := 0) (pc := 3) dX5_isOpen_3 rfl rfl ?_
    refine ar_getf (pc := 4) dX5_isOpen_4 fX5_9 rfl rfl ?_
    refine ar_alen (pc := 7) dX5_isOpen_7 rfl ?_
    refine ar_icmp_ge (pc := 8) (tgt := 38) dX5_isOpen_8 (by decide) (fun c8 => False.elim (by (simp (disch := omega) only [Int32.lt_iff_toInt_lt, Int32.le_iff_toInt_le, ← Int32.toInt_inj, ti_m6, ti_m1, ti_0, ti_1, ti_2, ti_3, ti_4, ti_5, ti_6, ti_7, ti_8, ti_9, ti_12, ti_100, ti_9999, ti_60, nI_toInt] at c8) <;> omega)) (fun c8 => ?_)
    refine ar_aload_n (i := 0) (pc := 11) dX5_isOpen_11 rfl rfl ?_
    refine ar_getf (pc := 12) dX5_isOpen_12 fX5_9 rfl rfl ?_
    refine ar_iload_n (i := 3) (pc := 15) dX5_isOpen_15 rfl rfl ?_
    refine ar_iald (pc := 16) dX5_isOpen_16 rfl (show k < 12 by omega) rfl ?_
    refine ar_if_le (pc := 17) (tgt := 32) dX5_isOpen_17 (by decide) (fun c17 => ?_) (fun c17 => ?_)
    · refine ar_iinc (pc := 32) dX5_isOpen_32 rfl (ni_inc _) (Nat.le_of_ble_eq_true rfl) rfl ?_
      refine ar_goto (tgt := 2) (pc := 35) dX5_isOpen_35 (by decide) ?_
      refine ih (k + 1) (by omega) fun o o1 o2 => ?_
      by_cases e : o = k
      · subst e
        first | exact Int32.not_lt.mpr c17 o2.1 | exact Int32.not_lt.mpr o2.2 c27
      · exact hq o (by omega) o2
    · refine ar_iload_n (i := 3) (pc := 20) dX5_isOpen_20 rfl rfl ?_
      refine ar_iload_n (i := 1) (pc := 21) dX5_isOpen_21 rfl rfl ?_
      refine ar_isub (pc := 22) dX5_isOpen_22 ?_
      refine ar_abs (pc := 23) dX5_isOpen_23 kX5_65 rfl rfl rfl rfl ?_
      rw [abs_dst (show k < 12 by omega) hj]
      refine ar_iload_n (i := 2) (pc := 26) dX5_isOpen_26 rfl rfl ?_
      refine ar_icmp_gt (pc := 27) (tgt := 32) dX5_isOpen_27 (by decide) (fun c27 => ?_) (fun c27 => ?_)
      · refine ar_iinc (pc := 32) dX5_isOpen_32 rfl (ni_inc _) (Nat.le_of_ble_eq_true rfl) rfl ?_
        refine ar_goto (tgt := 2) (pc := 35) dX5_isOpen_35 (by decide) ?_
        refine ih (k + 1) (by omega) fun o o1 o2 => ?_
        by_cases e : o = k
        · subst e
          first | exact Int32.not_lt.mpr c17 o2.1 | exact Int32.not_lt.mpr o2.2 c27
        · exact hq o (by omega) o2
      · refine ar_iconst (pc := 30) dX5_isOpen_30 q_iconst_0 ?_
        first
          | exact ar_zret (pc := 31) dX5_isOpen_31 rfl (Or.inr rfl) rfl rfl ⟨Or.inl ⟨(hq.elim), rfl⟩, rfl⟩
          | exact ar_zret (pc := 31) dX5_isOpen_31 rfl (Or.inl rfl) rfl rfl ⟨Or.inr ⟨(fun z => z k (by omega) ⟨Int32.not_le.mp c17, Int32.not_lt.mp c27⟩), rfl⟩, rfl⟩

set_option maxHeartbeats 4000000 in
set_option maxRecDepth 100000 in
theorem sX5_isOpen (tp : Nat → Int32) (la lt : Nat → Int32) (ls lp : Int32) (ra rt : Nat → Int32) (rs rp : Int32) {j : Nat} (hj : j < 12) (g : Int32) : am_Sp mX5_isOpen [.ref 2, .int (nI j), .int g] (vwH tp la lt ls lp ra rt rs rp) (am_bp (opP tp j g) (vwH tp la lt ls lp ra rt rs rp)) := by
  refine am_intro (by decide) (Nat.le_of_ble_eq_true rfl) ?_
  refine ar_iconst (pc := 0) dX5_isOpen_0 q_iconst_0 ?_
  refine ar_istore_n (i := 3) (pc := 1) dX5_isOpen_1 rfl (Nat.le_of_ble_eq_true rfl) rfl ?_
  exact lX5_isOpen (vwH tp la lt ls lp ra rt rs rp) tp la lt ls lp ra rt rs rp hj g 12 0 (by omega) (fun o ho => absurd ho (Nat.not_lt_zero o))

/-- the best of the pitches below k, and its crowd -/
def bop (cr : Nat → Int32) (op : Nat → Prop) [∀ k, Decidable (op k)] : Nat → Int32 × Int32
  | 0 => (-6, -1)
  | k + 1 => if (bop cr op k).2 < cr k ∧ op k then (nI k, cr k) else bop cr op k
noncomputable def bopC (cr : Nat → Int32) (op : Nat → Prop) : Nat → Int32 × Int32 := @bop cr op (fun k => Classical.propDecidable (op k))
theorem bopC_s (cr : Nat → Int32) (op : Nat → Prop) (k : Nat) (h : (bopC cr op k).2 < cr k ∧ op k) : bopC cr op (k + 1) = (nI k, cr k) := by
  show (@bop cr op (fun k => Classical.propDecidable (op k)) (k + 1)) = _
  rw [bop]
  exact if_pos h
theorem bopC_n (cr : Nat → Int32) (op : Nat → Prop) (k : Nat) (h : ¬ ((bopC cr op k).2 < cr k ∧ op k)) : bopC cr op (k + 1) = bopC cr op k := by
  show (@bop cr op (fun k => Classical.propDecidable (op k)) (k + 1)) = _
  rw [bop]
  exact if_neg h
abbrev crV (la lt : Nat → Int32) (ls : Int32) (ra rt : Nat → Int32) (rs h : Int32) : Nat → Int32 := fun k => stpV la lt ls (nI k) h + stpV ra rt rs (nI k) h
set_option maxHeartbeats 4000000 in
set_option maxRecDepth 100000 in
theorem lX5_bestOpenPitch (h0 : am_H) (tp : Nat → Int32) (la lt : Nat → Int32) (ls lp : Int32) (ra rt : Nat → Int32) (rs rp : Int32) (h g : Int32) : ∀ (d k : Nat), ∀ o6 : Option Value, k + d = 12 → am_RW mX5_bestOpenPitch h0 (am_rp (bopC (crV la lt ls ra rt rs h) (fun k => opP tp k g) 12).1 (vwH tp la lt ls lp ra rt rs rp)) 0 0 9 [some (.ref 2), some (.int h), some (.int g), some (.int (bopC (crV la lt ls ra rt rs h) (fun k => opP tp k g) k).1), some (.int (bopC (crV la lt ls ra rt rs h) (fun k => opP tp k g) k).2), some (.int (nI k)), o6] [] (vwH tp la lt ls lp ra rt rs rp) := by
  intro d
  induction d with
  | zero =>
    intro k o6 hk
    have e : k = 12 := by omega
    subst e
    refine ar_iload (pc := 9) dX5_bestOpenPitch_9 rfl ?_
    refine ar_bipush (pc := 11) dX5_bestOpenPitch_11 q_bipush_12 ?_
    refine ar_icmp_ge (pc := 13) (tgt := 55) dX5_bestOpenPitch_13 (by decide) (fun c13 => ?_) (fun c13 => False.elim (by (simp (disch := omega) only [Int32.lt_iff_toInt_lt, Int32.le_iff_toInt_le, ← Int32.toInt_inj, ti_m6, ti_m1, ti_0, ti_1, ti_2, ti_3, ti_4, ti_5, ti_6, ti_7, ti_8, ti_9, ti_12, ti_100, ti_9999, ti_60, nI_toInt] at c13) <;> omega))
    refine ar_iload_n (i := 3) (pc := 55) dX5_bestOpenPitch_55 rfl rfl ?_
    exact ar_iret (pc := 56) dX5_bestOpenPitch_56 rfl rfl rfl ⟨rfl, rfl⟩
  | succ d ih =>
    intro k o6 hk
    refine ar_iload (pc := 9) dX5_bestOpenPitch_9 rfl ?_
    refine ar_bipush (pc := 11) dX5_bestOpenPitch_11 q_bipush_12 ?_
    refine ar_icmp_ge (pc := 13) (tgt := 55) dX5_bestOpenPitch_13 (by decide) (fun c13 => False.elim (by (simp (disch := omega) only [Int32.lt_iff_toInt_lt, Int32.le_iff_toInt_le, ← Int32.toInt_inj, ti_m6, ti_m1, ti_0, ti_1, ti_2, ti_3, ti_4, ti_5, ti_6, ti_7, ti_8, ti_9, ti_12, ti_100, ti_9999, ti_60, nI_toInt] at c13) <;> omega)) (fun c13 => ?_)
    refine ar_aload_n (i := 0) (pc := 16) dX5_bestOpenPitch_16 rfl rfl ?_
    refine ar_iload (pc := 17) dX5_bestOpenPitch_17 rfl ?_
    refine ar_iload_n (i := 1) (pc := 19) dX5_bestOpenPitch_19 rfl rfl ?_
    refine ar_idV (pc := 20) dX5_bestOpenPitch_20 cal_X5_crowdAt kX5_70 rfl (sX5_crowdAt tp la lt ls lp ra rt rs rp (nI k) h) rfl rfl rfl rfl rfl rfl rfl (fun r h1 hp => ?_)
    obtain ⟨rfl, rfl⟩ := hp
    refine ⟨rfl, ?_⟩
    refine ar_topi (fun y20 e20 => ?_)
    refine ar_istore (pc := 23) dX5_bestOpenPitch_23 (Nat.le_of_ble_eq_true rfl) rfl ?_
    refine ar_iload (pc := 25) dX5_bestOpenPitch_25 rfl ?_
    refine ar_iload (pc := 27) dX5_bestOpenPitch_27 rfl ?_
    refine ar_icmp_le (pc := 29) (tgt := 49) dX5_bestOpenPitch_29 (by decide) (fun c29 => ?_) (fun c29 => ?_)
    · refine ar_iinc (pc := 49) dX5_bestOpenPitch_49 rfl (ni_inc _) (Nat.le_of_ble_eq_true rfl) rfl ?_
      refine ar_goto (tgt := 9) (pc := 52) dX5_bestOpenPitch_52 (by decide) ?_
      have ih' := ih (k + 1) (some (.int y20)) (by omega)
      first
        | (have hc : (bopC (crV la lt ls ra rt rs h) (fun k => opP tp k g) k).2 < crV la lt ls ra rt rs h k := by
             show _ < stpV la lt ls (nI k) h + stpV ra rt rs (nI k) h
             rw [← e20]; exact Int32.not_le.mp c29
           have hy : y20 = crV la lt ls ra rt rs h k := e20
           rw [bopC_s (crV la lt ls ra rt rs h) (fun k => opP tp k g) k ⟨hc, h36⟩, ← hy] at ih'; exact ih')
        | (rw [bopC_n (crV la lt ls ra rt rs h) (fun k => opP tp k g) k (fun z => h36 z.2)] at ih'; exact ih')
        | (have hc : ¬ (bopC (crV la lt ls ra rt rs h) (fun k => opP tp k g) k).2 < crV la lt ls ra rt rs h k := by
             show ¬ _ < stpV la lt ls (nI k) h + stpV ra rt rs (nI k) h
             rw [← e20]; exact Int32.not_lt.mpr c29
           rw [bopC_n (crV la lt ls ra rt rs h) (fun k => opP tp k g) k (fun z => hc z.1)] at ih'; exact ih')
    · refine ar_aload_n (i := 0) (pc := 32) dX5_bestOpenPitch_32 rfl rfl ?_
      refine ar_iload (pc := 33) dX5_bestOpenPitch_33 rfl ?_
      refine ar_iload_n (i := 2) (pc := 35) dX5_bestOpenPitch_35 rfl rfl ?_
      refine ar_idV (pc := 36) dX5_bestOpenPitch_36 cal_X5_isOpen kX5_73 rfl (sX5_isOpen tp la lt ls lp ra rt rs rp (show k < 12 by omega) g) rfl rfl rfl rfl rfl rfl rfl (fun r h1 hp => ?_)
      obtain ⟨⟨h36, rfl⟩ | ⟨h36, rfl⟩, rfl⟩ := hp
      · refine ⟨rfl, ?_⟩
        refine ar_if_eq (pc := 39) (tgt := 49) dX5_bestOpenPitch_39 (by decide) (fun c39 => absurd c39 (by decide)) (fun c39 => ?_)
        refine ar_iload (pc := 42) dX5_bestOpenPitch_42 rfl ?_
        refine ar_istore_n (i := 3) (pc := 44) dX5_bestOpenPitch_44 rfl (Nat.le_of_ble_eq_true rfl) rfl ?_
        refine ar_iload (pc := 45) dX5_bestOpenPitch_45 rfl ?_
        refine ar_istore (pc := 47) dX5_bestOpenPitch_47 (Nat.le_of_ble_eq_true rfl) rfl ?_
        refine ar_iinc (pc := 49) dX5_bestOpenPitch_49 rfl (ni_inc _) (Nat.le_of_ble_eq_true rfl) rfl ?_
        refine ar_goto (tgt := 9) (pc := 52) dX5_bestOpenPitch_52 (by decide) ?_
        have ih' := ih (k + 1) (some (.int y20)) (by omega)
        first
          | (have hc : (bopC (crV la lt ls ra rt rs h) (fun k => opP tp k g) k).2 < crV la lt ls ra rt rs h k := by
               show _ < stpV la lt ls (nI k) h + stpV ra rt rs (nI k) h
               rw [← e20]; exact Int32.not_le.mp c29
             have hy : y20 = crV la lt ls ra rt rs h k := e20
             rw [bopC_s (crV la lt ls ra rt rs h) (fun k => opP tp k g) k ⟨hc, h36⟩, ← hy] at ih'; exact ih')
          | (rw [bopC_n (crV la lt ls ra rt rs h) (fun k => opP tp k g) k (fun z => h36 z.2)] at ih'; exact ih')
          | (have hc : ¬ (bopC (crV la lt ls ra rt rs h) (fun k => opP tp k g) k).2 < crV la lt ls ra rt rs h k := by
               show ¬ _ < stpV la lt ls (nI k) h + stpV ra rt rs (nI k) h
               rw [← e20]; exact Int32.not_lt.mpr c29
             rw [bopC_n (crV la lt ls ra rt rs h) (fun k => opP tp k g) k (fun z => hc z.1)] at ih'; exact ih')
      · refine ⟨rfl, ?_⟩
        refine ar_if_eq (pc := 39) (tgt := 49) dX5_bestOpenPitch_39 (by decide) (fun c39 => ?_) (fun c39 => absurd c39 (by decide))
        refine ar_iinc (pc := 49) dX5_bestOpenPitch_49 rfl (ni_inc _) (Nat.le_of_ble_eq_true rfl) rfl ?_
        refine ar_goto (tgt := 9) (pc := 52) dX5_bestOpenPitch_52 (by decide) ?_
        have ih' := ih (k + 1) (some (.int y20)) (by omega)
        first
          | (have hc : (bopC (crV la lt ls ra rt rs h) (fun k => opP tp k g) k).2 < crV la lt ls ra rt rs h k := by
               show _ < stpV la lt ls (nI k) h + stpV ra rt rs (nI k) h
               rw [← e20]; exact Int32.not_le.mp c29
             have hy : y20 = crV la lt ls ra rt rs h k := e20
             rw [bopC_s (crV la lt ls ra rt rs h) (fun k => opP tp k g) k ⟨hc, h36⟩, ← hy] at ih'; exact ih')
          | (rw [bopC_n (crV la lt ls ra rt rs h) (fun k => opP tp k g) k (fun z => h36 z.2)] at ih'; exact ih')
          | (have hc : ¬ (bopC (crV la lt ls ra rt rs h) (fun k => opP tp k g) k).2 < crV la lt ls ra rt rs h k := by
               show ¬ _ < stpV la lt ls (nI k) h + stpV ra rt rs (nI k) h
               rw [← e20]; exact Int32.not_lt.mpr c29
             rw [bopC_n (crV la lt ls ra rt rs h) (fun k => opP tp k g) k (fun z => hc z.1)] at ih'; exact ih')

set_option maxHeartbeats 4000000 in
set_option maxRecDepth 100000 in
theorem sX5_bestOpenPitch (tp : Nat → Int32) (la lt : Nat → Int32) (ls lp : Int32) (ra rt : Nat → Int32) (rs rp : Int32) (h g : Int32) : am_Sp mX5_bestOpenPitch [.ref 2, .int h, .int g] (vwH tp la lt ls lp ra rt rs rp) (am_rp (bopC (crV la lt ls ra rt rs h) (fun k => opP tp k g) 12).1 (vwH tp la lt ls lp ra rt rs rp)) := by
  refine am_intro (by decide) (Nat.le_of_ble_eq_true rfl) ?_
  refine ar_bipush (pc := 0) dX5_bestOpenPitch_0 q_bipush_m6 ?_
  refine ar_istore_n (i := 3) (pc := 2) dX5_bestOpenPitch_2 rfl (Nat.le_of_ble_eq_true rfl) rfl ?_
  refine ar_iconst (pc := 3) dX5_bestOpenPitch_3 q_iconst_m1 ?_
  refine ar_istore (pc := 4) dX5_bestOpenPitch_4 (Nat.le_of_ble_eq_true rfl) rfl ?_
  refine ar_iconst (pc := 6) dX5_bestOpenPitch_6 q_iconst_0 ?_
  refine ar_istore (pc := 7) dX5_bestOpenPitch_7 (Nat.le_of_ble_eq_true rfl) rfl ?_
  exact lX5_bestOpenPitch (vwH tp la lt ls lp ra rt rs rp) tp la lt ls lp ra rt rs rp h g 12 0 none (by omega)
end
section
/-! View beside a State: the people pass, a look -/
/-- a View and a State side by side -/
def vsH (tp : Nat → Int32) (la lt : Nat → Int32) (ls lp : Int32) (ra rt : Nat → Int32) (rs rp : Int32) (v : SV) : am_H := none :: none :: (vwB 2 tp la lt ls lp ra rt rs rp ++ stB 10 v)
/-- the same, the streams as people pass the tops: a from the left, b from the right, s of hundred stop -/
abbrev vsP (tp : Nat → Int32) (a b s : Int32) (v : SV) : am_H := vsH tp (arF 1 tp a s) (taF 1 tp a s) s (paF 1 tp a s) (arF 0 tp b s) (taF 0 tp b s) s (paF 0 tp b s) v
abbrev vsS (tp : Nat → Int32) (v : SV) : am_H := vsP tp (vS v 0) (vS v 1) (vS v 2) v
theorem okst : am_okmu [0, 1, 10, 11, 12, 13, 14, 15, 16, 17] [none, none, some true, some true, some true, some true, some true, some true, some true, some true] = true := by decide +kernel
theorem okvw : am_okmu [0, 1, 2, 3, 4, 5, 6, 7, 8, 9] [none, none, some true, some true, some true, some true, some true, some true, some true, some true] = true := by decide +kernel
theorem okwL : am_okmu [0, 1, 4, 5, 6, 3] [none, none, some true, some true, some true, some true] = true := by decide +kernel
theorem okwR : am_okmu [0, 1, 7, 8, 9, 3] [none, none, some true, some true, some true, some true] = true := by decide +kernel
theorem mrgS (w : SV) (tp : Nat → Int32) (la lt : Nat → Int32) (ls lp : Int32) (ra rt : Nat → Int32) (rs rp : Int32) (v : SV) : am_mrg (am_mu [0, 1, 10, 11, 12, 13, 14, 15, 16, 17]) 0 (stH w) (vsH tp la lt ls lp ra rt rs rp v) = vsH tp la lt ls lp ra rt rs rp w := rfl
theorem mrgV (t2 : Nat → Int32) (la2 lt2 : Nat → Int32) (ls2 lp2 : Int32) (ra2 rt2 : Nat → Int32) (rs2 rp2 : Int32) (tp : Nat → Int32) (la lt : Nat → Int32) (ls lp : Int32) (ra rt : Nat → Int32) (rs rp : Int32) (v : SV) : am_mrg (am_mu [0, 1, 2, 3, 4, 5, 6, 7, 8, 9]) 0 (vwH t2 la2 lt2 ls2 lp2 ra2 rt2 rs2 rp2) (vsH tp la lt ls lp ra rt rs rp v) = vsH t2 la2 lt2 ls2 lp2 ra2 rt2 rs2 rp2 v := rfl
theorem mrgL (a b : Nat → Int32) (c d : Int32) (tp : Nat → Int32) (la lt : Nat → Int32) (ls lp : Int32) (ra rt : Nat → Int32) (rs rp : Int32) (v : SV) : am_mrg (am_mu [0, 1, 4, 5, 6, 3]) 0 (wkH 1 a b c d tp) (vsH tp la lt ls lp ra rt rs rp v) = vsH tp a b c d ra rt rs rp v := rfl
theorem mrgR (a b : Nat → Int32) (c d : Int32) (tp : Nat → Int32) (la lt : Nat → Int32) (ls lp : Int32) (ra rt : Nat → Int32) (rs rp : Int32) (v : SV) : am_mrg (am_mu [0, 1, 7, 8, 9, 3]) 0 (wkH 0 a b c d tp) (vsH tp la lt ls lp ra rt rs rp v) = vsH tp la lt ls lp a b c d v := rfl
set_option maxHeartbeats 4000000 in
set_option maxRecDepth 100000 in
theorem sX5_letPeoplePass (tp : Nat → Int32) (la lt : Nat → Int32) (ls lp : Int32) (ra rt : Nat → Int32) (rs rp : Int32) (v : SV) : am_Sp mX5_letPeoplePass [.ref 2, .ref 10] (vsH tp la lt ls lp ra rt rs rp v) (am_vp (vsS tp v)) := by
  refine am_intro (by decide) (Nat.le_of_ble_eq_true rfl) ?_
  refine ar_aload_n (i := 0) (pc := 0) dX5_letPeoplePass_0 rfl rfl ?_
  refine ar_getf (pc := 1) dX5_letPeoplePass_1 fX5_20 rfl rfl ?_
  refine ar_aload_n (i := 0) (pc := 4) dX5_letPeoplePass_4 rfl rfl ?_
  refine ar_getf (pc := 5) dX5_letPeoplePass_5 fX5_9 rfl rfl ?_
  refine ar_aload_n (i := 1) (pc := 8) dX5_letPeoplePass_8 rfl rfl ?_
  refine ar_iconst (pc := 9) dX5_letPeoplePass_9 q_iconst_0 ?_
  refine ar_mc (pc := 10) (l := [0, 1, 10, 11, 12, 13, 14, 15, 16, 17]) (ar_rV dX5_letPeoplePass_10 cal_X3_setting kX5_53 rfl (sX3_setting v (k := 0) (by decide)) rfl rfl rfl rfl rfl okst rfl rfl) okst rfl rfl rfl rfl (fun r h1 hp => ?_)
  obtain ⟨rfl, rfl⟩ := hp
  refine ⟨rfl, ?_⟩
  rw [mrgS]
  refine ar_aload_n (i := 1) (pc := 13) dX5_letPeoplePass_13 rfl rfl ?_
  refine ar_iconst (pc := 14) dX5_letPeoplePass_14 q_iconst_2 ?_
  refine ar_mc (pc := 15) (l := [0, 1, 10, 11, 12, 13, 14, 15, 16, 17]) (ar_rV dX5_letPeoplePass_15 cal_X3_setting kX5_53 rfl (sX3_setting v (k := 2) (by decide)) rfl rfl rfl rfl rfl okst rfl rfl) okst rfl rfl rfl rfl (fun r h1 hp => ?_)
  obtain ⟨rfl, rfl⟩ := hp
  refine ⟨rfl, ?_⟩
  rw [mrgS]
  refine ar_mc (pc := 18) (l := [0, 1, 4, 5, 6, 3]) (ar_rV dX5_letPeoplePass_18 cal_X4_walk kX5_57 rfl (sX4_walk 1 _ _ _ _ tp (vS v 0) (vS v 2)) rfl rfl rfl rfl rfl okwL rfl rfl) okwL rfl rfl rfl rfl (fun r h1 hp => ?_)
  obtain ⟨rfl, rfl⟩ := hp
  refine ⟨rfl, ?_⟩
  rw [mrgL]
  refine ar_aload_n (i := 0) (pc := 21) dX5_letPeoplePass_21 rfl rfl ?_
  refine ar_getf (pc := 22) dX5_letPeoplePass_22 fX5_24 rfl rfl ?_
  refine ar_aload_n (i := 0) (pc := 25) dX5_letPeoplePass_25 rfl rfl ?_
  refine ar_getf (pc := 26) dX5_letPeoplePass_26 fX5_9 rfl rfl ?_
  refine ar_aload_n (i := 1) (pc := 29) dX5_letPeoplePass_29 rfl rfl ?_
  refine ar_iconst (pc := 30) dX5_letPeoplePass_30 q_iconst_1 ?_
  refine ar_mc (pc := 31) (l := [0, 1, 10, 11, 12, 13, 14, 15, 16, 17]) (ar_rV dX5_letPeoplePass_31 cal_X3_setting kX5_53 rfl (sX3_setting v (k := 1) (by decide)) rfl rfl rfl rfl rfl okst rfl rfl) okst rfl rfl rfl rfl (fun r h1 hp => ?_)
  obtain ⟨rfl, rfl⟩ := hp
  refine ⟨rfl, ?_⟩
  rw [mrgS]
  refine ar_aload_n (i := 1) (pc := 34) dX5_letPeoplePass_34 rfl rfl ?_
  refine ar_iconst (pc := 35) dX5_letPeoplePass_35 q_iconst_2 ?_
  refine ar_mc (pc := 36) (l := [0, 1, 10, 11, 12, 13, 14, 15, 16, 17]) (ar_rV dX5_letPeoplePass_36 cal_X3_setting kX5_53 rfl (sX3_setting v (k := 2) (by decide)) rfl rfl rfl rfl rfl okst rfl rfl) okst rfl rfl rfl rfl (fun r h1 hp => ?_)
  obtain ⟨rfl, rfl⟩ := hp
  refine ⟨rfl, ?_⟩
  rw [mrgS]
  refine ar_mc (pc := 39) (l := [0, 1, 7, 8, 9, 3]) (ar_rV dX5_letPeoplePass_39 cal_X4_walk kX5_57 rfl (sX4_walk 0 _ _ _ _ tp (vS v 1) (vS v 2)) rfl rfl rfl rfl rfl okwR rfl rfl) okwR rfl rfl rfl rfl (fun r h1 hp => ?_)
  obtain ⟨rfl, rfl⟩ := hp
  refine ⟨rfl, ?_⟩
  rw [mrgR]
  exact ar_vret (pc := 42) dX5_letPeoplePass_42 rfl rfl rfl ⟨rfl, rfl⟩

/-- the tops as a look finds them, without the booth w -/
def lkT (v : SV) (n : Nat) (w : Int32) : Nat → Nat → Int32
  | 0 => fun _ => 0
  | k + 1 => if ¬ nI k = w ∧ stP v n k then rsT (lkT v n w k) (vP v k) (vH v k) else lkT v n w k
set_option maxHeartbeats 4000000 in
set_option maxRecDepth 100000 in
theorem lX5_look (h0 : am_H) (v : SV) (n : Nat) (hn : vBo v = nI n) (h8 : n ≤ 8) (la lt : Nat → Int32) (ls lp : Int32) (ra rt : Nat → Int32) (rs rp : Int32) (w : Int32) : ∀ (d k : Nat), k + d = 8 → am_RW mX5_look h0 (am_vp (vsS (lkT v n w 8) v)) 0 0 6 [some (.ref 2), some (.ref 10), some (.int w), some (.int (nI k))] [] (vsH (lkT v n w k) la lt ls lp ra rt rs rp v) := by
  intro d
  induction d with
  | zero =>
    intro k hk
    have e : k = 8 := by omega
    subst e
    refine ar_iload_n (i := 3) (pc := 6) dX5_look_6 rfl rfl ?_
    refine ar_bipush (pc := 7) dX5_look_7 q_bipush_8 ?_
    refine ar_icmp_ge (pc := 9) (tgt := 47) dX5_look_9 (by decide) (fun c9 => ?_) (fun c9 => False.elim (by (simp (disch := omega) only [Int32.lt_iff_toInt_lt, Int32.le_iff_toInt_le, ← Int32.toInt_inj, ti_m6, ti_m1, ti_0, ti_1, ti_2, ti_3, ti_4, ti_5, ti_6, ti_7, ti_8, ti_9, ti_12, ti_100, ti_9999, ti_60, nI_toInt] at c9) <;> omega))
    refine ar_aload_n (i := 0) (pc := 47) dX5_look_47 rfl rfl ?_
    refine ar_aload_n (i := 1) (pc := 48) dX5_look_48 rfl rfl ?_
    refine ar_idV (pc := 49) dX5_look_49 cal_X5_letPeoplePass kX5_46 rfl (sX5_letPeoplePass (lkT v n w 8) la lt ls lp ra rt rs rp v) rfl rfl rfl rfl rfl rfl rfl (fun r h1 hp => ?_)
    obtain ⟨rfl, rfl⟩ := hp
    refine ⟨rfl, ?_⟩
    exact ar_vret (pc := 52) dX5_look_52 rfl rfl rfl ⟨rfl, rfl⟩
  | succ d ih =>
    intro k hk
    refine ar_iload_n (i := 3) (pc := 6) dX5_look_6 rfl rfl ?_
    refine ar_bipush (pc := 7) dX5_look_7 q_bipush_8 ?_
    refine ar_icmp_ge (pc := 9) (tgt := 47) dX5_look_9 (by decide) (fun c9 => False.elim (by (simp (disch := omega) only [Int32.lt_iff_toInt_lt, Int32.le_iff_toInt_le, ← Int32.toInt_inj, ti_m6, ti_m1, ti_0, ti_1, ti_2, ti_3, ti_4, ti_5, ti_6, ti_7, ti_8, ti_9, ti_12, ti_100, ti_9999, ti_60, nI_toInt] at c9) <;> omega)) (fun c9 => ?_)
    refine ar_iload_n (i := 3) (pc := 12) dX5_look_12 rfl rfl ?_
    refine ar_iload_n (i := 2) (pc := 13) dX5_look_13 rfl rfl ?_
    refine ar_icmp_eq (pc := 14) (tgt := 41) dX5_look_14 (by decide) (fun c14 => ?_) (fun c14 => ?_)
    · refine ar_iinc (pc := 41) dX5_look_41 rfl (ni_inc _) (Nat.le_of_ble_eq_true rfl) rfl ?_
      refine ar_goto (tgt := 6) (pc := 44) dX5_look_44 (by decide) ?_
      have ih' := ih (k + 1) (by omega)
      rw [show lkT v n w (k + 1) = lkT v n w k by rw [lkT, if_neg (fun z => z.1 c14)]] at ih'
      exact ih'
    · refine ar_aload_n (i := 1) (pc := 17) dX5_look_17 rfl rfl ?_
      refine ar_iload_n (i := 3) (pc := 18) dX5_look_18 rfl rfl ?_
      refine ar_mc (pc := 19) (l := [0, 1, 10, 11, 12, 13, 14, 15, 16, 17]) (ar_rV dX5_look_19 cal_X3_isStanding kX5_30 rfl (sX3_isStanding v n hn h8 (show k < 8 by omega)) rfl rfl rfl rfl rfl okst rfl rfl) okst rfl rfl rfl rfl (fun r h1 hp => ?_)
      obtain ⟨⟨h19, rfl⟩ | ⟨h19, rfl⟩, rfl⟩ := hp
      · refine ⟨rfl, ?_⟩
        rw [mrgS]
        refine ar_if_eq (pc := 22) (tgt := 41) dX5_look_22 (by decide) (fun c22 => absurd c22 (by decide)) (fun c22 => ?_)
        refine ar_aload_n (i := 0) (pc := 25) dX5_look_25 rfl rfl ?_
        refine ar_aload_n (i := 1) (pc := 26) dX5_look_26 rfl rfl ?_
        refine ar_getf (pc := 27) dX5_look_27 fX5_36 rfl rfl ?_
        refine ar_iload_n (i := 3) (pc := 30) dX5_look_30 rfl rfl ?_
        refine ar_iald (pc := 31) dX5_look_31 rfl (show k < 8 by omega) rfl ?_
        refine ar_aload_n (i := 1) (pc := 32) dX5_look_32 rfl rfl ?_
        refine ar_getf (pc := 33) dX5_look_33 fX5_39 rfl rfl ?_
        refine ar_iload_n (i := 3) (pc := 36) dX5_look_36 rfl rfl ?_
        refine ar_iald (pc := 37) dX5_look_37 rfl (show k < 8 by omega) rfl ?_
        refine ar_mc (pc := 38) (l := [0, 1, 2, 3, 4, 5, 6, 7, 8, 9]) (ar_rV dX5_look_38 cal_X5_raise kX5_42 rfl (sX5_raise (lkT v n w k) la lt ls lp ra rt rs rp (vP v k) (vH v k)) rfl rfl rfl rfl rfl okvw rfl rfl) okvw rfl rfl rfl rfl (fun r h1 hp => ?_)
        obtain ⟨rfl, rfl⟩ := hp
        refine ⟨rfl, ?_⟩
        rw [mrgV]
        refine ar_iinc (pc := 41) dX5_look_41 rfl (ni_inc _) (Nat.le_of_ble_eq_true rfl) rfl ?_
        refine ar_goto (tgt := 6) (pc := 44) dX5_look_44 (by decide) ?_
        have ih' := ih (k + 1) (by omega)
        rw [show lkT v n w (k + 1) = rsT (lkT v n w k) (vP v k) (vH v k) by rw [lkT, if_pos ⟨c14, h19⟩]] at ih'
        exact ih'
      · refine ⟨rfl, ?_⟩
        rw [mrgS]
        refine ar_if_eq (pc := 22) (tgt := 41) dX5_look_22 (by decide) (fun c22 => ?_) (fun c22 => absurd c22 (by decide))
        refine ar_iinc (pc := 41) dX5_look_41 rfl (ni_inc _) (Nat.le_of_ble_eq_true rfl) rfl ?_
        refine ar_goto (tgt := 6) (pc := 44) dX5_look_44 (by decide) ?_
        have ih' := ih (k + 1) (by omega)
        rw [show lkT v n w (k + 1) = lkT v n w k by rw [lkT, if_neg (fun z => h19 z.2)]] at ih'
        exact ih'

set_option maxHeartbeats 4000000 in
set_option maxRecDepth 100000 in
theorem sX5_look (tp : Nat → Int32) (la lt : Nat → Int32) (ls lp : Int32) (ra rt : Nat → Int32) (rs rp : Int32) (v : SV) (n : Nat) (hn : vBo v = nI n) (h8 : n ≤ 8) (w : Int32) : am_Sp mX5_look [.ref 2, .ref 10, .int w] (vsH tp la lt ls lp ra rt rs rp v) (am_vp (vsS (lkT v n w 8) v)) := by
  refine am_intro (by decide) (Nat.le_of_ble_eq_true rfl) ?_
  refine ar_aload_n (i := 0) (pc := 0) dX5_look_0 rfl rfl ?_
  refine ar_mc (pc := 1) (l := [0, 1, 2, 3, 4, 5, 6, 7, 8, 9]) (ar_rV dX5_look_1 cal_X5_clear kX5_27 rfl (sX5_clear tp la lt ls lp ra rt rs rp) rfl rfl rfl rfl rfl okvw rfl rfl) okvw rfl rfl rfl rfl (fun r h1 hp => ?_)
  obtain ⟨rfl, rfl⟩ := hp
  refine ⟨rfl, ?_⟩
  rw [mrgV]
  refine ar_iconst (pc := 4) dX5_look_4 q_iconst_0 ?_
  refine ar_istore_n (i := 3) (pc := 5) dX5_look_5 rfl (Nat.le_of_ble_eq_true rfl) rfl ?_
  exact lX5_look (vsH tp la lt ls lp ra rt rs rp v) v n hn h8 la lt ls lp ra rt rs rp w 8 0 (by omega)
end
section
/-! the class Day -/
theorem vs_S (tp : Nat → Int32) (la lt : Nat → Int32) (ls lp : Int32) (ra rt : Nat → Int32) (rs rp : Int32) (v : SV) (f : Nat → Int32) : (vsH tp la lt ls lp ra rt rs rp v).set 11 (some (am_ia 6 f)) = vsH tp la lt ls lp ra rt rs rp (uS v f) := by simp only [vsH, vwB, smB, List.cons_append, List.nil_append, stB, stO, am_oj, List.set_cons_succ, List.set_cons_zero, uS, uX, uRo, uDa, uRa, uTa, uBo, uH, uP, uT, uF, uI, uL, vS, vX, vRo, vDa, vRa, vTa, vBo, vH, vP, vT, vF, vI, vL]
theorem vs_H (tp : Nat → Int32) (la lt : Nat → Int32) (ls lp : Int32) (ra rt : Nat → Int32) (rs rp : Int32) (v : SV) (f : Nat → Int32) : (vsH tp la lt ls lp ra rt rs rp v).set 12 (some (am_ia 8 f)) = vsH tp la lt ls lp ra rt rs rp (uH v f) := by simp only [vsH, vwB, smB, List.cons_append, List.nil_append, stB, stO, am_oj, List.set_cons_succ, List.set_cons_zero, uS, uX, uRo, uDa, uRa, uTa, uBo, uH, uP, uT, uF, uI, uL, vS, vX, vRo, vDa, vRa, vTa, vBo, vH, vP, vT, vF, vI, vL]
theorem vs_P (tp : Nat → Int32) (la lt : Nat → Int32) (ls lp : Int32) (ra rt : Nat → Int32) (rs rp : Int32) (v : SV) (f : Nat → Int32) : (vsH tp la lt ls lp ra rt rs rp v).set 13 (some (am_ia 8 f)) = vsH tp la lt ls lp ra rt rs rp (uP v f) := by simp only [vsH, vwB, smB, List.cons_append, List.nil_append, stB, stO, am_oj, List.set_cons_succ, List.set_cons_zero, uS, uX, uRo, uDa, uRa, uTa, uBo, uH, uP, uT, uF, uI, uL, vS, vX, vRo, vDa, vRa, vTa, vBo, vH, vP, vT, vF, vI, vL]
theorem vs_T (tp : Nat → Int32) (la lt : Nat → Int32) (ls lp : Int32) (ra rt : Nat → Int32) (rs rp : Int32) (v : SV) (f : Nat → Int32) : (vsH tp la lt ls lp ra rt rs rp v).set 14 (some (am_ia 8 f)) = vsH tp la lt ls lp ra rt rs rp (uT v f) := by simp only [vsH, vwB, smB, List.cons_append, List.nil_append, stB, stO, am_oj, List.set_cons_succ, List.set_cons_zero, uS, uX, uRo, uDa, uRa, uTa, uBo, uH, uP, uT, uF, uI, uL, vS, vX, vRo, vDa, vRa, vTa, vBo, vH, vP, vT, vF, vI, vL]
theorem vs_F (tp : Nat → Int32) (la lt : Nat → Int32) (ls lp : Int32) (ra rt : Nat → Int32) (rs rp : Int32) (v : SV) (f : Nat → Int32) : (vsH tp la lt ls lp ra rt rs rp v).set 15 (some (am_ia 8 f)) = vsH tp la lt ls lp ra rt rs rp (uF v f) := by simp only [vsH, vwB, smB, List.cons_append, List.nil_append, stB, stO, am_oj, List.set_cons_succ, List.set_cons_zero, uS, uX, uRo, uDa, uRa, uTa, uBo, uH, uP, uT, uF, uI, uL, vS, vX, vRo, vDa, vRa, vTa, vBo, vH, vP, vT, vF, vI, vL]
theorem vs_I (tp : Nat → Int32) (la lt : Nat → Int32) (ls lp : Int32) (ra rt : Nat → Int32) (rs rp : Int32) (v : SV) (f : Nat → Int32) : (vsH tp la lt ls lp ra rt rs rp v).set 16 (some (am_ia 8 f)) = vsH tp la lt ls lp ra rt rs rp (uI v f) := by simp only [vsH, vwB, smB, List.cons_append, List.nil_append, stB, stO, am_oj, List.set_cons_succ, List.set_cons_zero, uS, uX, uRo, uDa, uRa, uTa, uBo, uH, uP, uT, uF, uI, uL, vS, vX, vRo, vDa, vRa, vTa, vBo, vH, vP, vT, vF, vI, vL]
theorem vs_L (tp : Nat → Int32) (la lt : Nat → Int32) (ls lp : Int32) (ra rt : Nat → Int32) (rs rp : Int32) (v : SV) (f : Nat → Int32) : (vsH tp la lt ls lp ra rt rs rp v).set 17 (some (am_ia 8 f)) = vsH tp la lt ls lp ra rt rs rp (uL v f) := by simp only [vsH, vwB, smB, List.cons_append, List.nil_append, stB, stO, am_oj, List.set_cons_succ, List.set_cons_zero, uS, uX, uRo, uDa, uRa, uTa, uBo, uH, uP, uT, uF, uI, uL, vS, vX, vRo, vDa, vRa, vTa, vBo, vH, vP, vT, vF, vI, vL]
theorem vs_X (tp : Nat → Int32) (la lt : Nat → Int32) (ls lp : Int32) (ra rt : Nat → Int32) (rs rp : Int32) (v : SV) (a : Int64) : (vsH tp la lt ls lp ra rt rs rp v).set 10 (some (.inl (2, ([.ref 11, .long (vX v), .int (vRo v), .int (vDa v), .int (vRa v), .int (vTa v), .int (vBo v), .ref 12, .ref 13, .ref 14, .ref 15, .ref 16, .ref 17] : List Value).set 1 (.long a)))) = vsH tp la lt ls lp ra rt rs rp (uX v a) := by simp only [vsH, vwB, smB, List.cons_append, List.nil_append, stB, stO, am_oj, List.set_cons_succ, List.set_cons_zero, uS, uX, uRo, uDa, uRa, uTa, uBo, uH, uP, uT, uF, uI, uL, vS, vX, vRo, vDa, vRa, vTa, vBo, vH, vP, vT, vF, vI, vL]
theorem vs_Da (tp : Nat → Int32) (la lt : Nat → Int32) (ls lp : Int32) (ra rt : Nat → Int32) (rs rp : Int32) (v : SV) (a : Int32) : (vsH tp la lt ls lp ra rt rs rp v).set 10 (some (.inl (2, ([.ref 11, .long (vX v), .int (vRo v), .int (vDa v), .int (vRa v), .int (vTa v), .int (vBo v), .ref 12, .ref 13, .ref 14, .ref 15, .ref 16, .ref 17] : List Value).set 3 (.int a)))) = vsH tp la lt ls lp ra rt rs rp (uDa v a) := by simp only [vsH, vwB, smB, List.cons_append, List.nil_append, stB, stO, am_oj, List.set_cons_succ, List.set_cons_zero, uS, uX, uRo, uDa, uRa, uTa, uBo, uH, uP, uT, uF, uI, uL, vS, vX, vRo, vDa, vRa, vTa, vBo, vH, vP, vT, vF, vI, vL]
theorem vs_Ra (tp : Nat → Int32) (la lt : Nat → Int32) (ls lp : Int32) (ra rt : Nat → Int32) (rs rp : Int32) (v : SV) (a : Int32) : (vsH tp la lt ls lp ra rt rs rp v).set 10 (some (.inl (2, ([.ref 11, .long (vX v), .int (vRo v), .int (vDa v), .int (vRa v), .int (vTa v), .int (vBo v), .ref 12, .ref 13, .ref 14, .ref 15, .ref 16, .ref 17] : List Value).set 4 (.int a)))) = vsH tp la lt ls lp ra rt rs rp (uRa v a) := by simp only [vsH, vwB, smB, List.cons_append, List.nil_append, stB, stO, am_oj, List.set_cons_succ, List.set_cons_zero, uS, uX, uRo, uDa, uRa, uTa, uBo, uH, uP, uT, uF, uI, uL, vS, vX, vRo, vDa, vRa, vTa, vBo, vH, vP, vT, vF, vI, vL]
theorem vs_Ta (tp : Nat → Int32) (la lt : Nat → Int32) (ls lp : Int32) (ra rt : Nat → Int32) (rs rp : Int32) (v : SV) (a : Int32) : (vsH tp la lt ls lp ra rt rs rp v).set 10 (some (.inl (2, ([.ref 11, .long (vX v), .int (vRo v), .int (vDa v), .int (vRa v), .int (vTa v), .int (vBo v), .ref 12, .ref 13, .ref 14, .ref 15, .ref 16, .ref 17] : List Value).set 5 (.int a)))) = vsH tp la lt ls lp ra rt rs rp (uTa v a) := by simp only [vsH, vwB, smB, List.cons_append, List.nil_append, stB, stO, am_oj, List.set_cons_succ, List.set_cons_zero, uS, uX, uRo, uDa, uRa, uTa, uBo, uH, uP, uT, uF, uI, uL, vS, vX, vRo, vDa, vRa, vTa, vBo, vH, vP, vT, vF, vI, vL]
def filI (n : Nat) : Nat → Int32 := fun k => if k < n then nI k else -6
def swp (f : Nat → Int32) (i j : Nat) : Nat → Int32 := upd (upd f i (f j)) j (f i)
abbrev in8 (o : Int32) : Prop := 0 ≤ o.toInt ∧ o.toInt < 8
def dsw (p : Nat) (o : Int32) (f : Nat → Int32) : Nat → Int32 := if in8 o then swp f (p + 1) (ix o) else f
theorem dsw_y {p : Nat} {o : Int32} {f : Nat → Int32} (h : in8 o) : dsw p o f = swp f (p + 1) (ix o) := by rw [dsw, if_pos h]
theorem dsw_n {p : Nat} {o : Int32} {f : Nat → Int32} (h : ¬ in8 o) : dsw p o f = f := by rw [dsw, if_neg h]
def dstep (p : Nat) (r : Int64 → (Nat → Int32) → Int64 × (Nat → Int32)) (x : Int64) (f : Nat → Int32) : Int64 × (Nat → Int32) := r (lcg x) (dsw p (drw x (p + 1 + 1)) f)
/-- the lots from the place p down to 1 -/
noncomputable def dlots (p : Nat) : Int64 → (Nat → Int32) → Int64 × (Nat → Int32) := Nat.rec (fun x f => (x, f)) dstep p
theorem dlots_0 (x : Int64) (f : Nat → Int32) : dlots 0 x f = (x, f) := rfl
theorem dlots_f (p : Nat) : dlots (p + 1) = dstep p (dlots p) := rfl
theorem dstep_e (p : Nat) (r : Int64 → (Nat → Int32) → Int64 × (Nat → Int32)) (x : Int64) (f : Nat → Int32) : dstep p r x f = r (lcg x) (dsw p (drw x (p + 1 + 1)) f) := rfl
theorem dlots_s (p : Nat) (x : Int64) (f : Nat → Int32) : dlots (p + 1) x f = dlots p (lcg x) (dsw p (drw x (p + 1 + 1)) f) := by rw [dlots_f, dstep_e]
def fin1 (n : Nat) (w : SV) : SV := uF w (if bkP n (vL w 0) then upd (vF w) (ix (vL w 0)) (vF w (ix (vL w 0)) + 1) else vF w)
noncomputable def dlV (v : SV) (n : Nat) : SV := fin1 n (uL (uX v (dlots (n - 1) (vX v) (filI n)).1) (dlots (n - 1) (vX v) (filI n)).2)
theorem uXuL (v : SV) (x y : Int64) (f : Nat → Int32) : uX (uL (uX v x) f) y = uL (uX v y) f := rfl
theorem vX_uL (v : SV) (x : Int64) (f : Nat → Int32) : vX (uL (uX v x) f) = x := rfl
theorem dlots_y {x : Int64} {f : Nat → Int32} {p : Nat} {o : Int32} (eo : o = drw x (p + 1 + 1)) (h : in8 o) : dlots (p + 1) x f = dlots p (lcg x) (swp f (p + 1) (ix o)) := by
  subst eo
  rw [dlots_s, dsw_y h]
theorem dlots_n {x : Int64} {f : Nat → Int32} {p : Nat} {o : Int32} (eo : o = drw x (p + 1 + 1)) (h : ¬ in8 o) : dlots (p + 1) x f = dlots p (lcg x) f := by
  subst eo
  rw [dlots_s, dsw_n h]
theorem pat_st (v w : SV) : am_pat (stH v) = am_pat (stH w) := rfl
theorem swp_e (f : Nat → Int32) (i j : Nat) : upd (upd f i (f j)) j (f i) = swp f i j := rfl
theorem uX_self (v : SV) (f : Nat → Int32) : uL (uX v (vX v)) f = uL v f := rfl
set_option maxHeartbeats 4000000 in
set_option maxRecDepth 100000 in
theorem lX0_drawLots_93 (h0 : am_H) (v : SV) (n : Nat) (hn : vBo v = nI n) (h8 : n ≤ 8) (x2 : Int32) (o3 o4 : Option Value) : am_RW mX0_drawLots h0 (am_vp (stH (fin1 n v))) 0 0 93 [some (.ref 2), some (.ref 9), some (.int x2), o3, o4] [] (stH v) := by
  refine ar_aload_n (i := 1) (pc := 93) dX0_drawLots_93 rfl rfl ?_
  refine ar_iconst (pc := 94) dX0_drawLots_94 q_iconst_0 ?_
  refine ar_iald (pc := 95) dX0_drawLots_95 rfl (show 0 < 8 by decide) nI_0.symm ?_
  refine ar_istore_n (i := 2) (pc := 96) dX0_drawLots_96 rfl (Nat.le_of_ble_eq_true rfl) rfl ?_
  refine ar_aload_n (i := 0) (pc := 97) dX0_drawLots_97 rfl rfl ?_
  refine ar_iload_n (i := 2) (pc := 98) dX0_drawLots_98 rfl rfl ?_
  refine ar_idV (pc := 99) dX0_drawLots_99 cal_X3_isBooth kX0_43 rfl (sX3_isBooth v n hn h8 _) rfl rfl rfl rfl rfl rfl rfl (fun r h1 hp => ?_)
  obtain ⟨⟨h99, rfl⟩ | ⟨h99, rfl⟩, rfl⟩ := hp
  · refine ⟨rfl, ?_⟩
    refine ar_if_eq (pc := 102) (tgt := 115) dX0_drawLots_102 (by decide) (fun c102 => absurd c102 (by decide)) (fun c102 => ?_)
    refine ar_aload_n (i := 0) (pc := 105) dX0_drawLots_105 rfl rfl ?_
    refine ar_getf (pc := 106) dX0_drawLots_106 fX0_56 rfl rfl ?_
    refine ar_iload_n (i := 2) (pc := 109) dX0_drawLots_109 rfl rfl ?_
    refine ar_dup2 (pc := 110) dX0_drawLots_110 rfl rfl ?_
    refine ar_iald (pc := 111) dX0_drawLots_111 rfl (show ix (vL v 0) < 8 by have := h99; unfold ix; omega) (ix_eq h99.1) ?_
    refine ar_iconst (pc := 112) dX0_drawLots_112 q_iconst_1 ?_
    refine ar_iadd (pc := 113) dX0_drawLots_113 ?_
    refine ar_iast (pc := 114) dX0_drawLots_114 rfl (show ix (vL v 0) < 8 by have := h99; unfold ix; omega) (ix_eq h99.1) ?_
    exact ar_vret (pc := 115) dX0_drawLots_115 rfl rfl rfl ⟨rfl, by rw [fin1, if_pos h99, st_F]⟩
  · refine ⟨rfl, ?_⟩
    refine ar_if_eq (pc := 102) (tgt := 115) dX0_drawLots_102 (by decide) (fun c102 => ?_) (fun c102 => absurd c102 (by decide))
    exact ar_vret (pc := 115) dX0_drawLots_115 rfl rfl rfl ⟨rfl, by rw [fin1, if_neg h99, ← st_F]; rfl⟩
set_option maxHeartbeats 4000000 in
set_option maxRecDepth 100000 in
theorem lX0_drawLots_48 (h0 : am_H) (v : SV) (n : Nat) (hn : vBo v = nI n) (h8 : n ≤ 8) : ∀ (p : Nat) (x : Int64) (f : Nat → Int32) (o3 o4 : Option Value), p < 8 → am_RW mX0_drawLots h0 (am_vp (stH (fin1 n (uL (uX v (dlots p x f).1) (dlots p x f).2)))) 0 0 48 [some (.ref 2), some (.ref 9), some (.int (nI p)), o3, o4] [] (stH (uL (uX v x) f)) := by
  intro p
  induction p with
  | zero =>
    intro x f o3 o4 hp
    refine ar_iload_n (i := 2) (pc := 48) dX0_drawLots_48 rfl rfl ?_
    refine ar_iconst (pc := 49) dX0_drawLots_49 q_iconst_1 ?_
    refine ar_icmp_lt (pc := 50) (tgt := 93) dX0_drawLots_50 (by decide) (fun c50 => ?_) (fun c50 => False.elim (by (simp (disch := omega) only [Int32.lt_iff_toInt_lt, Int32.le_iff_toInt_le, ← Int32.toInt_inj, ti_m6, ti_m1, ti_0, ti_1, ti_2, ti_3, ti_4, ti_5, ti_6, ti_7, ti_8, ti_9, ti_12, ti_100, ti_9999, ti_60, nI_toInt] at c50) <;> omega))
    rw [dlots_0]
    exact lX0_drawLots_93 h0 (uL (uX v x) f) n hn h8 _ _ _
  | succ p ih =>
    intro x f o3 o4 hp
    refine ar_iload_n (i := 2) (pc := 48) dX0_drawLots_48 rfl rfl ?_
    refine ar_iconst (pc := 49) dX0_drawLots_49 q_iconst_1 ?_
    refine ar_icmp_lt (pc := 50) (tgt := 93) dX0_drawLots_50 (by decide) (fun c50 => False.elim (by (simp (disch := omega) only [Int32.lt_iff_toInt_lt, Int32.le_iff_toInt_le, ← Int32.toInt_inj, ti_m6, ti_m1, ti_0, ti_1, ti_2, ti_3, ti_4, ti_5, ti_6, ti_7, ti_8, ti_9, ti_12, ti_100, ti_9999, ti_60, nI_toInt] at c50) <;> omega)) (fun c50 => ?_)
    refine ar_aload_n (i := 0) (pc := 53) dX0_drawLots_53 rfl rfl ?_
    refine ar_iload_n (i := 2) (pc := 54) dX0_drawLots_54 rfl rfl ?_
    refine ar_iconst (pc := 55) dX0_drawLots_55 q_iconst_1 ?_
    refine ar_iadd (pc := 56) dX0_drawLots_56 ?_
    rw [nI_1]
    refine ar_idV (pc := 57) dX0_drawLots_57 cal_X3_draw kX0_19 rfl (sX3_draw (uL (uX v x) f) (m := p + 1 + 1) (by omega) (by omega)) rfl rfl rfl rfl rfl rfl rfl (fun r h1 hp => ?_)
    obtain ⟨rfl, rfl⟩ := hp
    refine ⟨pat_st _ _, ?_⟩
    rw [vX_uL, uXuL]
    refine ar_topi (fun o eo => ?_)
    refine ar_istore_n (i := 3) (pc := 60) dX0_drawLots_60 rfl (Nat.le_of_ble_eq_true rfl) rfl ?_
    refine ar_iload_n (i := 3) (pc := 61) dX0_drawLots_61 rfl rfl ?_
    refine ar_if_lt (pc := 62) (tgt := 87) dX0_drawLots_62 (by decide) (fun c62 => ?_) (fun c62 => ?_)
    · refine ar_iinc (pc := 87) dX0_drawLots_87 rfl (ni_dec p) (Nat.le_of_ble_eq_true rfl) rfl ?_
      refine ar_goto (tgt := 48) (pc := 90) dX0_drawLots_90 (by decide) ?_
      have hin : ¬ in8 o := fun z => by obtain ⟨z1, z2⟩ := z; (simp (disch := omega) only [Int32.lt_iff_toInt_lt, Int32.le_iff_toInt_le, ← Int32.toInt_inj, ti_m6, ti_m1, ti_0, ti_1, ti_2, ti_3, ti_4, ti_5, ti_6, ti_7, ti_8, ti_9, ti_12, ti_100, ti_9999, ti_60, nI_toInt] at c62) <;> omega
      have ih' := ih (lcg x) f (some (.int o)) o4 (by omega)
      rw [dlots_n eo hin]
      exact ih'
    · refine ar_iload_n (i := 3) (pc := 65) dX0_drawLots_65 rfl rfl ?_
      refine ar_aload_n (i := 1) (pc := 66) dX0_drawLots_66 rfl rfl ?_
      refine ar_alen (pc := 67) dX0_drawLots_67 rfl ?_
      refine ar_icmp_ge (pc := 68) (tgt := 87) dX0_drawLots_68 (by decide) (fun c68 => ?_) (fun c68 => ?_)
      · refine ar_iinc (pc := 87) dX0_drawLots_87 rfl (ni_dec p) (Nat.le_of_ble_eq_true rfl) rfl ?_
        refine ar_goto (tgt := 48) (pc := 90) dX0_drawLots_90 (by decide) ?_
        have hin : ¬ in8 o := fun z => by obtain ⟨z1, z2⟩ := z; (simp (disch := omega) only [Int32.lt_iff_toInt_lt, Int32.le_iff_toInt_le, ← Int32.toInt_inj, ti_m6, ti_m1, ti_0, ti_1, ti_2, ti_3, ti_4, ti_5, ti_6, ti_7, ti_8, ti_9, ti_12, ti_100, ti_9999, ti_60, nI_toInt] at c68) <;> omega
        have ih' := ih (lcg x) f (some (.int o)) o4 (by omega)
        rw [dlots_n eo hin]
        exact ih'
      · refine ar_aload_n (i := 1) (pc := 71) dX0_drawLots_71 rfl rfl ?_
        refine ar_iload_n (i := 2) (pc := 72) dX0_drawLots_72 rfl rfl ?_
        refine ar_iald (pc := 73) dX0_drawLots_73 rfl (show p + 1 < 8 by omega) rfl ?_
        refine ar_istore (pc := 74) dX0_drawLots_74 (Nat.le_of_ble_eq_true rfl) rfl ?_
        refine ar_aload_n (i := 1) (pc := 76) dX0_drawLots_76 rfl rfl ?_
        refine ar_iload_n (i := 2) (pc := 77) dX0_drawLots_77 rfl rfl ?_
        refine ar_aload_n (i := 1) (pc := 78) dX0_drawLots_78 rfl rfl ?_
        refine ar_iload_n (i := 3) (pc := 79) dX0_drawLots_79 rfl rfl ?_
        refine ar_iald (pc := 80) dX0_drawLots_80 rfl (show ix o < 8 by (simp (disch := omega) only [Int32.lt_iff_toInt_lt, Int32.le_iff_toInt_le, ← Int32.toInt_inj, ti_m6, ti_m1, ti_0, ti_1, ti_2, ti_3, ti_4, ti_5, ti_6, ti_7, ti_8, ti_9, ti_12, ti_100, ti_9999, ti_60, nI_toInt] at c68); (simp (disch := omega) only [Int32.lt_iff_toInt_lt, Int32.le_iff_toInt_le, ← Int32.toInt_inj, ti_m6, ti_m1, ti_0, ti_1, ti_2, ti_3, ti_4, ti_5, ti_6, ti_7, ti_8, ti_9, ti_12, ti_100, ti_9999, ti_60, nI_toInt] at c62); unfold ix; omega) (ix_eq (show 0 ≤ o.toInt by (simp (disch := omega) only [Int32.lt_iff_toInt_lt, Int32.le_iff_toInt_le, ← Int32.toInt_inj, ti_m6, ti_m1, ti_0, ti_1, ti_2, ti_3, ti_4, ti_5, ti_6, ti_7, ti_8, ti_9, ti_12, ti_100, ti_9999, ti_60, nI_toInt] at c62); omega)) ?_
        refine ar_iast (pc := 81) dX0_drawLots_81 rfl (show p + 1 < 8 by omega) rfl ?_
        refine ar_aload_n (i := 1) (pc := 82) dX0_drawLots_82 rfl rfl ?_
        refine ar_iload_n (i := 3) (pc := 83) dX0_drawLots_83 rfl rfl ?_
        refine ar_iload (pc := 84) dX0_drawLots_84 rfl ?_
        refine ar_iast (pc := 86) dX0_drawLots_86 rfl (show ix o < 8 by (simp (disch := omega) only [Int32.lt_iff_toInt_lt, Int32.le_iff_toInt_le, ← Int32.toInt_inj, ti_m6, ti_m1, ti_0, ti_1, ti_2, ti_3, ti_4, ti_5, ti_6, ti_7, ti_8, ti_9, ti_12, ti_100, ti_9999, ti_60, nI_toInt] at c68); (simp (disch := omega) only [Int32.lt_iff_toInt_lt, Int32.le_iff_toInt_le, ← Int32.toInt_inj, ti_m6, ti_m1, ti_0, ti_1, ti_2, ti_3, ti_4, ti_5, ti_6, ti_7, ti_8, ti_9, ti_12, ti_100, ti_9999, ti_60, nI_toInt] at c62); unfold ix; omega) (ix_eq (show 0 ≤ o.toInt by (simp (disch := omega) only [Int32.lt_iff_toInt_lt, Int32.le_iff_toInt_le, ← Int32.toInt_inj, ti_m6, ti_m1, ti_0, ti_1, ti_2, ti_3, ti_4, ti_5, ti_6, ti_7, ti_8, ti_9, ti_12, ti_100, ti_9999, ti_60, nI_toInt] at c62); omega)) ?_
        refine ar_iinc (pc := 87) dX0_drawLots_87 rfl (ni_dec p) (Nat.le_of_ble_eq_true rfl) rfl ?_
        refine ar_goto (tgt := 48) (pc := 90) dX0_drawLots_90 (by decide) ?_
        have hin : in8 o := by (simp (disch := omega) only [Int32.lt_iff_toInt_lt, Int32.le_iff_toInt_le, ← Int32.toInt_inj, ti_m6, ti_m1, ti_0, ti_1, ti_2, ti_3, ti_4, ti_5, ti_6, ti_7, ti_8, ti_9, ti_12, ti_100, ti_9999, ti_60, nI_toInt] at c62); (simp (disch := omega) only [Int32.lt_iff_toInt_lt, Int32.le_iff_toInt_le, ← Int32.toInt_inj, ti_m6, ti_m1, ti_0, ti_1, ti_2, ti_3, ti_4, ti_5, ti_6, ti_7, ti_8, ti_9, ti_12, ti_100, ti_9999, ti_60, nI_toInt] at c68); exact ⟨by omega, by omega⟩
        have ih' := ih (lcg x) (swp f (p + 1) (ix o)) (some (.int o)) (some (.int (f (p + 1)))) (by omega)
        rw [dlots_y eo hin]
        rw [st_L, st_L, uu_L, uu_L, vu_L, swp_e]
        exact ih'
set_option maxHeartbeats 4000000 in
set_option maxRecDepth 100000 in
theorem lX0_drawLots_7 (h0 : am_H) (v : SV) (n : Nat) (hn : vBo v = nI n) (h8 : n ≤ 8) (o3 o4 : Option Value) : ∀ (d k : Nat), k + d = 8 → am_RW mX0_drawLots h0 (am_vp (stH (dlV v n))) 0 0 7 [some (.ref 2), some (.ref 9), some (.int (nI k)), o3, o4] [] (stH (uL v (mixF (filI n) (vL v) k))) := by
  intro d
  induction d with
  | zero =>
    intro k hk
    have e : k = 8 := by omega
    subst e
    refine ar_iload_n (i := 2) (pc := 7) dX0_drawLots_7 rfl rfl ?_
    refine ar_aload_n (i := 1) (pc := 8) dX0_drawLots_8 rfl rfl ?_
    refine ar_alen (pc := 9) dX0_drawLots_9 rfl ?_
    refine ar_icmp_ge (pc := 10) (tgt := 36) dX0_drawLots_10 (by decide) (fun c10 => ?_) (fun c10 => False.elim (by (simp (disch := omega) only [Int32.lt_iff_toInt_lt, Int32.le_iff_toInt_le, ← Int32.toInt_inj, ti_m6, ti_m1, ti_0, ti_1, ti_2, ti_3, ti_4, ti_5, ti_6, ti_7, ti_8, ti_9, ti_12, ti_100, ti_9999, ti_60, nI_toInt] at c10) <;> omega))
    refine ar_cong (a := 9) (filI n) rfl (fun j hj => by rw [vu_L, mixF_all hj]) ?_
    rw [st_L, uu_L]
    refine ar_aload_n (i := 0) (pc := 36) dX0_drawLots_36 rfl rfl ?_
    refine ar_getf (pc := 37) dX0_drawLots_37 fX0_47 rfl rfl ?_
    refine ar_aload_n (i := 1) (pc := 40) dX0_drawLots_40 rfl rfl ?_
    refine ar_alen (pc := 41) dX0_drawLots_41 rfl ?_
    refine ar_min (pc := 42) dX0_drawLots_42 kX0_50 rfl rfl rfl rfl ?_
    
    by_cases hn0 : 0 < n
    · obtain ⟨m, rfl⟩ : ∃ m, n = m + 1 := ⟨n - 1, by omega⟩
      rw [show (if nI 8 < vBo (uL v (filI (m + 1))) then nI 8 else vBo (uL v (filI (m + 1)))) = nI (m + 1) by rw [show vBo (uL v (filI (m + 1))) = nI (m + 1) from hn, if_neg (nI_nlt (by omega) (by omega))]]
      refine ar_iconst (pc := 45) dX0_drawLots_45 q_iconst_1 ?_
      refine ar_isub (pc := 46) dX0_drawLots_46 ?_
      rw [nI_pred]
      refine ar_istore_n (i := 2) (pc := 47) dX0_drawLots_47 rfl (Nat.le_of_ble_eq_true rfl) rfl ?_
      have h := lX0_drawLots_48 h0 v (m + 1) hn h8 m (vX v) (filI (m + 1)) o3 o4 (by omega)
      exact h
    · have e0 : n = 0 := Nat.le_zero.mp (Nat.not_lt.mp hn0)
      subst e0
      rw [show (if nI 8 < vBo (uL v (filI 0)) then nI 8 else vBo (uL v (filI 0))) = 0 by rw [show vBo (uL v (filI 0)) = nI 0 from hn]; decide +kernel]
      refine ar_iconst (pc := 45) dX0_drawLots_45 q_iconst_1 ?_
      refine ar_isub (pc := 46) dX0_drawLots_46 ?_
      rw [show (0 : Int32) - 1 = -1 by decide +kernel]
      refine ar_istore_n (i := 2) (pc := 47) dX0_drawLots_47 rfl (Nat.le_of_ble_eq_true rfl) rfl ?_
      refine ar_iload_n (i := 2) (pc := 48) dX0_drawLots_48 rfl rfl ?_
      refine ar_iconst (pc := 49) dX0_drawLots_49 q_iconst_1 ?_
      refine ar_icmp_lt (pc := 50) (tgt := 93) dX0_drawLots_50 (by decide) (fun c50 => ?_) (fun c50 => absurd (show (-1 : Int32) < 1 by decide +kernel) c50)
      have h := lX0_drawLots_93 h0 (uL (uX v (vX v)) (filI 0)) 0 hn (Nat.zero_le _) (-1) o3 o4
      exact h
  | succ d ih =>
    intro k hk
    refine ar_iload_n (i := 2) (pc := 7) dX0_drawLots_7 rfl rfl ?_
    refine ar_aload_n (i := 1) (pc := 8) dX0_drawLots_8 rfl rfl ?_
    refine ar_alen (pc := 9) dX0_drawLots_9 rfl ?_
    refine ar_icmp_ge (pc := 10) (tgt := 36) dX0_drawLots_10 (by decide) (fun c10 => False.elim (by (simp (disch := omega) only [Int32.lt_iff_toInt_lt, Int32.le_iff_toInt_le, ← Int32.toInt_inj, ti_m6, ti_m1, ti_0, ti_1, ti_2, ti_3, ti_4, ti_5, ti_6, ti_7, ti_8, ti_9, ti_12, ti_100, ti_9999, ti_60, nI_toInt] at c10) <;> omega)) (fun c10 => ?_)
    refine ar_aload_n (i := 1) (pc := 13) dX0_drawLots_13 rfl rfl ?_
    refine ar_iload_n (i := 2) (pc := 14) dX0_drawLots_14 rfl rfl ?_
    refine ar_aload_n (i := 0) (pc := 15) dX0_drawLots_15 rfl rfl ?_
    refine ar_iload_n (i := 2) (pc := 16) dX0_drawLots_16 rfl rfl ?_
    refine ar_idV (pc := 17) dX0_drawLots_17 cal_X3_isBooth kX0_43 rfl (sX3_isBooth (uL v (mixF (filI n) (vL v) k)) n hn h8 _) rfl rfl rfl rfl rfl rfl rfl (fun r h1 hp => ?_)
    obtain ⟨⟨h17, rfl⟩ | ⟨h17, rfl⟩, rfl⟩ := hp
    · refine ⟨rfl, ?_⟩
      refine ar_if_eq (pc := 20) (tgt := 27) dX0_drawLots_20 (by decide) (fun c20 => absurd c20 (by decide)) (fun c20 => ?_)
      refine ar_iload_n (i := 2) (pc := 23) dX0_drawLots_23 rfl rfl ?_
      refine ar_goto (tgt := 29) (pc := 24) dX0_drawLots_24 (by decide) ?_
      refine ar_iast (pc := 29) dX0_drawLots_29 rfl (show k < 8 by omega) rfl ?_
      refine ar_iinc (pc := 30) dX0_drawLots_30 rfl (ni_inc _) (Nat.le_of_ble_eq_true rfl) rfl ?_
      refine ar_goto (tgt := 7) (pc := 33) dX0_drawLots_33 (by decide) ?_
      have ih' := ih (k + 1) (by omega)
      rw [st_L, uu_L, vu_L, mixF_v (show filI n k = nI k by rw [filI, if_pos (by (simp (disch := omega) only [Int32.lt_iff_toInt_lt, Int32.le_iff_toInt_le, ← Int32.toInt_inj, ti_m6, ti_m1, ti_0, ti_1, ti_2, ti_3, ti_4, ti_5, ti_6, ti_7, ti_8, ti_9, ti_12, ti_100, ti_9999, ti_60, nI_toInt] at h17); omega)])]
      exact ih'
    · refine ⟨rfl, ?_⟩
      refine ar_if_eq (pc := 20) (tgt := 27) dX0_drawLots_20 (by decide) (fun c20 => ?_) (fun c20 => absurd c20 (by decide))
      refine ar_bipush (pc := 27) dX0_drawLots_27 q_bipush_m6 ?_
      refine ar_iast (pc := 29) dX0_drawLots_29 rfl (show k < 8 by omega) rfl ?_
      refine ar_iinc (pc := 30) dX0_drawLots_30 rfl (ni_inc _) (Nat.le_of_ble_eq_true rfl) rfl ?_
      refine ar_goto (tgt := 7) (pc := 33) dX0_drawLots_33 (by decide) ?_
      have ih' := ih (k + 1) (by omega)
      rw [st_L, uu_L, vu_L, mixF_v (show filI n k = -6 by rw [filI, if_neg (fun z => h17 (by (simp (disch := omega) only [Int32.lt_iff_toInt_lt, Int32.le_iff_toInt_le, ← Int32.toInt_inj, ti_m6, ti_m1, ti_0, ti_1, ti_2, ti_3, ti_4, ti_5, ti_6, ti_7, ti_8, ti_9, ti_12, ti_100, ti_9999, ti_60, nI_toInt] at ⊢); omega))])]
      exact ih'
set_option maxHeartbeats 4000000 in
set_option maxRecDepth 100000 in
theorem sX0_drawLots (v : SV) (n : Nat) (hn : vBo v = nI n) (h8 : n ≤ 8) : am_Sp mX0_drawLots [.ref 2] (stH v) (am_vp (stH (dlV v n))) := by
  refine am_intro (by decide) (Nat.le_of_ble_eq_true rfl) ?_
  refine ar_aload_n (i := 0) (pc := 0) dX0_drawLots_0 rfl rfl ?_
  refine ar_getf (pc := 1) dX0_drawLots_1 fX0_39 rfl rfl ?_
  refine ar_astore_n (i := 1) (pc := 4) dX0_drawLots_4 rfl (Nat.le_of_ble_eq_true rfl) rfl ?_
  refine ar_iconst (pc := 5) dX0_drawLots_5 q_iconst_0 ?_
  refine ar_istore_n (i := 2) (pc := 6) dX0_drawLots_6 rfl (Nat.le_of_ble_eq_true rfl) rfl ?_
  have h := lX0_drawLots_7 (stH v) v n hn h8 none none 8 0 (by omega)
  rw [mixF_0] at h
  exact h
end
