-- ===== PART A: goes FIRST, ahead of the names: the tables' words, and 'selects' of the private methods out of them =====
/-- a private method of a class that the tables say can be made, by its rows of tables_1 -/
def lw_okq (q : MethodName × Nat) : Prop := (q.1.cls ≠ "java/lang/invoke/MethodHandle" ∧ q.1.cls ≠ "java/lang/invoke/VarHandle") ∧ Cond.instantiable q.1.cls q.2 ∈ tables_1 ∧ Cond.privateMethod q.1 ∈ tables_1 ∧ Cond.instanceMethod q.1 ∈ tables_1
theorem lw_p0 : lw_okq (⟨"PuppetPitches$State", "forgetLots", "()V"⟩, 13) := ⟨⟨by decide +kernel, by decide +kernel⟩, List.mem_of_getElem? (i := 19) (by decide +kernel), List.mem_of_getElem? (i := 30) (by decide +kernel), List.mem_of_getElem? (i := 31) (by decide +kernel)⟩
theorem lw_p1 : lw_okq (⟨"PuppetPitches", "stoppingNowhere", "()I"⟩, 6) := ⟨⟨by decide +kernel, by decide +kernel⟩, List.mem_of_getElem? (i := 11) (by decide +kernel), List.mem_of_getElem? (i := 254) (by decide +kernel), List.mem_of_getElem? (i := 255) (by decide +kernel)⟩
theorem lw_p2 : lw_okq (⟨"PuppetPitches", "stoppingFrom", "(ZI)I"⟩, 6) := ⟨⟨by decide +kernel, by decide +kernel⟩, List.mem_of_getElem? (i := 11) (by decide +kernel), List.mem_of_getElem? (i := 394) (by decide +kernel), List.mem_of_getElem? (i := 395) (by decide +kernel)⟩
theorem lw_p3 : lw_okq (⟨"PuppetPitches$State", "hides", "(IIZ)Z"⟩, 13) := ⟨⟨by decide +kernel, by decide +kernel⟩, List.mem_of_getElem? (i := 19) (by decide +kernel), List.mem_of_getElem? (i := 418) (by decide +kernel), List.mem_of_getElem? (i := 419) (by decide +kernel)⟩
def lw_privs_1 : List (MethodName × Nat) := [(⟨"PuppetPitches$State", "forgetLots", "()V"⟩, 13), (⟨"PuppetPitches", "stoppingNowhere", "()I"⟩, 6), (⟨"PuppetPitches", "stoppingFrom", "(ZI)I"⟩, 6), (⟨"PuppetPitches$State", "hides", "(IIZ)Z"⟩, 13)]
theorem lw_r1 : ∀ q ∈ lw_privs_1, lw_okq q := List.forall_mem_cons.mpr ⟨lw_p0, List.forall_mem_cons.mpr ⟨lw_p1, List.forall_mem_cons.mpr ⟨lw_p2, List.forall_mem_cons.mpr ⟨lw_p3, fun _ h => absurd h List.not_mem_nil⟩⟩⟩⟩
def lw_privs : List (MethodName × Nat) := lw_privs_1
def lw_tbl : List Cond := k2_sels lw_privs ++ tables_1
theorem lw_privs_ok : ∀ q ∈ lw_privs, lw_okq q := lw_r1
-- ===== end of PART A; then your names; then what follows =====
def RX0 : String := "PuppetPitches$Day"
def TX0 : u_T := fun k => match k with
  | _ => ("", "", "", false)
def tyX0 : Nat → FieldType := fun k => match k with
  | _ => .int
abbrev wsX00 : List Cond := u_ws RX0 TX0 0
theorem nmX0 : ∀ a, a < 0 → ∀ b, b < 0 → a ≠ b → (TX0 a).2.1 ≠ (TX0 b).2.1 := by decide +kernel
theorem tyX0_ok : ∀ k, k < 0 → parseFieldDescriptor (TX0 k).2.2.1 = some (tyX0 k) := by decide +kernel
abbrev cX0_pass : ByteArray := prog_2_method_2_code
def yX0_pass : MethodName := ⟨RX0, "pass", "(LPuppetPitches$State;LPuppetPitches$View;)I"⟩
abbrev cX0_drawLots : ByteArray := prog_2_method_3_code
def yX0_drawLots : MethodName := ⟨RX0, "drawLots", "(LPuppetPitches$State;)V"⟩
abbrev cX0_choosePitches : ByteArray := prog_2_method_4_code
def yX0_choosePitches : MethodName := ⟨RX0, "choosePitches", "(LPuppetPitches$State;LPuppetPitches$View;)V"⟩
abbrev cX0_passHats : ByteArray := prog_2_method_5_code
def yX0_passHats : MethodName := ⟨RX0, "passHats", "(LPuppetPitches$State;LPuppetPitches$View;Z)I"⟩
def RX1 : String := "PuppetPitches$History"
def TX1 : u_T := fun k => match k with
  | 0 => ("PuppetPitches$History", "states", "[LPuppetPitches$State;", true)
  | 1 => ("PuppetPitches$History", "next", "I", false)
  | _ => ("PuppetPitches$History", "kept", "I", false)
def tyX1 : Nat → FieldType := fun k => match k with
  | 0 => .array (.object "PuppetPitches$State")
  | 1 => .int
  | _ => .int
abbrev wsX10 : List Cond := u_ws RX1 TX1 3
theorem nmX1 : ∀ a, a < 3 → ∀ b, b < 3 → a ≠ b → (TX1 a).2.1 ≠ (TX1 b).2.1 := by decide +kernel
theorem tyX1_ok : ∀ k, k < 3 → parseFieldDescriptor (TX1 k).2.2.1 = some (tyX1 k) := by decide +kernel
abbrev cX1_init : ByteArray := prog_3_method_1_code
def yX1_init : MethodName := ⟨RX1, "<init>", "()V"⟩
abbrev cX1_record : ByteArray := prog_3_method_2_code
def yX1_record : MethodName := ⟨RX1, "record", "(LPuppetPitches$State;)V"⟩
abbrev cX1_takeBack : ByteArray := prog_3_method_3_code
def yX1_takeBack : MethodName := ⟨RX1, "takeBack", "(LPuppetPitches$State;)V"⟩
def RX2 : String := "PuppetPitches$Pad"
def TX2 : u_T := fun k => match k with
  | 0 => ("PuppetPitches$Pad", "text", "[C", true)
  | 1 => ("PuppetPitches$Pad", "length", "I", false)
  | 2 => ("PuppetPitches$Pad", "parts", "I", false)
  | 3 => ("PuppetPitches$Pad", "heights", "[I", true)
  | _ => ("PuppetPitches$Pad", "places", "[I", true)
def tyX2 : Nat → FieldType := fun k => match k with
  | 0 => .array .char
  | 1 => .int
  | 2 => .int
  | 3 => .array .int
  | _ => .array .int
abbrev wsX20 : List Cond := u_ws RX2 TX2 5
theorem nmX2 : ∀ a, a < 5 → ∀ b, b < 5 → a ≠ b → (TX2 a).2.1 ≠ (TX2 b).2.1 := by decide +kernel
theorem tyX2_ok : ∀ k, k < 5 → parseFieldDescriptor (TX2 k).2.2.1 = some (tyX2 k) := by decide +kernel
abbrev cX2_init : ByteArray := prog_4_method_1_code
def yX2_init : MethodName := ⟨RX2, "<init>", "()V"⟩
def RX3 : String := "PuppetPitches$State"
def TX3 : u_T := fun k => match k with
  | 0 => ("PuppetPitches$State", "settings", "[I", true)
  | 1 => ("PuppetPitches$State", "x", "J", false)
  | 2 => ("PuppetPitches$State", "roofs", "I", false)
  | 3 => ("PuppetPitches$State", "days", "I", false)
  | 4 => ("PuppetPitches$State", "rainyDays", "I", false)
  | 5 => ("PuppetPitches$State", "takings", "I", false)
  | 6 => ("PuppetPitches$State", "booths", "I", false)
  | 7 => ("PuppetPitches$State", "heights", "[I", true)
  | 8 => ("PuppetPitches$State", "places", "[I", true)
  | 9 => ("PuppetPitches$State", "hats", "[I", true)
  | 10 => ("PuppetPitches$State", "firsts", "[I", true)
  | 11 => ("PuppetPitches$State", "idleDays", "[I", true)
  | _ => ("PuppetPitches$State", "lots", "[I", true)
def tyX3 : Nat → FieldType := fun k => match k with
  | 0 => .array .int
  | 1 => .long
  | 2 => .int
  | 3 => .int
  | 4 => .int
  | 5 => .int
  | 6 => .int
  | 7 => .array .int
  | 8 => .array .int
  | 9 => .array .int
  | 10 => .array .int
  | 11 => .array .int
  | _ => .array .int
abbrev wsX30 : List Cond := u_ws RX3 TX3 13
theorem nmX3 : ∀ a, a < 13 → ∀ b, b < 13 → a ≠ b → (TX3 a).2.1 ≠ (TX3 b).2.1 := by decide +kernel
theorem tyX3_ok : ∀ k, k < 13 → parseFieldDescriptor (TX3 k).2.2.1 = some (tyX3 k) := by decide +kernel
abbrev cX3_init : ByteArray := prog_5_method_1_code
def yX3_init : MethodName := ⟨RX3, "<init>", "()V"⟩
abbrev cX3_copyFrom : ByteArray := prog_5_method_2_code
def yX3_copyFrom : MethodName := ⟨RX3, "copyFrom", "(LPuppetPitches$State;)V"⟩
abbrev cX3_setting : ByteArray := prog_5_method_3_code
def yX3_setting : MethodName := ⟨RX3, "setting", "(I)I"⟩
abbrev cX3_changeSetting : ByteArray := prog_5_method_4_code
def yX3_changeSetting : MethodName := ⟨RX3, "changeSetting", "(II)V"⟩
abbrev cX3_isRoofed : ByteArray := prog_5_method_5_code
def yX3_isRoofed : MethodName := ⟨RX3, "isRoofed", "(I)Z"⟩
abbrev cX3_isBooth : ByteArray := prog_5_method_6_code
def yX3_isBooth : MethodName := ⟨RX3, "isBooth", "(I)Z"⟩
abbrev cX3_isStanding : ByteArray := prog_5_method_7_code
def yX3_isStanding : MethodName := ⟨RX3, "isStanding", "(I)Z"⟩
abbrev cX3_countStanding : ByteArray := prog_5_method_8_code
def yX3_countStanding : MethodName := ⟨RX3, "countStanding", "()I"⟩
abbrev cX3_boothAt : ByteArray := prog_5_method_9_code
def yX3_boothAt : MethodName := ⟨RX3, "boothAt", "(I)I"⟩
abbrev cX3_isTakenByOther : ByteArray := prog_5_method_10_code
def yX3_isTakenByOther : MethodName := ⟨RX3, "isTakenByOther", "(II)Z"⟩
abbrev cX3_isHidden : ByteArray := prog_5_method_11_code
def yX3_isHidden : MethodName := ⟨RX3, "isHidden", "(IZ)Z"⟩
abbrev cX3_hides : ByteArray := prog_5_method_12_code
def yX3_hides : MethodName := ⟨RX3, "hides", "(IIZ)Z"⟩
abbrev cX3_addBooth : ByteArray := prog_5_method_13_code
def yX3_addBooth : MethodName := ⟨RX3, "addBooth", "(II)V"⟩
abbrev cX3_removeBooth : ByteArray := prog_5_method_14_code
def yX3_removeBooth : MethodName := ⟨RX3, "removeBooth", "(I)V"⟩
abbrev cX3_closeUp : ByteArray := prog_5_method_15_code
def yX3_closeUp : MethodName := ⟨RX3, "closeUp", "([II)V"⟩
abbrev cX3_forgetLots : ByteArray := prog_5_method_17_code
def yX3_forgetLots : MethodName := ⟨RX3, "forgetLots", "()V"⟩
abbrev cX3_draw : ByteArray := prog_5_method_18_code
def yX3_draw : MethodName := ⟨RX3, "draw", "(I)I"⟩
def RX4 : String := "PuppetPitches$Stream"
def TX4 : u_T := fun k => match k with
  | 0 => ("PuppetPitches$Stream", "isFromLeft", "Z", true)
  | 1 => ("PuppetPitches$Stream", "arriving", "[I", true)
  | 2 => ("PuppetPitches$Stream", "tallest", "[I", true)
  | 3 => ("PuppetPitches$Stream", "stopShare", "I", false)
  | _ => ("PuppetPitches$Stream", "passing", "I", false)
def tyX4 : Nat → FieldType := fun k => match k with
  | 0 => .boolean
  | 1 => .array .int
  | 2 => .array .int
  | 3 => .int
  | _ => .int
abbrev wsX40 : List Cond := u_ws RX4 TX4 5
theorem nmX4 : ∀ a, a < 5 → ∀ b, b < 5 → a ≠ b → (TX4 a).2.1 ≠ (TX4 b).2.1 := by decide +kernel
theorem tyX4_ok : ∀ k, k < 5 → parseFieldDescriptor (TX4 k).2.2.1 = some (tyX4 k) := by decide +kernel
abbrev cX4_init : ByteArray := prog_6_method_1_code
def yX4_init : MethodName := ⟨RX4, "<init>", "(Z)V"⟩
abbrev cX4_walk : ByteArray := prog_6_method_2_code
def yX4_walk : MethodName := ⟨RX4, "walk", "([III)V"⟩
abbrev cX4_isSeen : ByteArray := prog_6_method_3_code
def yX4_isSeen : MethodName := ⟨RX4, "isSeen", "(II)Z"⟩
abbrev cX4_stopping : ByteArray := prog_6_method_4_code
def yX4_stopping : MethodName := ⟨RX4, "stopping", "(II)I"⟩
def RX5 : String := "PuppetPitches$View"
def TX5 : u_T := fun k => match k with
  | 0 => ("PuppetPitches$View", "tops", "[I", true)
  | 1 => ("PuppetPitches$View", "fromLeft", "LPuppetPitches$Stream;", true)
  | _ => ("PuppetPitches$View", "fromRight", "LPuppetPitches$Stream;", true)
def tyX5 : Nat → FieldType := fun k => match k with
  | 0 => .array .int
  | 1 => .object "PuppetPitches$Stream"
  | _ => .object "PuppetPitches$Stream"
abbrev wsX50 : List Cond := u_ws RX5 TX5 3
theorem nmX5 : ∀ a, a < 3 → ∀ b, b < 3 → a ≠ b → (TX5 a).2.1 ≠ (TX5 b).2.1 := by decide +kernel
theorem tyX5_ok : ∀ k, k < 3 → parseFieldDescriptor (TX5 k).2.2.1 = some (tyX5 k) := by decide +kernel
abbrev cX5_init : ByteArray := prog_7_method_1_code
def yX5_init : MethodName := ⟨RX5, "<init>", "()V"⟩
abbrev cX5_look : ByteArray := prog_7_method_2_code
def yX5_look : MethodName := ⟨RX5, "look", "(LPuppetPitches$State;I)V"⟩
abbrev cX5_clear : ByteArray := prog_7_method_3_code
def yX5_clear : MethodName := ⟨RX5, "clear", "()V"⟩
abbrev cX5_raise : ByteArray := prog_7_method_4_code
def yX5_raise : MethodName := ⟨RX5, "raise", "(II)V"⟩
abbrev cX5_letPeoplePass : ByteArray := prog_7_method_5_code
def yX5_letPeoplePass : MethodName := ⟨RX5, "letPeoplePass", "(LPuppetPitches$State;)V"⟩
abbrev cX5_streamFrom : ByteArray := prog_7_method_6_code
def yX5_streamFrom : MethodName := ⟨RX5, "streamFrom", "(Z)LPuppetPitches$Stream;"⟩
abbrev cX5_crowdAt : ByteArray := prog_7_method_7_code
def yX5_crowdAt : MethodName := ⟨RX5, "crowdAt", "(II)I"⟩
abbrev cX5_isOpen : ByteArray := prog_7_method_8_code
def yX5_isOpen : MethodName := ⟨RX5, "isOpen", "(II)Z"⟩
abbrev cX5_bestOpenPitch : ByteArray := prog_7_method_9_code
def yX5_bestOpenPitch : MethodName := ⟨RX5, "bestOpenPitch", "(II)I"⟩
def RX6 : String := "PuppetPitches"
def TX6 : u_T := fun k => match k with
  | 0 => ("PuppetPitches", "now", "LPuppetPitches$State;", true)
  | 1 => ("PuppetPitches", "foretold", "LPuppetPitches$State;", true)
  | 2 => ("PuppetPitches", "view", "LPuppetPitches$View;", true)
  | 3 => ("PuppetPitches", "pad", "LPuppetPitches$Pad;", true)
  | 4 => ("PuppetPitches", "history", "LPuppetPitches$History;", true)
  | _ => ("PuppetPitches", "slots", "[LPuppetPitches$State;", true)
def tyX6 : Nat → FieldType := fun k => match k with
  | 0 => .object "PuppetPitches$State"
  | 1 => .object "PuppetPitches$State"
  | 2 => .object "PuppetPitches$View"
  | 3 => .object "PuppetPitches$Pad"
  | 4 => .object "PuppetPitches$History"
  | _ => .array (.object "PuppetPitches$State")
abbrev wsX60 : List Cond := u_ws RX6 TX6 6
theorem nmX6 : ∀ a, a < 6 → ∀ b, b < 6 → a ≠ b → (TX6 a).2.1 ≠ (TX6 b).2.1 := by decide +kernel
theorem tyX6_ok : ∀ k, k < 6 → parseFieldDescriptor (TX6 k).2.2.1 = some (tyX6 k) := by decide +kernel
abbrev cX6_init : ByteArray := prog_1_method_1_code
def yX6_init : MethodName := ⟨RX6, "<init>", "()V"⟩
abbrev cX6_set : ByteArray := prog_1_method_2_code
def yX6_set : MethodName := ⟨RX6, "set", "(II)I"⟩
abbrev cX6_roof : ByteArray := prog_1_method_3_code
def yX6_roof : MethodName := ⟨RX6, "roof", "(IZ)I"⟩
abbrev cX6_come : ByteArray := prog_1_method_4_code
def yX6_come : MethodName := ⟨RX6, "come", "(I)I"⟩
abbrev cX6_go : ByteArray := prog_1_method_5_code
def yX6_go : MethodName := ⟨RX6, "go", "(I)I"⟩
abbrev cX6_height : ByteArray := prog_1_method_6_code
def yX6_height : MethodName := ⟨RX6, "height", "(II)I"⟩
abbrev cX6_stand : ByteArray := prog_1_method_7_code
def yX6_stand : MethodName := ⟨RX6, "stand", "(II)I"⟩
abbrev cX6_shuffle : ByteArray := prog_1_method_8_code
def yX6_shuffle : MethodName := ⟨RX6, "shuffle", "(I)I"⟩
abbrev cX6_play : ByteArray := prog_1_method_9_code
def yX6_play : MethodName := ⟨RX6, "play", "()I"⟩
abbrev cX6_booth : ByteArray := prog_1_method_11_code
def yX6_booth : MethodName := ⟨RX6, "booth", "(II)I"⟩
abbrev cX6_pitch : ByteArray := prog_1_method_12_code
def yX6_pitch : MethodName := ⟨RX6, "pitch", "(II)I"⟩
abbrev cX6_seen : ByteArray := prog_1_method_13_code
def yX6_seen : MethodName := ⟨RX6, "seen", "(III)I"⟩
abbrev cX6_count : ByteArray := prog_1_method_14_code
def yX6_count : MethodName := ⟨RX6, "count", "(I)I"⟩
abbrev cX6_lot : ByteArray := prog_1_method_15_code
def yX6_lot : MethodName := ⟨RX6, "lot", "(I)I"⟩
abbrev cX6_ifStood : ByteArray := prog_1_method_16_code
def yX6_ifStood : MethodName := ⟨RX6, "ifStood", "(II)I"⟩
abbrev cX6_bestPitch : ByteArray := prog_1_method_17_code
def yX6_bestPitch : MethodName := ⟨RX6, "bestPitch", "(I)I"⟩
abbrev cX6_ifPlayed : ByteArray := prog_1_method_18_code
def yX6_ifPlayed : MethodName := ⟨RX6, "ifPlayed", "(II)I"⟩
abbrev cX6_bestHeight : ByteArray := prog_1_method_19_code
def yX6_bestHeight : MethodName := ⟨RX6, "bestHeight", "(I)I"⟩
abbrev cX6_undo : ByteArray := prog_1_method_23_code
def yX6_undo : MethodName := ⟨RX6, "undo", "()I"⟩
abbrev cX6_stoppingFrom : ByteArray := prog_1_method_26_code
def yX6_stoppingFrom : MethodName := ⟨RX6, "stoppingFrom", "(ZI)I"⟩
abbrev cX6_stoppingNowhere : ByteArray := prog_1_method_27_code
def yX6_stoppingNowhere : MethodName := ⟨RX6, "stoppingNowhere", "()I"⟩
abbrev cX6_isPitch : ByteArray := prog_1_method_28_code
def yX6_isPitch : MethodName := ⟨RX6, "isPitch", "(I)Z"⟩
abbrev cX6_isHeight : ByteArray := prog_1_method_29_code
def yX6_isHeight : MethodName := ⟨RX6, "isHeight", "(I)Z"⟩
abbrev cX6_copyRow : ByteArray := prog_1_method_30_code
def yX6_copyRow : MethodName := ⟨RX6, "copyRow", "([I[I)V"⟩
def RX7 : String := "PuppetPitchesModel"
def TX7 : u_T := fun k => match k with
  | _ => ("", "", "", false)
def tyX7 : Nat → FieldType := fun k => match k with
  | _ => .int
abbrev wsX70 : List Cond := u_ws RX7 TX7 0
theorem nmX7 : ∀ a, a < 0 → ∀ b, b < 0 → a ≠ b → (TX7 a).2.1 ≠ (TX7 b).2.1 := by decide +kernel
theorem tyX7_ok : ∀ k, k < 0 → parseFieldDescriptor (TX7 k).2.2.1 = some (tyX7 k) := by decide +kernel
def RJ6 : String := "java/lang/Integer"
def TJ6 : u_T := fun k => match k with
  | _ => ("", "", "", false)
def tyJ6 : Nat → FieldType := fun k => match k with
  | _ => .int
abbrev wsJ60 : List Cond := u_ws RJ6 TJ6 0
theorem nmJ6 : ∀ a, a < 0 → ∀ b, b < 0 → a ≠ b → (TJ6 a).2.1 ≠ (TJ6 b).2.1 := by decide +kernel
theorem tyJ6_ok : ∀ k, k < 0 → parseFieldDescriptor (TJ6 k).2.2.1 = some (tyJ6 k) := by decide +kernel
abbrev cJ6_bitCount_0f7a4 : ByteArray := prog_10_method_49_code
def yJ6_bitCount_0f7a4 : MethodName := ⟨RJ6, "bitCount", "(I)I"⟩
def RJ9 : String := "java/lang/Math"
def TJ9 : u_T := fun k => match k with
  | _ => ("", "", "", false)
def tyJ9 : Nat → FieldType := fun k => match k with
  | _ => .int
abbrev wsJ90 : List Cond := u_ws RJ9 TJ9 0
theorem nmJ9 : ∀ a, a < 0 → ∀ b, b < 0 → a ≠ b → (TJ9 a).2.1 ≠ (TJ9 b).2.1 := by decide +kernel
theorem tyJ9_ok : ∀ k, k < 0 → parseFieldDescriptor (TJ9 k).2.2.1 = some (tyJ9 k) := by decide +kernel
abbrev cJ9_abs_0f7a4 : ByteArray := prog_11_method_59_code
def yJ9_abs_0f7a4 : MethodName := ⟨RJ9, "abs", "(I)I"⟩
abbrev cJ9_max_7cf53 : ByteArray := prog_11_method_65_code
def yJ9_max_7cf53 : MethodName := ⟨RJ9, "max", "(II)I"⟩
abbrev cJ9_min_7cf53 : ByteArray := prog_11_method_69_code
def yJ9_min_7cf53 : MethodName := ⟨RJ9, "min", "(II)I"⟩
def RL : String := "PuppetPitchesLaw"
abbrev cL_cell : ByteArray := method_2_code
def yL_cell : MethodName := ⟨RL, "cell", "([II)I"⟩
abbrev cL_low : ByteArray := method_3_code
def yL_low : MethodName := ⟨RL, "low", "(II)I"⟩
abbrev cL_arePitches : ByteArray := method_4_code
def yL_arePitches : MethodName := ⟨RL, "arePitches", "(LPuppetPitches;)Z"⟩
abbrev cL_goes : ByteArray := method_5_code
def yL_goes : MethodName := ⟨RL, "goes", "(LPuppetPitches;I)I"⟩
abbrev cL_areCrowds : ByteArray := method_6_code
def yL_areCrowds : MethodName := ⟨RL, "areCrowds", "(LPuppetPitches;)Z"⟩
abbrev cL_isDay : ByteArray := method_7_code
def yL_isDay : MethodName := ⟨RL, "isDay", "(LPuppetPitches;[I)Z"⟩
abbrev cL_isBest : ByteArray := method_8_code
def yL_isBest : MethodName := ⟨RL, "isBest", "(LPuppetPitches;I)Z"⟩
abbrev cL_does : ByteArray := method_9_code
def yL_does : MethodName := ⟨RL, "does", "(LPuppetPitches;[III)Z"⟩
abbrev cL_law : ByteArray := code
def yL_law : MethodName := ⟨RL, "law", "([I)Z"⟩
def am_ws : List Cond := lw_tbl.filter goodWord
def am_nest : Cond → Bool
  | .methodLinkNest _ _ _ _ => true
  | .fieldLinkNest _ _ _ _ _ _ => true
  | .arrayOver (.object _) => true
  | _ => false
def am_nw : List Cond := lw_tbl.filter am_nest
theorem am_wsin {w : Cond} (h : w ∈ lw_tbl) (g : goodWord w = true) : w ∈ am_ws := List.mem_filter.mpr ⟨h, g⟩
theorem am_wsg {w : Cond} (h : w ∈ am_ws) : goodWord w = true := (List.mem_filter.mp h).2
abbrev am_cl : List vw_C := [(RX1, TX1, 3), (RX2, TX2, 5), (RX3, TX3, 13), (RX4, TX4, 5), (RX5, TX5, 3), (RX6, TX6, 6)]
theorem am_in1 : ∀ w ∈ u_ws RX1 TX1 3, w ∈ am_ws := by decide +kernel
theorem am_in2 : ∀ w ∈ u_ws RX2 TX2 5, w ∈ am_ws := by decide +kernel
theorem am_in3 : ∀ w ∈ u_ws RX3 TX3 13, w ∈ am_ws := by decide +kernel
theorem am_in4 : ∀ w ∈ u_ws RX4 TX4 5, w ∈ am_ws := by decide +kernel
theorem am_in5 : ∀ w ∈ u_ws RX5 TX5 3, w ∈ am_ws := by decide +kernel
theorem am_in6 : ∀ w ∈ u_ws RX6 TX6 6, w ∈ am_ws := by decide +kernel
