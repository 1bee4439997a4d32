/-! leaves: methods without loops that read little -/
theorem ti_m6 : ((-6 : Int32)).toInt = -6 := by decide +kernel
theorem ti_m1 : ((-1 : Int32)).toInt = -1 := by decide +kernel
theorem ti_0 : ((0 : Int32)).toInt = 0 := by decide +kernel
theorem ti_1 : ((1 : Int32)).toInt = 1 := by decide +kernel
theorem ti_2 : ((2 : Int32)).toInt = 2 := by decide +kernel
theorem ti_3 : ((3 : Int32)).toInt = 3 := by decide +kernel
theorem ti_4 : ((4 : Int32)).toInt = 4 := by decide +kernel
theorem ti_5 : ((5 : Int32)).toInt = 5 := by decide +kernel
theorem ti_6 : ((6 : Int32)).toInt = 6 := by decide +kernel
theorem ti_7 : ((7 : Int32)).toInt = 7 := by decide +kernel
theorem ti_8 : ((8 : Int32)).toInt = 8 := by decide +kernel
theorem ti_9 : ((9 : Int32)).toInt = 9 := by decide +kernel
theorem ti_12 : ((12 : Int32)).toInt = 12 := by decide +kernel
theorem ti_60 : ((60 : Int32)).toInt = 60 := by decide +kernel
theorem ti_100 : ((100 : Int32)).toInt = 100 := by decide +kernel
theorem ti_9999 : ((9999 : Int32)).toInt = 9999 := by decide +kernel
theorem ni_inc (k : Nat) : nI k + Int32.ofInt 1 = nI (k + 1) := by rw [show Int32.ofInt 1 = (1 : Int32) by decide +kernel]; exact nI_1 k
theorem ni_dec (k : Nat) : nI (k + 1) + Int32.ofInt (-1) = nI k := by rw [show Int32.ofInt (-1) = (-1 : Int32) by decide +kernel]; exact pk_m1 k
set_option maxHeartbeats 4000000 in
set_option maxRecDepth 100000 in
theorem sX6_isPitch (h : am_H) (v : Int32) : am_Sp mX6_isPitch [.int v] h (fun r h1 => r = some (.int (if 0 ≤ v.toInt ∧ v.toInt < 12 then 1 else 0)) ∧ h1 = h) := by
  refine am_intro (by decide) (Nat.le_of_ble_eq_true rfl) ?_
  refine ar_iload_n (i := 0) (pc := 0) dX6_isPitch_0 rfl rfl ?_
  refine ar_if_lt (pc := 1) (tgt := 14) dX6_isPitch_1 (by decide) (fun c1 => ?_) (fun c1 => ?_)
  · refine ar_iconst (pc := 14) dX6_isPitch_14 q_iconst_0 ?_
    exact ar_zret (pc := 15) dX6_isPitch_15 rfl (by first | exact Or.inl rfl | exact Or.inr rfl) rfl rfl ⟨by (try simp only [Int32.lt_iff_toInt_lt, Int32.le_iff_toInt_le, ← Int32.toInt_inj, ti_m6, ti_m1, ti_0, ti_1, ti_2, ti_5, ti_6, ti_8, ti_9, ti_12, ti_100, ti_9999, ti_60] at *); first | rw [if_pos (by omega)] | rw [if_neg (by omega)], rfl⟩
  · refine ar_iload_n (i := 0) (pc := 4) dX6_isPitch_4 rfl rfl ?_
    refine ar_bipush (pc := 5) dX6_isPitch_5 q_bipush_12 ?_
    refine ar_icmp_ge (pc := 7) (tgt := 14) dX6_isPitch_7 (by decide) (fun c7 => ?_) (fun c7 => ?_)
    · refine ar_iconst (pc := 14) dX6_isPitch_14 q_iconst_0 ?_
      exact ar_zret (pc := 15) dX6_isPitch_15 rfl (by first | exact Or.inl rfl | exact Or.inr rfl) rfl rfl ⟨by (try simp only [Int32.lt_iff_toInt_lt, Int32.le_iff_toInt_le, ← Int32.toInt_inj, ti_m6, ti_m1, ti_0, ti_1, ti_2, ti_5, ti_6, ti_8, ti_9, ti_12, ti_100, ti_9999, ti_60] at *); first | rw [if_pos (by omega)] | rw [if_neg (by omega)], rfl⟩
    · refine ar_iconst (pc := 10) dX6_isPitch_10 q_iconst_1 ?_
      refine ar_goto (tgt := 15) (pc := 11) dX6_isPitch_11 (by decide) ?_
      exact ar_zret (pc := 15) dX6_isPitch_15 rfl (by first | exact Or.inl rfl | exact Or.inr rfl) rfl rfl ⟨by (try simp only [Int32.lt_iff_toInt_lt, Int32.le_iff_toInt_le, ← Int32.toInt_inj, ti_m6, ti_m1, ti_0, ti_1, ti_2, ti_5, ti_6, ti_8, ti_9, ti_12, ti_100, ti_9999, ti_60] at *); first | rw [if_pos (by omega)] | rw [if_neg (by omega)], rfl⟩

set_option maxHeartbeats 4000000 in
set_option maxRecDepth 100000 in
theorem sX6_isHeight (h : am_H) (v : Int32) : am_Sp mX6_isHeight [.int v] h (fun r h1 => r = some (.int (if 1 ≤ v.toInt ∧ v.toInt ≤ 9 then 1 else 0)) ∧ h1 = h) := by
  refine am_intro (by decide) (Nat.le_of_ble_eq_true rfl) ?_
  refine ar_iload_n (i := 0) (pc := 0) dX6_isHeight_0 rfl rfl ?_
  refine ar_iconst (pc := 1) dX6_isHeight_1 q_iconst_1 ?_
  refine ar_icmp_lt (pc := 2) (tgt := 15) dX6_isHeight_2 (by decide) (fun c2 => ?_) (fun c2 => ?_)
  · refine ar_iconst (pc := 15) dX6_isHeight_15 q_iconst_0 ?_
    exact ar_zret (pc := 16) dX6_isHeight_16 rfl (by first | exact Or.inl rfl | exact Or.inr rfl) rfl rfl ⟨by (try simp only [Int32.lt_iff_toInt_lt, Int32.le_iff_toInt_le, ← Int32.toInt_inj, ti_m6, ti_m1, ti_0, ti_1, ti_2, ti_5, ti_6, ti_8, ti_9, ti_12, ti_100, ti_9999, ti_60] at *); first | rw [if_pos (by omega)] | rw [if_neg (by omega)], rfl⟩
  · refine ar_iload_n (i := 0) (pc := 5) dX6_isHeight_5 rfl rfl ?_
    refine ar_bipush (pc := 6) dX6_isHeight_6 q_bipush_9 ?_
    refine ar_icmp_gt (pc := 8) (tgt := 15) dX6_isHeight_8 (by decide) (fun c8 => ?_) (fun c8 => ?_)
    · refine ar_iconst (pc := 15) dX6_isHeight_15 q_iconst_0 ?_
      exact ar_zret (pc := 16) dX6_isHeight_16 rfl (by first | exact Or.inl rfl | exact Or.inr rfl) rfl rfl ⟨by (try simp only [Int32.lt_iff_toInt_lt, Int32.le_iff_toInt_le, ← Int32.toInt_inj, ti_m6, ti_m1, ti_0, ti_1, ti_2, ti_5, ti_6, ti_8, ti_9, ti_12, ti_100, ti_9999, ti_60] at *); first | rw [if_pos (by omega)] | rw [if_neg (by omega)], rfl⟩
    · refine ar_iconst (pc := 11) dX6_isHeight_11 q_iconst_1 ?_
      refine ar_goto (tgt := 16) (pc := 12) dX6_isHeight_12 (by decide) ?_
      exact ar_zret (pc := 16) dX6_isHeight_16 rfl (by first | exact Or.inl rfl | exact Or.inr rfl) rfl rfl ⟨by (try simp only [Int32.lt_iff_toInt_lt, Int32.le_iff_toInt_le, ← Int32.toInt_inj, ti_m6, ti_m1, ti_0, ti_1, ti_2, ti_5, ti_6, ti_8, ti_9, ti_12, ti_100, ti_9999, ti_60] at *); first | rw [if_pos (by omega)] | rw [if_neg (by omega)], rfl⟩

section
variable {M : am_M} {h0 : am_H} {P : Option Value → am_H → Prop} {kc ks pc : Nat} {L : List (Option Value)} {S : List Value} {h : am_H} {idx : Nat}
theorem ar_min {x y : Int32} (d : decode (am_b M) pc = .ok (.invokestatic idx, 3)) (lk : Cond.methodLink (am_y M).cls idx yJ9_min_7cf53 ∈ am_ws ∧ Cond.static yJ9_min_7cf53 ∈ am_ws) (hlv : Nat.ble 1 (am_lv M) = true) (hS : ((S.map Value.category).sum).ble 8 = true) (hc : kc.ble (am_nc M) = true) (hs : ks.ble (am_ns M) = true) (k : am_RW M h0 P kc ks (pc + 3) L (.int (if y < x then y else x) :: S) h) : am_RW M h0 P kc ks pc L (.int y :: .int x :: S) h := by
  intro p l e R s m args below meth c D ad0 Q C F ad H locs ls T Ll
  have hcode : Cond.code Lib.Math.min.name Lib.Math.min.code 2 (some .int) ∈ am_ws := by decide +kernel
  have hini : Cond.initialized "java/lang/Math" ∈ am_ws := by decide +kernel
  have hR := C.2.2.2.2.2.2
  have h1 := Nat.le_of_ble_eq_true hlv
  have h2 := am_cat (ad := ad) (Nat.le_of_ble_eq_true hS)
  exact va_mmin C.1 C.2.1 (C.2.2.1.trans Ll.1.symm) C.2.2.2.1 (am_ts C lk.1) (am_ts C lk.2) (am_ts C hini) (am_ts C hcode) (Nat.le_trans h1 hR.1) (by have := hR.2.1; omega) (Nat.le_trans (Nat.le_of_ble_eq_true hc) hR.2.2.1) (Nat.le_trans (Nat.le_of_ble_eq_true hs) hR.2.2.2) d (k p l e R s m args below meth c D ad0 Q C F ad H locs ls T Ll)
theorem ar_abs {x : Int32} (d : decode (am_b M) pc = .ok (.invokestatic idx, 3)) (lk : Cond.methodLink (am_y M).cls idx yJ9_abs_0f7a4 ∈ am_ws ∧ Cond.static yJ9_abs_0f7a4 ∈ am_ws) (hlv : Nat.ble 1 (am_lv M) = true) (hS : ((S.map Value.category).sum).ble 8 = true) (hc : kc.ble (am_nc M) = true) (hs : ks.ble (am_ns M) = true) (k : am_RW M h0 P kc ks (pc + 3) L (.int (if 0 ≤ x then x else 0 - x) :: S) h) : am_RW M h0 P kc ks pc L (.int x :: S) h := by
  intro p l e R s m args below meth c D ad0 Q C F ad H locs ls T Ll
  have hcode : Cond.code Lib.Math.abs.name Lib.Math.abs.code 1 (some .int) ∈ am_ws := by decide +kernel
  have hini : Cond.initialized "java/lang/Math" ∈ am_ws := by decide +kernel
  have hR := C.2.2.2.2.2.2
  have h1 := Nat.le_of_ble_eq_true hlv
  have h2 := am_cat (ad := ad) (Nat.le_of_ble_eq_true hS)
  exact va_mabs C.1 C.2.1 (C.2.2.1.trans Ll.1.symm) C.2.2.2.1 (am_ts C lk.1) (am_ts C lk.2) (am_ts C hini) (am_ts C hcode) (Nat.le_trans h1 hR.1) (by have := hR.2.1; omega) (Nat.le_trans (Nat.le_of_ble_eq_true hc) hR.2.2.1) (Nat.le_trans (Nat.le_of_ble_eq_true hs) hR.2.2.2) d (k p l e R s m args below meth c D ad0 Q C F ad H locs ls T Ll)
end
def bitc (x : Int32) : Int32 :=
  let a := x - ((x.toUInt32 >>> ((1 : Int32).toUInt32 &&& Int32.toUInt32 31)).toInt32 &&& 1431655765)
  let b := (a &&& 858993459) + ((a.toUInt32 >>> ((2 : Int32).toUInt32 &&& Int32.toUInt32 31)).toInt32 &&& 858993459)
  let c := (b + (b.toUInt32 >>> ((4 : Int32).toUInt32 &&& Int32.toUInt32 31)).toInt32) &&& 252645135
  let d := c + (c.toUInt32 >>> ((8 : Int32).toUInt32 &&& Int32.toUInt32 31)).toInt32
  let e := d + (d.toUInt32 >>> ((16 : Int32).toUInt32 &&& Int32.toUInt32 31)).toInt32
  e &&& 63
set_option maxHeartbeats 4000000 in
set_option maxRecDepth 100000 in
theorem sJ6_bitCount (h : am_H) (x : Int32) : am_Sp mJ6_bitCount_0f7a4 [.int x] h (fun r h1 => r = some (.int (bitc x)) ∧ h1 = h) := by
  refine am_intro (by decide) (Nat.le_of_ble_eq_true rfl) ?_
  refine ar_iload_n (i := 0) (pc := 0) dJ6_bitCount_0f7a4_0 rfl rfl ?_
  refine ar_iload_n (i := 0) (pc := 1) dJ6_bitCount_0f7a4_1 rfl rfl ?_
  refine ar_iconst (pc := 2) dJ6_bitCount_0f7a4_2 q_iconst_1 ?_
  refine ar_iushr (pc := 3) dJ6_bitCount_0f7a4_3 ?_
  refine ar_ldcw (pc := 4) dJ6_bitCount_0f7a4_4 cJ6_265 ?_
  refine ar_iand (pc := 7) dJ6_bitCount_0f7a4_7 ?_
  refine ar_isub (pc := 8) dJ6_bitCount_0f7a4_8 ?_
  refine ar_istore_n (i := 0) (pc := 9) dJ6_bitCount_0f7a4_9 rfl (Nat.le_of_ble_eq_true rfl) rfl ?_
  refine ar_iload_n (i := 0) (pc := 10) dJ6_bitCount_0f7a4_10 rfl rfl ?_
  refine ar_ldcw (pc := 11) dJ6_bitCount_0f7a4_11 cJ6_266 ?_
  refine ar_iand (pc := 14) dJ6_bitCount_0f7a4_14 ?_
  refine ar_iload_n (i := 0) (pc := 15) dJ6_bitCount_0f7a4_15 rfl rfl ?_
  refine ar_iconst (pc := 16) dJ6_bitCount_0f7a4_16 q_iconst_2 ?_
  refine ar_iushr (pc := 17) dJ6_bitCount_0f7a4_17 ?_
  refine ar_ldcw (pc := 18) dJ6_bitCount_0f7a4_18 cJ6_266 ?_
  refine ar_iand (pc := 21) dJ6_bitCount_0f7a4_21 ?_
  refine ar_iadd (pc := 22) dJ6_bitCount_0f7a4_22 ?_
  refine ar_istore_n (i := 0) (pc := 23) dJ6_bitCount_0f7a4_23 rfl (Nat.le_of_ble_eq_true rfl) rfl ?_
  refine ar_iload_n (i := 0) (pc := 24) dJ6_bitCount_0f7a4_24 rfl rfl ?_
  refine ar_iload_n (i := 0) (pc := 25) dJ6_bitCount_0f7a4_25 rfl rfl ?_
  refine ar_iconst (pc := 26) dJ6_bitCount_0f7a4_26 q_iconst_4 ?_
  refine ar_iushr (pc := 27) dJ6_bitCount_0f7a4_27 ?_
  refine ar_iadd (pc := 28) dJ6_bitCount_0f7a4_28 ?_
  refine ar_ldcw (pc := 29) dJ6_bitCount_0f7a4_29 cJ6_267 ?_
  refine ar_iand (pc := 32) dJ6_bitCount_0f7a4_32 ?_
  refine ar_istore_n (i := 0) (pc := 33) dJ6_bitCount_0f7a4_33 rfl (Nat.le_of_ble_eq_true rfl) rfl ?_
  refine ar_iload_n (i := 0) (pc := 34) dJ6_bitCount_0f7a4_34 rfl rfl ?_
  refine ar_iload_n (i := 0) (pc := 35) dJ6_bitCount_0f7a4_35 rfl rfl ?_
  refine ar_bipush (pc := 36) dJ6_bitCount_0f7a4_36 q_bipush_8 ?_
  refine ar_iushr (pc := 38) dJ6_bitCount_0f7a4_38 ?_
  refine ar_iadd (pc := 39) dJ6_bitCount_0f7a4_39 ?_
  refine ar_istore_n (i := 0) (pc := 40) dJ6_bitCount_0f7a4_40 rfl (Nat.le_of_ble_eq_true rfl) rfl ?_
  refine ar_iload_n (i := 0) (pc := 41) dJ6_bitCount_0f7a4_41 rfl rfl ?_
  refine ar_iload_n (i := 0) (pc := 42) dJ6_bitCount_0f7a4_42 rfl rfl ?_
  refine ar_bipush (pc := 43) dJ6_bitCount_0f7a4_43 q_bipush_16 ?_
  refine ar_iushr (pc := 45) dJ6_bitCount_0f7a4_45 ?_
  refine ar_iadd (pc := 46) dJ6_bitCount_0f7a4_46 ?_
  refine ar_istore_n (i := 0) (pc := 47) dJ6_bitCount_0f7a4_47 rfl (Nat.le_of_ble_eq_true rfl) rfl ?_
  refine ar_iload_n (i := 0) (pc := 48) dJ6_bitCount_0f7a4_48 rfl rfl ?_
  refine ar_bipush (pc := 49) dJ6_bitCount_0f7a4_49 q_bipush_63 ?_
  refine ar_iand (pc := 51) dJ6_bitCount_0f7a4_51 ?_
  exact ar_iret (pc := 52) dJ6_bitCount_0f7a4_52 rfl rfl rfl ⟨rfl, rfl⟩
