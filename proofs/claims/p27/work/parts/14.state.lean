/-! the class State: what its cells are; its small methods -/
def ix (b : Int32) : Nat := b.toInt.toNat
theorem ix_eq {b : Int32} (h : 0 ≤ b.toInt) : b = nI (ix b) := by
  have h2 := Int32.toInt_lt b
  refine Int32.toInt_inj.mp ?_
  rw [nI_toInt (by unfold ix; omega)]
  unfold ix; omega
theorem ix_nI {k : Nat} (h : k < 2147483648) : ix (nI k) = k := by
  unfold ix; rw [nI_toInt (by omega)]; omega
def am_bp (p : Prop) (h : am_H) : Option Value → am_H → Prop := fun r h1 => ((p ∧ r = some (.int 1)) ∨ (¬ p ∧ r = some (.int 0))) ∧ h1 = h
def am_rp (x : Int32) (h : am_H) : Option Value → am_H → Prop := fun r h1 => r = some (.int x) ∧ h1 = h
def am_vp (h : am_H) : Option Value → am_H → Prop := fun r h1 => r = none ∧ h1 = h
/-- the first place from k on, within d, at which q holds -/
def ffi (q : Nat → Bool) : Nat → Nat → Option Nat
  | 0, _ => none
  | d + 1, k => if q k then some k else ffi q d (k + 1)
def o2i (o : Option Nat) : Int32 := match o with
  | none => -6
  | some k => nI k
theorem am_St.cong {h0 : am_H} {D : va_G} {s : State} {ad0 ad : Nat → Nat} {h : am_H} {H : Heap} {locs : List Loc} {a N : Nat} {ty : FieldType} {w : Bool} {f g : Nat → Int32} (T : am_St h0 D s ad0 ad h H locs) (ha : h[a]? = some (some (.inr (.inl (ty, w, N, f))))) (he : ∀ j, j < N → f j = g j) : am_St h0 D s ad0 ad (h.set a (some (.inr (.inl (ty, w, N, g))))) H locs := by
  obtain ⟨t1, t2, t3, t4, t5, t6, t7, t8⟩ := T
  have hl := (List.getElem?_eq_some_iff.mp ha).1
  have hc : am_cell D s ad (ad a) H (.inr (.inl (ty, w, N, g))) := by
    obtain ⟨cell, c1, c2, c3, c4, c5, c6⟩ := t1.1 a _ ha
    exact ⟨cell, c1, c2, c3, c4, c5, fun j hj => by rw [c6 j hj]; exact congrArg (fun z => some (Value.int z)) (he j hj)⟩
  refine ⟨t1.set ha hc (fun _ _ => rfl), fun k c hk => (am_set_pres ha).mpr (t2 k c hk), fun k hk => t3 k fun q => hk ⟨(am_set_pres ha).mpr q.1, q.2⟩, fun k hk => t4 k ⟨(am_set_pres ha).mp hk.1, hk.2⟩, fun k c hk hcw => ?_, t6, t7, t8⟩
  by_cases e : k = a
  · subst e
    rw [List.getElem?_set_self hl] at hk
    cases hk
    exact t5 k _ ha hcw
  · rw [List.getElem?_set_ne (Ne.symm e)] at hk
    exact t5 k c hk hcw
section
variable {M : am_M} {h0 : am_H} {P : Option Value → am_H → Prop} {kc ks pc : Nat} {L : List (Option Value)} {S : List Value} {h : am_H} {idx : Nat}
/-- a row of numbers counts only as far as it is long -/
theorem ar_cong {a N : Nat} {ty : FieldType} {w : Bool} {f : Nat → Int32} (g : Nat → Int32) (ha : h[a]? = some (some (.inr (.inl (ty, w, N, f))))) (he : ∀ j, j < N → f j = g j) (k : am_RW M h0 P kc ks pc L S (h.set a (some (.inr (.inl (ty, w, N, g)))))) : am_RW M h0 P kc ks pc L S h := by
  intro p l e R s m args below meth c D ad0 Q C F ad H locs ls T Ll
  exact k p l e R s m args below meth c D ad0 Q C F ad H locs ls (T.cong ha he) Ll
/-- the value on top gets a name -/
theorem ar_topi {x : Int32} (k : ∀ y : Int32, y = x → am_RW M h0 P kc ks pc L (.int y :: S) h) : am_RW M h0 P kc ks pc L (.int x :: S) h := k x rfl
theorem ar_topl {x : Int64} (k : ∀ y : Int64, y = x → am_RW M h0 P kc ks pc L (.long y :: S) h) : am_RW M h0 P kc ks pc L (.long x :: S) h := k x rfl
theorem ar_max {x y : Int32} (d : decode (am_b M) pc = .ok (.invokestatic idx, 3)) (lk : Cond.methodLink (am_y M).cls idx yJ9_max_7cf53 ∈ am_ws ∧ Cond.static yJ9_max_7cf53 ∈ am_ws) (hlv : Nat.ble 1 (am_lv M) = true) (hS : ((S.map Value.category).sum).ble 8 = true) (hc : kc.ble (am_nc M) = true) (hs : ks.ble (am_ns M) = true) (k : am_RW M h0 P kc ks (pc + 3) L (.int (if x < y then y else x) :: S) h) : am_RW M h0 P kc ks pc L (.int y :: .int x :: S) h := by
  intro p l e R s m args below meth c D ad0 Q C F ad H locs ls T Ll
  have hcode : Cond.code Lib.Math.max.name Lib.Math.max.code 2 (some .int) ∈ am_ws := by decide +kernel
  have hini : Cond.initialized "java/lang/Math" ∈ am_ws := by decide +kernel
  have hR := C.2.2.2.2.2.2
  have h1 := Nat.le_of_ble_eq_true hlv
  have h2 := am_cat (ad := ad) (Nat.le_of_ble_eq_true hS)
  exact va_mmax C.1 C.2.1 (C.2.2.1.trans Ll.1.symm) C.2.2.2.1 (am_ts C lk.1) (am_ts C lk.2) (am_ts C hini) (am_ts C hcode) (Nat.le_trans h1 hR.1) (by have := hR.2.1; omega) (Nat.le_trans (Nat.le_of_ble_eq_true hc) hR.2.2.1) (Nat.le_trans (Nat.le_of_ble_eq_true hs) hR.2.2.2) d (k p l e R s m args below meth c D ad0 Q C F ad H locs ls T Ll)
end
/-- a State's values: settings, x, roofs, days, rainy days, takings, booths; heights, places, hats, firsts, idle days, lots -/
abbrev SV : Type := (Nat → Int32) × Int64 × Int32 × Int32 × Int32 × Int32 × Int32 × (Nat → Int32) × (Nat → Int32) × (Nat → Int32) × (Nat → Int32) × (Nat → Int32) × (Nat → Int32)
def vS (v : SV) : Nat → Int32 := v.1
def vX (v : SV) : Int64 := v.2.1
def vRo (v : SV) : Int32 := v.2.2.1
def vDa (v : SV) : Int32 := v.2.2.2.1
def vRa (v : SV) : Int32 := v.2.2.2.2.1
def vTa (v : SV) : Int32 := v.2.2.2.2.2.1
def vBo (v : SV) : Int32 := v.2.2.2.2.2.2.1
def vH (v : SV) : Nat → Int32 := v.2.2.2.2.2.2.2.1
def vP (v : SV) : Nat → Int32 := v.2.2.2.2.2.2.2.2.1
def vT (v : SV) : Nat → Int32 := v.2.2.2.2.2.2.2.2.2.1
def vF (v : SV) : Nat → Int32 := v.2.2.2.2.2.2.2.2.2.2.1
def vI (v : SV) : Nat → Int32 := v.2.2.2.2.2.2.2.2.2.2.2.1
def vL (v : SV) : Nat → Int32 := v.2.2.2.2.2.2.2.2.2.2.2.2
def uS (v : SV) (a : Nat → Int32) : SV := (a, v.2)
def uX (v : SV) (a : Int64) : SV := (v.1, a, v.2.2)
def uRo (v : SV) (a : Int32) : SV := (v.1, v.2.1, a, v.2.2.2)
def uDa (v : SV) (a : Int32) : SV := (v.1, v.2.1, v.2.2.1, a, v.2.2.2.2)
def uRa (v : SV) (a : Int32) : SV := (v.1, v.2.1, v.2.2.1, v.2.2.2.1, a, v.2.2.2.2.2)
def uTa (v : SV) (a : Int32) : SV := (v.1, v.2.1, v.2.2.1, v.2.2.2.1, v.2.2.2.2.1, a, v.2.2.2.2.2.2)
def uBo (v : SV) (a : Int32) : SV := (v.1, v.2.1, v.2.2.1, v.2.2.2.1, v.2.2.2.2.1, v.2.2.2.2.2.1, a, v.2.2.2.2.2.2.2)
def uH (v : SV) (a : Nat → Int32) : SV := (v.1, v.2.1, v.2.2.1, v.2.2.2.1, v.2.2.2.2.1, v.2.2.2.2.2.1, v.2.2.2.2.2.2.1, a, v.2.2.2.2.2.2.2.2)
def uP (v : SV) (a : Nat → Int32) : SV := (v.1, v.2.1, v.2.2.1, v.2.2.2.1, v.2.2.2.2.1, v.2.2.2.2.2.1, v.2.2.2.2.2.2.1, v.2.2.2.2.2.2.2.1, a, v.2.2.2.2.2.2.2.2.2)
def uT (v : SV) (a : Nat → Int32) : SV := (v.1, v.2.1, v.2.2.1, v.2.2.2.1, v.2.2.2.2.1, v.2.2.2.2.2.1, v.2.2.2.2.2.2.1, v.2.2.2.2.2.2.2.1, v.2.2.2.2.2.2.2.2.1, a, v.2.2.2.2.2.2.2.2.2.2)
def uF (v : SV) (a : Nat → Int32) : SV := (v.1, v.2.1, v.2.2.1, v.2.2.2.1, v.2.2.2.2.1, v.2.2.2.2.2.1, v.2.2.2.2.2.2.1, v.2.2.2.2.2.2.2.1, v.2.2.2.2.2.2.2.2.1, v.2.2.2.2.2.2.2.2.2.1, a, v.2.2.2.2.2.2.2.2.2.2.2)
def uI (v : SV) (a : Nat → Int32) : SV := (v.1, v.2.1, v.2.2.1, v.2.2.2.1, v.2.2.2.2.1, v.2.2.2.2.2.1, v.2.2.2.2.2.2.1, v.2.2.2.2.2.2.2.1, v.2.2.2.2.2.2.2.2.1, v.2.2.2.2.2.2.2.2.2.1, v.2.2.2.2.2.2.2.2.2.2.1, a, v.2.2.2.2.2.2.2.2.2.2.2.2)
def uL (v : SV) (a : Nat → Int32) : SV := (v.1, v.2.1, v.2.2.1, v.2.2.2.1, v.2.2.2.2.1, v.2.2.2.2.2.1, v.2.2.2.2.2.2.1, v.2.2.2.2.2.2.2.1, v.2.2.2.2.2.2.2.2.1, v.2.2.2.2.2.2.2.2.2.1, v.2.2.2.2.2.2.2.2.2.2.1, v.2.2.2.2.2.2.2.2.2.2.2.1, a)
/-- the object of a State, its rows at the places from a on -/
abbrev stO (a : Nat) (v : SV) : am_C := am_oj 2 [.ref a, .long (vX v), .int (vRo v), .int (vDa v), .int (vRa v), .int (vTa v), .int (vBo v), .ref (a + 1), .ref (a + 2), .ref (a + 3), .ref (a + 4), .ref (a + 5), .ref (a + 6)]
/-- a State's eight cells, the first at the place a -/
def stB (a : Nat) (v : SV) : am_H := [some (stO (a + 1) v), some (am_ia 6 (vS v)), some (am_ia 8 (vH v)), some (am_ia 8 (vP v)), some (am_ia 8 (vT v)), some (am_ia 8 (vF v)), some (am_ia 8 (vI v)), some (am_ia 8 (vL v))]
def stH (v : SV) : am_H := none :: none :: stB 2 v
abbrev stP (v : SV) (n k : Nat) : Prop := k < n ∧ vP v k ≠ -6
def mixF (f g : Nat → Int32) (k : Nat) : Nat → Int32 := fun j => if j < k then f j else g j
theorem mixF_s (f g : Nat → Int32) (k : Nat) : upd (mixF f g k) k (f k) = mixF f g (k + 1) := by
  funext j
  unfold upd mixF
  by_cases h : j = k
  · subst h; simp
  · by_cases h2 : j < k
    · simp [h, h2, show j < k + 1 by omega]
    · simp [h, h2, show ¬ j < k + 1 by omega]
theorem mixF_0 (f g : Nat → Int32) : mixF f g 0 = g := by funext j; simp [mixF]
set_option maxHeartbeats 4000000 in
set_option maxRecDepth 100000 in
theorem sX3_isBooth (v : SV) (n : Nat) (hn : vBo v = nI n) (h8 : n ≤ 8) (b : Int32) : am_Sp mX3_isBooth [.ref 2, .int b] (stH v) (am_bp (0 ≤ b.toInt ∧ b.toInt < n) (stH v)) := by
  refine am_intro (by decide) (Nat.le_of_ble_eq_true rfl) ?_
  refine ar_iload_n (i := 1) (pc := 0) dX3_isBooth_0 rfl rfl ?_
  refine ar_if_lt (pc := 1) (tgt := 22) dX3_isBooth_1 (by decide) (fun c1 => ?_) (fun c1 => ?_)
  · refine ar_iconst (pc := 22) dX3_isBooth_22 q_iconst_0 ?_
    first
      | exact ar_zret (pc := 23) dX3_isBooth_23 rfl (Or.inr rfl) rfl rfl ⟨Or.inl ⟨by (simp (disch := omega) only [Int32.lt_iff_toInt_lt, Int32.le_iff_toInt_le, ← Int32.toInt_inj, ti_m6, ti_m1, ti_0, ti_1, ti_2, ti_3, ti_4, ti_5, ti_6, ti_7, ti_8, ti_9, ti_12, ti_100, ti_9999, ti_60, nI_toInt, hn] at *) <;> omega, rfl⟩, rfl⟩
      | exact ar_zret (pc := 23) dX3_isBooth_23 rfl (Or.inl rfl) rfl rfl ⟨Or.inr ⟨by (simp (disch := omega) only [Int32.lt_iff_toInt_lt, Int32.le_iff_toInt_le, ← Int32.toInt_inj, ti_m6, ti_m1, ti_0, ti_1, ti_2, ti_3, ti_4, ti_5, ti_6, ti_7, ti_8, ti_9, ti_12, ti_100, ti_9999, ti_60, nI_toInt, hn] at *) <;> omega, rfl⟩, rfl⟩
  · refine ar_iload_n (i := 1) (pc := 4) dX3_isBooth_4 rfl rfl ?_
    refine ar_aload_n (i := 0) (pc := 5) dX3_isBooth_5 rfl rfl ?_
    refine ar_getf (pc := 6) dX3_isBooth_6 fX3_60 rfl rfl ?_
    refine ar_icmp_ge (pc := 9) (tgt := 22) dX3_isBooth_9 (by decide) (fun c9 => ?_) (fun c9 => ?_)
    · refine ar_iconst (pc := 22) dX3_isBooth_22 q_iconst_0 ?_
      first
        | exact ar_zret (pc := 23) dX3_isBooth_23 rfl (Or.inr rfl) rfl rfl ⟨Or.inl ⟨by (simp (disch := omega) only [Int32.lt_iff_toInt_lt, Int32.le_iff_toInt_le, ← Int32.toInt_inj, ti_m6, ti_m1, ti_0, ti_1, ti_2, ti_3, ti_4, ti_5, ti_6, ti_7, ti_8, ti_9, ti_12, ti_100, ti_9999, ti_60, nI_toInt, hn] at *) <;> omega, rfl⟩, rfl⟩
        | exact ar_zret (pc := 23) dX3_isBooth_23 rfl (Or.inl rfl) rfl rfl ⟨Or.inr ⟨by (simp (disch := omega) only [Int32.lt_iff_toInt_lt, Int32.le_iff_toInt_le, ← Int32.toInt_inj, ti_m6, ti_m1, ti_0, ti_1, ti_2, ti_3, ti_4, ti_5, ti_6, ti_7, ti_8, ti_9, ti_12, ti_100, ti_9999, ti_60, nI_toInt, hn] at *) <;> omega, rfl⟩, rfl⟩
    · refine ar_iload_n (i := 1) (pc := 12) dX3_isBooth_12 rfl rfl ?_
      refine ar_bipush (pc := 13) dX3_isBooth_13 q_bipush_8 ?_
      refine ar_icmp_ge (pc := 15) (tgt := 22) dX3_isBooth_15 (by decide) (fun c15 => ?_) (fun c15 => ?_)
      · refine ar_iconst (pc := 22) dX3_isBooth_22 q_iconst_0 ?_
        first
          | exact ar_zret (pc := 23) dX3_isBooth_23 rfl (Or.inr rfl) rfl rfl ⟨Or.inl ⟨by (simp (disch := omega) only [Int32.lt_iff_toInt_lt, Int32.le_iff_toInt_le, ← Int32.toInt_inj, ti_m6, ti_m1, ti_0, ti_1, ti_2, ti_3, ti_4, ti_5, ti_6, ti_7, ti_8, ti_9, ti_12, ti_100, ti_9999, ti_60, nI_toInt, hn] at *) <;> omega, rfl⟩, rfl⟩
          | exact ar_zret (pc := 23) dX3_isBooth_23 rfl (Or.inl rfl) rfl rfl ⟨Or.inr ⟨by (simp (disch := omega) only [Int32.lt_iff_toInt_lt, Int32.le_iff_toInt_le, ← Int32.toInt_inj, ti_m6, ti_m1, ti_0, ti_1, ti_2, ti_3, ti_4, ti_5, ti_6, ti_7, ti_8, ti_9, ti_12, ti_100, ti_9999, ti_60, nI_toInt, hn] at *) <;> omega, rfl⟩, rfl⟩
      · refine ar_iconst (pc := 18) dX3_isBooth_18 q_iconst_1 ?_
        refine ar_goto (tgt := 23) (pc := 19) dX3_isBooth_19 (by decide) ?_
        first
          | exact ar_zret (pc := 23) dX3_isBooth_23 rfl (Or.inr rfl) rfl rfl ⟨Or.inl ⟨by (simp (disch := omega) only [Int32.lt_iff_toInt_lt, Int32.le_iff_toInt_le, ← Int32.toInt_inj, ti_m6, ti_m1, ti_0, ti_1, ti_2, ti_3, ti_4, ti_5, ti_6, ti_7, ti_8, ti_9, ti_12, ti_100, ti_9999, ti_60, nI_toInt, hn] at *) <;> omega, rfl⟩, rfl⟩
          | exact ar_zret (pc := 23) dX3_isBooth_23 rfl (Or.inl rfl) rfl rfl ⟨Or.inr ⟨by (simp (disch := omega) only [Int32.lt_iff_toInt_lt, Int32.le_iff_toInt_le, ← Int32.toInt_inj, ti_m6, ti_m1, ti_0, ti_1, ti_2, ti_3, ti_4, ti_5, ti_6, ti_7, ti_8, ti_9, ti_12, ti_100, ti_9999, ti_60, nI_toInt, hn] at *) <;> omega, rfl⟩, rfl⟩
