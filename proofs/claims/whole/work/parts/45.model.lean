/-! the reference: what its cells are; leaves -/
/-- the values of a reference object: rows, past, known, slots, isSaved, pad, length, stops -/
abbrev RV : Type := (Nat → Int32) × (Nat → Int32) × Int32 × (Nat → Int32) × (Nat → Int32) × (Nat → Int32) × Int32 × (Nat → Int32)
def rq_S (q : RV) : Nat → Int32 := q.1
def rq_A (q : RV) : Nat → Int32 := q.2.1
def rq_K (q : RV) : Int32 := q.2.2.1
def rq_L (q : RV) : Nat → Int32 := q.2.2.2.1
def rq_V (q : RV) : Nat → Int32 := q.2.2.2.2.1
def rq_P (q : RV) : Nat → Int32 := q.2.2.2.2.2.1
def rq_N (q : RV) : Int32 := q.2.2.2.2.2.2.1
def rq_T (q : RV) : Nat → Int32 := q.2.2.2.2.2.2.2
def ru_S (q : RV) (a : Nat → Int32) : RV := (a, q.2)
def ru_A (q : RV) (a : Nat → Int32) : RV := (q.1, a, q.2.2)
def ru_K (q : RV) (a : Int32) : RV := (q.1, q.2.1, a, q.2.2.2)
def ru_L (q : RV) (a : Nat → Int32) : RV := (q.1, q.2.1, q.2.2.1, a, q.2.2.2.2)
def ru_V (q : RV) (a : Nat → Int32) : RV := (q.1, q.2.1, q.2.2.1, q.2.2.2.1, a, q.2.2.2.2.2)
def ru_P (q : RV) (a : Nat → Int32) : RV := (q.1, q.2.1, q.2.2.1, q.2.2.2.1, q.2.2.2.2.1, a, q.2.2.2.2.2.2)
def ru_N (q : RV) (a : Int32) : RV := (q.1, q.2.1, q.2.2.1, q.2.2.2.1, q.2.2.2.2.1, q.2.2.2.2.2.1, a, q.2.2.2.2.2.2.2)
def ru_T (q : RV) (a : Nat → Int32) : RV := (q.1, q.2.1, q.2.2.1, q.2.2.2.1, q.2.2.2.2.1, q.2.2.2.2.2.1, q.2.2.2.2.2.2.1, a)
def md_B (a : Nat) (q : RV) : am_H := [some (am_oj 6 [.ref (a + 1), .ref (a + 2), .int (rq_K q), .ref (a + 3), .ref (a + 4), .ref (a + 5), .int (rq_N q), .ref (a + 6)]), some (am_ia 120 (rq_S q)), some (am_ia 360 (rq_A q)), some (am_ia 120 (rq_L q)), some (.inr (.inl (.boolean, true, 2, rq_V q))), some (am_ia 60 (rq_P q)), some (am_ia 16 (rq_T q))]
def md_H (q : RV) : am_H := none :: none :: md_B 2 q
theorem pat_md (q r : RV) : am_pat (md_H q) = am_pat (md_H r) := rfl
theorem md_S (q : RV) (f : Nat → Int32) : (md_H q).set 3 (some (am_ia 120 f)) = md_H (ru_S q f) := rfl
theorem md_A (q : RV) (f : Nat → Int32) : (md_H q).set 4 (some (am_ia 360 f)) = md_H (ru_A q f) := rfl
theorem md_L (q : RV) (f : Nat → Int32) : (md_H q).set 5 (some (am_ia 120 f)) = md_H (ru_L q f) := rfl
theorem md_P (q : RV) (f : Nat → Int32) : (md_H q).set 7 (some (am_ia 60 f)) = md_H (ru_P q f) := rfl
theorem md_T (q : RV) (f : Nat → Int32) : (md_H q).set 8 (some (am_ia 16 f)) = md_H (ru_T q f) := rfl
theorem md_V (q : RV) (f : Nat → Int32) : (md_H q).set 6 (some (.inr (.inl (.boolean, true, 2, f)))) = md_H (ru_V q f) := rfl
theorem md_K (q : RV) (a : Int32) : (md_H q).set 2 (some (.inl (6, ([.ref 3, .ref 4, .int (rq_K q), .ref 5, .ref 6, .ref 7, .int (rq_N q), .ref 8] : List Value).set 2 (.int a)))) = md_H (ru_K q a) := rfl
theorem md_N (q : RV) (a : Int32) : (md_H q).set 2 (some (.inl (6, ([.ref 3, .ref 4, .int (rq_K q), .ref 5, .ref 6, .ref 7, .int (rq_N q), .ref 8] : List Value).set 6 (.int a)))) = md_H (ru_N q a) := rfl
theorem rq_SS (q : RV) (a) : rq_S (ru_S q a) = a := rfl
theorem rq_SA (q : RV) (a) : rq_S (ru_A q a) = rq_S q := rfl
theorem rq_SK (q : RV) (a) : rq_S (ru_K q a) = rq_S q := rfl
theorem rq_SL (q : RV) (a) : rq_S (ru_L q a) = rq_S q := rfl
theorem rq_SV (q : RV) (a) : rq_S (ru_V q a) = rq_S q := rfl
theorem rq_SP (q : RV) (a) : rq_S (ru_P q a) = rq_S q := rfl
theorem rq_SN (q : RV) (a) : rq_S (ru_N q a) = rq_S q := rfl
theorem rq_ST (q : RV) (a) : rq_S (ru_T q a) = rq_S q := rfl
theorem ru_SS (q : RV) (a b) : ru_S (ru_S q a) b = ru_S q b := rfl
theorem ru_S0 (q : RV) : ru_S q (rq_S q) = q := rfl
theorem rq_AS (q : RV) (a) : rq_A (ru_S q a) = rq_A q := rfl
theorem rq_AA (q : RV) (a) : rq_A (ru_A q a) = a := rfl
theorem rq_AK (q : RV) (a) : rq_A (ru_K q a) = rq_A q := rfl
theorem rq_AL (q : RV) (a) : rq_A (ru_L q a) = rq_A q := rfl
theorem rq_AV (q : RV) (a) : rq_A (ru_V q a) = rq_A q := rfl
theorem rq_AP (q : RV) (a) : rq_A (ru_P q a) = rq_A q := rfl
theorem rq_AN (q : RV) (a) : rq_A (ru_N q a) = rq_A q := rfl
theorem rq_AT (q : RV) (a) : rq_A (ru_T q a) = rq_A q := rfl
theorem ru_AA (q : RV) (a b) : ru_A (ru_A q a) b = ru_A q b := rfl
theorem ru_A0 (q : RV) : ru_A q (rq_A q) = q := rfl
theorem rq_KS (q : RV) (a) : rq_K (ru_S q a) = rq_K q := rfl
theorem rq_KA (q : RV) (a) : rq_K (ru_A q a) = rq_K q := rfl
theorem rq_KK (q : RV) (a) : rq_K (ru_K q a) = a := rfl
theorem rq_KL (q : RV) (a) : rq_K (ru_L q a) = rq_K q := rfl
theorem rq_KV (q : RV) (a) : rq_K (ru_V q a) = rq_K q := rfl
theorem rq_KP (q : RV) (a) : rq_K (ru_P q a) = rq_K q := rfl
theorem rq_KN (q : RV) (a) : rq_K (ru_N q a) = rq_K q := rfl
theorem rq_KT (q : RV) (a) : rq_K (ru_T q a) = rq_K q := rfl
theorem ru_KK (q : RV) (a b) : ru_K (ru_K q a) b = ru_K q b := rfl
theorem ru_K0 (q : RV) : ru_K q (rq_K q) = q := rfl
theorem rq_LS (q : RV) (a) : rq_L (ru_S q a) = rq_L q := rfl
theorem rq_LA (q : RV) (a) : rq_L (ru_A q a) = rq_L q := rfl
theorem rq_LK (q : RV) (a) : rq_L (ru_K q a) = rq_L q := rfl
theorem rq_LL (q : RV) (a) : rq_L (ru_L q a) = a := rfl
theorem rq_LV (q : RV) (a) : rq_L (ru_V q a) = rq_L q := rfl
theorem rq_LP (q : RV) (a) : rq_L (ru_P q a) = rq_L q := rfl
theorem rq_LN (q : RV) (a) : rq_L (ru_N q a) = rq_L q := rfl
theorem rq_LT (q : RV) (a) : rq_L (ru_T q a) = rq_L q := rfl
theorem ru_LL (q : RV) (a b) : ru_L (ru_L q a) b = ru_L q b := rfl
theorem ru_L0 (q : RV) : ru_L q (rq_L q) = q := rfl
theorem rq_VS (q : RV) (a) : rq_V (ru_S q a) = rq_V q := rfl
theorem rq_VA (q : RV) (a) : rq_V (ru_A q a) = rq_V q := rfl
theorem rq_VK (q : RV) (a) : rq_V (ru_K q a) = rq_V q := rfl
theorem rq_VL (q : RV) (a) : rq_V (ru_L q a) = rq_V q := rfl
theorem rq_VV (q : RV) (a) : rq_V (ru_V q a) = a := rfl
theorem rq_VP (q : RV) (a) : rq_V (ru_P q a) = rq_V q := rfl
theorem rq_VN (q : RV) (a) : rq_V (ru_N q a) = rq_V q := rfl
theorem rq_VT (q : RV) (a) : rq_V (ru_T q a) = rq_V q := rfl
theorem ru_VV (q : RV) (a b) : ru_V (ru_V q a) b = ru_V q b := rfl
theorem ru_V0 (q : RV) : ru_V q (rq_V q) = q := rfl
theorem rq_PS (q : RV) (a) : rq_P (ru_S q a) = rq_P q := rfl
theorem rq_PA (q : RV) (a) : rq_P (ru_A q a) = rq_P q := rfl
theorem rq_PK (q : RV) (a) : rq_P (ru_K q a) = rq_P q := rfl
theorem rq_PL (q : RV) (a) : rq_P (ru_L q a) = rq_P q := rfl
theorem rq_PV (q : RV) (a) : rq_P (ru_V q a) = rq_P q := rfl
theorem rq_PP (q : RV) (a) : rq_P (ru_P q a) = a := rfl
theorem rq_PN (q : RV) (a) : rq_P (ru_N q a) = rq_P q := rfl
theorem rq_PT (q : RV) (a) : rq_P (ru_T q a) = rq_P q := rfl
theorem ru_PP (q : RV) (a b) : ru_P (ru_P q a) b = ru_P q b := rfl
theorem ru_P0 (q : RV) : ru_P q (rq_P q) = q := rfl
theorem rq_NS (q : RV) (a) : rq_N (ru_S q a) = rq_N q := rfl
theorem rq_NA (q : RV) (a) : rq_N (ru_A q a) = rq_N q := rfl
theorem rq_NK (q : RV) (a) : rq_N (ru_K q a) = rq_N q := rfl
theorem rq_NL (q : RV) (a) : rq_N (ru_L q a) = rq_N q := rfl
theorem rq_NV (q : RV) (a) : rq_N (ru_V q a) = rq_N q := rfl
theorem rq_NP (q : RV) (a) : rq_N (ru_P q a) = rq_N q := rfl
theorem rq_NN (q : RV) (a) : rq_N (ru_N q a) = a := rfl
theorem rq_NT (q : RV) (a) : rq_N (ru_T q a) = rq_N q := rfl
theorem ru_NN (q : RV) (a b) : ru_N (ru_N q a) b = ru_N q b := rfl
theorem ru_N0 (q : RV) : ru_N q (rq_N q) = q := rfl
theorem rq_TS (q : RV) (a) : rq_T (ru_S q a) = rq_T q := rfl
theorem rq_TA (q : RV) (a) : rq_T (ru_A q a) = rq_T q := rfl
theorem rq_TK (q : RV) (a) : rq_T (ru_K q a) = rq_T q := rfl
theorem rq_TL (q : RV) (a) : rq_T (ru_L q a) = rq_T q := rfl
theorem rq_TV (q : RV) (a) : rq_T (ru_V q a) = rq_T q := rfl
theorem rq_TP (q : RV) (a) : rq_T (ru_P q a) = rq_T q := rfl
theorem rq_TN (q : RV) (a) : rq_T (ru_N q a) = rq_T q := rfl
theorem rq_TT (q : RV) (a) : rq_T (ru_T q a) = a := rfl
theorem ru_TT (q : RV) (a b) : ru_T (ru_T q a) b = ru_T q b := rfl
theorem ru_T0 (q : RV) : ru_T q (rq_T q) = q := rfl
/-- a place of the class as the reference writes it -/
def pm_ (x : Int32) : Int32 := if x = -6 then -1 else x
theorem pm_eq {x : Int32} {j : Nat} (hj : j < 100) : pm_ x = nI j ↔ x ≠ -6 ∧ x = nI j := by
  have e : (nI j).toInt = (j : Int) := nI_toInt (by omega)
  unfold pm_
  by_cases h : x = -6
  · rw [if_pos h]
    refine ⟨fun z => ?_, fun z => absurd h z.1⟩
    have := congrArg Int32.toInt z
    rw [ti_m1, e] at this
    omega
  · rw [if_neg h]
    exact ⟨fun z => ⟨h, z⟩, fun z => z.2⟩
theorem pm_neg {x : Int32} (h : x = -6 ∨ 0 ≤ x.toInt) : pm_ x < 0 ↔ x = -6 := by
  unfold pm_
  by_cases e : x = -6
  · rw [if_pos e]
    exact ⟨fun _ => e, fun _ => by decide +kernel⟩
  · rw [if_neg e]
    refine ⟨fun z => ?_, fun z => absurd z e⟩
    rw [Int32.lt_iff_toInt_lt, ti_0] at z
    rcases h with h | h
    · exact h
    · omega
theorem pm_b {x : Int32} (h : x = -6 ∨ 0 ≤ x.toInt) : (if pm_ x < 0 then (-6 : Int32) else pm_ x) = x := by
  by_cases e : x = -6
  · rw [if_pos ((pm_neg h).mpr e), e]
  · rw [if_neg (fun z => e ((pm_neg h).mp z)), pm_, if_neg e]
/-- the row at p of the reference is the State w, of n booths -/
def ro_R (p n : Nat) (w : SV) (s : Nat → Int32) : Prop :=
  (∀ k, k < 6 → s (p + k) = vS w k) ∧ s (p + 6) = (vX w).toInt32 ∧ s (p + 7) = nI n ∧ s (p + 8) = vRo w ∧ s (p + 9) = vDa w ∧ s (p + 10) = vRa w ∧ s (p + 11) = vTa w ∧ (∀ k, k < 8 → s (p + 12 + k) = pm_ (vL w k)) ∧
  ∀ k, k < n → s (p + 20 + 5 * k) = vH w k ∧ s (p + 20 + 5 * k + 1) = pm_ (vP w k) ∧ s (p + 20 + 5 * k + 2) = vT w k ∧ s (p + 20 + 5 * k + 3) = vF w k ∧ s (p + 20 + 5 * k + 4) = vI w k
theorem roS {p n : Nat} {w : SV} {s : Nat → Int32} (R : ro_R p n w s) : ∀ k, k < 6 → s (p + k) = vS w k := R.1
theorem roX {p n : Nat} {w : SV} {s : Nat → Int32} (R : ro_R p n w s) : s (p + 6) = (vX w).toInt32 := R.2.1
theorem roN {p n : Nat} {w : SV} {s : Nat → Int32} (R : ro_R p n w s) : s (p + 7) = nI n := R.2.2.1
theorem roRo {p n : Nat} {w : SV} {s : Nat → Int32} (R : ro_R p n w s) : s (p + 8) = vRo w := R.2.2.2.1
theorem roDa {p n : Nat} {w : SV} {s : Nat → Int32} (R : ro_R p n w s) : s (p + 9) = vDa w := R.2.2.2.2.1
theorem roRa {p n : Nat} {w : SV} {s : Nat → Int32} (R : ro_R p n w s) : s (p + 10) = vRa w := R.2.2.2.2.2.1
theorem roTa {p n : Nat} {w : SV} {s : Nat → Int32} (R : ro_R p n w s) : s (p + 11) = vTa w := R.2.2.2.2.2.2.1
theorem roL {p n : Nat} {w : SV} {s : Nat → Int32} (R : ro_R p n w s) : ∀ k, k < 8 → s (p + 12 + k) = pm_ (vL w k) := R.2.2.2.2.2.2.2.1
theorem roH {p n : Nat} {w : SV} {s : Nat → Int32} (R : ro_R p n w s) {k : Nat} (hk : k < n) : s (p + 20 + 5 * k) = vH w k := (R.2.2.2.2.2.2.2.2 k hk).1
theorem roP {p n : Nat} {w : SV} {s : Nat → Int32} (R : ro_R p n w s) {k : Nat} (hk : k < n) : s (p + 20 + 5 * k + 1) = pm_ (vP w k) := (R.2.2.2.2.2.2.2.2 k hk).2.1
theorem roT {p n : Nat} {w : SV} {s : Nat → Int32} (R : ro_R p n w s) {k : Nat} (hk : k < n) : s (p + 20 + 5 * k + 2) = vT w k := (R.2.2.2.2.2.2.2.2 k hk).2.2.1
theorem roF {p n : Nat} {w : SV} {s : Nat → Int32} (R : ro_R p n w s) {k : Nat} (hk : k < n) : s (p + 20 + 5 * k + 3) = vF w k := (R.2.2.2.2.2.2.2.2 k hk).2.2.2.1
theorem roI {p n : Nat} {w : SV} {s : Nat → Int32} (R : ro_R p n w s) {k : Nat} (hk : k < n) : s (p + 20 + 5 * k + 4) = vI w k := (R.2.2.2.2.2.2.2.2 k hk).2.2.2.2
theorem ro_ext {p n : Nat} {w : SV} {s t : Nat → Int32} (R : ro_R p n w s) (h8 : n ≤ 8) (h : ∀ j, p ≤ j → j < p + 60 → t j = s j) : ro_R p n w t := by
  obtain ⟨a1, a2, a3, a4, a5, a6, a7, a8, a9⟩ := R
  refine ⟨fun k hk => (h _ (by omega) (by omega)).trans (a1 k hk), (h _ (by omega) (by omega)).trans a2, (h _ (by omega) (by omega)).trans a3, (h _ (by omega) (by omega)).trans a4, (h _ (by omega) (by omega)).trans a5, (h _ (by omega) (by omega)).trans a6, (h _ (by omega) (by omega)).trans a7, fun k hk => (h _ (by omega) (by omega)).trans (a8 k hk), fun k hk => ?_⟩
  obtain ⟨b1, b2, b3, b4, b5⟩ := a9 k hk
  exact ⟨(h _ (by omega) (by omega)).trans b1, (h _ (by omega) (by omega)).trans b2, (h _ (by omega) (by omega)).trans b3, (h _ (by omega) (by omega)).trans b4, (h _ (by omega) (by omega)).trans b5⟩
theorem ro_move {p p' n : Nat} {w : SV} {s t : Nat → Int32} (R : ro_R p n w s) (h8 : n ≤ 8) (h : ∀ j, j < 60 → t (p' + j) = s (p + j)) : ro_R p' n w t := by
  obtain ⟨a1, a2, a3, a4, a5, a6, a7, a8, a9⟩ := R
  refine ⟨fun k hk => (h k (by omega)).trans (a1 k hk), (h 6 (by omega)).trans a2, (h 7 (by omega)).trans a3, (h 8 (by omega)).trans a4, (h 9 (by omega)).trans a5, (h 10 (by omega)).trans a6, (h 11 (by omega)).trans a7, fun k hk => ?_, fun k hk => ?_⟩
  · rw [Nat.add_assoc, h (12 + k) (by omega), ← Nat.add_assoc]
    exact a8 k hk
  · obtain ⟨b1, b2, b3, b4, b5⟩ := a9 k hk
    refine ⟨?_, ?_, ?_, ?_, ?_⟩
    · rw [show p' + 20 + 5 * k = p' + (20 + 5 * k) by omega, h (20 + 5 * k) (by omega), show p + (20 + 5 * k) = p + 20 + 5 * k by omega]
      exact b1
    · rw [show p' + 20 + 5 * k + 1 = p' + (20 + 5 * k + 1) by omega, h (20 + 5 * k + 1) (by omega), show p + (20 + 5 * k + 1) = p + 20 + 5 * k + 1 by omega]
      exact b2
    · rw [show p' + 20 + 5 * k + 2 = p' + (20 + 5 * k + 2) by omega, h (20 + 5 * k + 2) (by omega), show p + (20 + 5 * k + 2) = p + 20 + 5 * k + 2 by omega]
      exact b3
    · rw [show p' + 20 + 5 * k + 3 = p' + (20 + 5 * k + 3) by omega, h (20 + 5 * k + 3) (by omega), show p + (20 + 5 * k + 3) = p + 20 + 5 * k + 3 by omega]
      exact b4
    · rw [show p' + 20 + 5 * k + 4 = p' + (20 + 5 * k + 4) by omega, h (20 + 5 * k + 4) (by omega), show p + (20 + 5 * k + 4) = p + 20 + 5 * k + 4 by omega]
      exact b5
theorem ro_uS {p n : Nat} {w : SV} {s : Nat → Int32} (R : ro_R p n w s) {b : Nat} (hb : b < 6) (x : Int32) : ro_R p n (uS w (upd (vS w) b x)) (upd s (p + b) (x)) := by
  obtain ⟨a1, a2, a3, a4, a5, a6, a7, a8, a9⟩ := R
  refine ⟨?_, (pk_un (by omega)).trans a2, (pk_un (by omega)).trans a3, (pk_un (by omega)).trans a4, (pk_un (by omega)).trans a5, (pk_un (by omega)).trans a6, (pk_un (by omega)).trans a7, fun k hk => (pk_un (by omega)).trans (a8 k hk), fun k hk => ?_⟩
  · intro k hk
    by_cases e : k = b
    · subst e
      rw [pk_us]
      exact (pk_us).symm
    · rw [pk_un (by omega), a1 k hk]
      exact (pk_un e).symm
  · obtain ⟨b1, b2, b3, b4, b5⟩ := a9 k hk
    exact ⟨(pk_un (by omega)).trans b1, (pk_un (by omega)).trans b2, (pk_un (by omega)).trans b3, (pk_un (by omega)).trans b4, (pk_un (by omega)).trans b5⟩
theorem ro_uX {p n : Nat} {w : SV} {s : Nat → Int32} (R : ro_R p n w s) (x : Int64) : ro_R p n (uX w x) (upd s (p + 6) (x.toInt32)) := by
  obtain ⟨a1, a2, a3, a4, a5, a6, a7, a8, a9⟩ := R
  refine ⟨fun k hk => (pk_un (by omega)).trans (a1 k hk), pk_us, (pk_un (by omega)).trans a3, (pk_un (by omega)).trans a4, (pk_un (by omega)).trans a5, (pk_un (by omega)).trans a6, (pk_un (by omega)).trans a7, fun k hk => (pk_un (by omega)).trans (a8 k hk), fun k hk => ?_⟩
  obtain ⟨b1, b2, b3, b4, b5⟩ := a9 k hk
  exact ⟨(pk_un (by omega)).trans b1, (pk_un (by omega)).trans b2, (pk_un (by omega)).trans b3, (pk_un (by omega)).trans b4, (pk_un (by omega)).trans b5⟩
theorem ro_uRo {p n : Nat} {w : SV} {s : Nat → Int32} (R : ro_R p n w s) (x : Int32) : ro_R p n (uRo w x) (upd s (p + 8) (x)) := by
  obtain ⟨a1, a2, a3, a4, a5, a6, a7, a8, a9⟩ := R
  refine ⟨fun k hk => (pk_un (by omega)).trans (a1 k hk), (pk_un (by omega)).trans a2, (pk_un (by omega)).trans a3, pk_us, (pk_un (by omega)).trans a5, (pk_un (by omega)).trans a6, (pk_un (by omega)).trans a7, fun k hk => (pk_un (by omega)).trans (a8 k hk), fun k hk => ?_⟩
  obtain ⟨b1, b2, b3, b4, b5⟩ := a9 k hk
  exact ⟨(pk_un (by omega)).trans b1, (pk_un (by omega)).trans b2, (pk_un (by omega)).trans b3, (pk_un (by omega)).trans b4, (pk_un (by omega)).trans b5⟩
theorem ro_uDa {p n : Nat} {w : SV} {s : Nat → Int32} (R : ro_R p n w s) (x : Int32) : ro_R p n (uDa w x) (upd s (p + 9) (x)) := by
  obtain ⟨a1, a2, a3, a4, a5, a6, a7, a8, a9⟩ := R
  refine ⟨fun k hk => (pk_un (by omega)).trans (a1 k hk), (pk_un (by omega)).trans a2, (pk_un (by omega)).trans a3, (pk_un (by omega)).trans a4, pk_us, (pk_un (by omega)).trans a6, (pk_un (by omega)).trans a7, fun k hk => (pk_un (by omega)).trans (a8 k hk), fun k hk => ?_⟩
  obtain ⟨b1, b2, b3, b4, b5⟩ := a9 k hk
  exact ⟨(pk_un (by omega)).trans b1, (pk_un (by omega)).trans b2, (pk_un (by omega)).trans b3, (pk_un (by omega)).trans b4, (pk_un (by omega)).trans b5⟩
theorem ro_uRa {p n : Nat} {w : SV} {s : Nat → Int32} (R : ro_R p n w s) (x : Int32) : ro_R p n (uRa w x) (upd s (p + 10) (x)) := by
  obtain ⟨a1, a2, a3, a4, a5, a6, a7, a8, a9⟩ := R
  refine ⟨fun k hk => (pk_un (by omega)).trans (a1 k hk), (pk_un (by omega)).trans a2, (pk_un (by omega)).trans a3, (pk_un (by omega)).trans a4, (pk_un (by omega)).trans a5, pk_us, (pk_un (by omega)).trans a7, fun k hk => (pk_un (by omega)).trans (a8 k hk), fun k hk => ?_⟩
  obtain ⟨b1, b2, b3, b4, b5⟩ := a9 k hk
  exact ⟨(pk_un (by omega)).trans b1, (pk_un (by omega)).trans b2, (pk_un (by omega)).trans b3, (pk_un (by omega)).trans b4, (pk_un (by omega)).trans b5⟩
theorem ro_uTa {p n : Nat} {w : SV} {s : Nat → Int32} (R : ro_R p n w s) (x : Int32) : ro_R p n (uTa w x) (upd s (p + 11) (x)) := by
  obtain ⟨a1, a2, a3, a4, a5, a6, a7, a8, a9⟩ := R
  refine ⟨fun k hk => (pk_un (by omega)).trans (a1 k hk), (pk_un (by omega)).trans a2, (pk_un (by omega)).trans a3, (pk_un (by omega)).trans a4, (pk_un (by omega)).trans a5, (pk_un (by omega)).trans a6, pk_us, fun k hk => (pk_un (by omega)).trans (a8 k hk), fun k hk => ?_⟩
  obtain ⟨b1, b2, b3, b4, b5⟩ := a9 k hk
  exact ⟨(pk_un (by omega)).trans b1, (pk_un (by omega)).trans b2, (pk_un (by omega)).trans b3, (pk_un (by omega)).trans b4, (pk_un (by omega)).trans b5⟩
theorem ro_uL {p n : Nat} {w : SV} {s : Nat → Int32} (R : ro_R p n w s) {b : Nat} (hb : b < 8) (x : Int32) : ro_R p n (uL w (upd (vL w) b x)) (upd s (p + 12 + b) (pm_ x)) := by
  obtain ⟨a1, a2, a3, a4, a5, a6, a7, a8, a9⟩ := R
  refine ⟨fun k hk => (pk_un (by omega)).trans (a1 k hk), (pk_un (by omega)).trans a2, (pk_un (by omega)).trans a3, (pk_un (by omega)).trans a4, (pk_un (by omega)).trans a5, (pk_un (by omega)).trans a6, (pk_un (by omega)).trans a7, ?_, fun k hk => ?_⟩
  · intro k hk
    by_cases e : k = b
    · subst e
      rw [pk_us]
      exact (congrArg pm_ pk_us).symm
    · rw [pk_un (by omega), a8 k hk]
      exact (congrArg pm_ (pk_un e)).symm
  · obtain ⟨b1, b2, b3, b4, b5⟩ := a9 k hk
    exact ⟨(pk_un (by omega)).trans b1, (pk_un (by omega)).trans b2, (pk_un (by omega)).trans b3, (pk_un (by omega)).trans b4, (pk_un (by omega)).trans b5⟩
theorem ro_uH {p n : Nat} {w : SV} {s : Nat → Int32} (R : ro_R p n w s) (b : Nat) (x : Int32) : ro_R p n (uH w (upd (vH w) b x)) (upd s (p + 20 + 5 * b) (x)) := by
  obtain ⟨a1, a2, a3, a4, a5, a6, a7, a8, a9⟩ := R
  refine ⟨fun k hk => (pk_un (by omega)).trans (a1 k hk), (pk_un (by omega)).trans a2, (pk_un (by omega)).trans a3, (pk_un (by omega)).trans a4, (pk_un (by omega)).trans a5, (pk_un (by omega)).trans a6, (pk_un (by omega)).trans a7, fun k hk => (pk_un (by omega)).trans (a8 k hk), ?_⟩
  intro k hk
  obtain ⟨b1, b2, b3, b4, b5⟩ := a9 k hk
  refine ⟨?_, (pk_un (by omega)).trans b2, (pk_un (by omega)).trans b3, (pk_un (by omega)).trans b4, (pk_un (by omega)).trans b5⟩
  by_cases e : k = b
  · subst e
    rw [pk_us]
    exact (pk_us).symm
  · rw [pk_un (by omega), b1]
    exact (pk_un e).symm
theorem ro_uP {p n : Nat} {w : SV} {s : Nat → Int32} (R : ro_R p n w s) (b : Nat) (x : Int32) : ro_R p n (uP w (upd (vP w) b x)) (upd s (p + 20 + 5 * b + 1) (pm_ x)) := by
  obtain ⟨a1, a2, a3, a4, a5, a6, a7, a8, a9⟩ := R
  refine ⟨fun k hk => (pk_un (by omega)).trans (a1 k hk), (pk_un (by omega)).trans a2, (pk_un (by omega)).trans a3, (pk_un (by omega)).trans a4, (pk_un (by omega)).trans a5, (pk_un (by omega)).trans a6, (pk_un (by omega)).trans a7, fun k hk => (pk_un (by omega)).trans (a8 k hk), ?_⟩
  intro k hk
  obtain ⟨b1, b2, b3, b4, b5⟩ := a9 k hk
  refine ⟨(pk_un (by omega)).trans b1, ?_, (pk_un (by omega)).trans b3, (pk_un (by omega)).trans b4, (pk_un (by omega)).trans b5⟩
  by_cases e : k = b
  · subst e
    rw [pk_us]
    exact (congrArg pm_ pk_us).symm
  · rw [pk_un (by omega), b2]
    exact (congrArg pm_ (pk_un e)).symm
theorem ro_uT {p n : Nat} {w : SV} {s : Nat → Int32} (R : ro_R p n w s) (b : Nat) (x : Int32) : ro_R p n (uT w (upd (vT w) b x)) (upd s (p + 20 + 5 * b + 2) (x)) := by
  obtain ⟨a1, a2, a3, a4, a5, a6, a7, a8, a9⟩ := R
  refine ⟨fun k hk => (pk_un (by omega)).trans (a1 k hk), (pk_un (by omega)).trans a2, (pk_un (by omega)).trans a3, (pk_un (by omega)).trans a4, (pk_un (by omega)).trans a5, (pk_un (by omega)).trans a6, (pk_un (by omega)).trans a7, fun k hk => (pk_un (by omega)).trans (a8 k hk), ?_⟩
  intro k hk
  obtain ⟨b1, b2, b3, b4, b5⟩ := a9 k hk
  refine ⟨(pk_un (by omega)).trans b1, (pk_un (by omega)).trans b2, ?_, (pk_un (by omega)).trans b4, (pk_un (by omega)).trans b5⟩
  by_cases e : k = b
  · subst e
    rw [pk_us]
    exact (pk_us).symm
  · rw [pk_un (by omega), b3]
    exact (pk_un e).symm
theorem ro_uF {p n : Nat} {w : SV} {s : Nat → Int32} (R : ro_R p n w s) (b : Nat) (x : Int32) : ro_R p n (uF w (upd (vF w) b x)) (upd s (p + 20 + 5 * b + 3) (x)) := by
  obtain ⟨a1, a2, a3, a4, a5, a6, a7, a8, a9⟩ := R
  refine ⟨fun k hk => (pk_un (by omega)).trans (a1 k hk), (pk_un (by omega)).trans a2, (pk_un (by omega)).trans a3, (pk_un (by omega)).trans a4, (pk_un (by omega)).trans a5, (pk_un (by omega)).trans a6, (pk_un (by omega)).trans a7, fun k hk => (pk_un (by omega)).trans (a8 k hk), ?_⟩
  intro k hk
  obtain ⟨b1, b2, b3, b4, b5⟩ := a9 k hk
  refine ⟨(pk_un (by omega)).trans b1, (pk_un (by omega)).trans b2, (pk_un (by omega)).trans b3, ?_, (pk_un (by omega)).trans b5⟩
  by_cases e : k = b
  · subst e
    rw [pk_us]
    exact (pk_us).symm
  · rw [pk_un (by omega), b4]
    exact (pk_un e).symm
theorem ro_uI {p n : Nat} {w : SV} {s : Nat → Int32} (R : ro_R p n w s) (b : Nat) (x : Int32) : ro_R p n (uI w (upd (vI w) b x)) (upd s (p + 20 + 5 * b + 4) (x)) := by
  obtain ⟨a1, a2, a3, a4, a5, a6, a7, a8, a9⟩ := R
  refine ⟨fun k hk => (pk_un (by omega)).trans (a1 k hk), (pk_un (by omega)).trans a2, (pk_un (by omega)).trans a3, (pk_un (by omega)).trans a4, (pk_un (by omega)).trans a5, (pk_un (by omega)).trans a6, (pk_un (by omega)).trans a7, fun k hk => (pk_un (by omega)).trans (a8 k hk), ?_⟩
  intro k hk
  obtain ⟨b1, b2, b3, b4, b5⟩ := a9 k hk
  refine ⟨(pk_un (by omega)).trans b1, (pk_un (by omega)).trans b2, (pk_un (by omega)).trans b3, (pk_un (by omega)).trans b4, ?_⟩
  by_cases e : k = b
  · subst e
    rw [pk_us]
    exact (pk_us).symm
  · rw [pk_un (by omega), b5]
    exact (pk_un e).symm
set_option maxHeartbeats 4000000 in
set_option maxRecDepth 100000 in
theorem sX7_inB (h : am_H) (v lo hi : Int32) : am_Sp mX7_in [.int v, .int lo, .int hi] (h) (am_bp (lo.toInt ≤ v.toInt ∧ v.toInt ≤ hi.toInt) h) := by
  refine am_intro (by decide) (Nat.le_of_ble_eq_true rfl) ?_
  refine ar_iload_n (i := 0) (pc := 0) dX7_in_0 rfl rfl ?_
  refine ar_iload_n (i := 1) (pc := 1) dX7_in_1 rfl rfl ?_
  refine ar_icmp_lt (pc := 2) (tgt := 14) dX7_in_2 (by decide) (fun c2 => ?_) (fun c2 => ?_)
  · refine ar_iconst (pc := 14) dX7_in_14 q_iconst_0 ?_
    first
      | exact ar_zret (pc := 15) dX7_in_15 rfl (Or.inr rfl) rfl rfl ⟨Or.inl ⟨by (simp (disch := omega) only [Int32.lt_iff_toInt_lt, Int32.le_iff_toInt_le, ← Int32.toInt_inj, ti_m6, ti_m1, ti_0, ti_1, ti_2, ti_3, ti_4, ti_5, ti_6, ti_7, ti_8, ti_9, ti_12, ti_100, ti_9999, ti_60, nI_toInt] at *) <;> omega, rfl⟩, rfl⟩
      | exact ar_zret (pc := 15) dX7_in_15 rfl (Or.inl rfl) rfl rfl ⟨Or.inr ⟨by (simp (disch := omega) only [Int32.lt_iff_toInt_lt, Int32.le_iff_toInt_le, ← Int32.toInt_inj, ti_m6, ti_m1, ti_0, ti_1, ti_2, ti_3, ti_4, ti_5, ti_6, ti_7, ti_8, ti_9, ti_12, ti_100, ti_9999, ti_60, nI_toInt] at *) <;> omega, rfl⟩, rfl⟩
  · refine ar_iload_n (i := 0) (pc := 5) dX7_in_5 rfl rfl ?_
    refine ar_iload_n (i := 2) (pc := 6) dX7_in_6 rfl rfl ?_
    refine ar_icmp_gt (pc := 7) (tgt := 14) dX7_in_7 (by decide) (fun c7 => ?_) (fun c7 => ?_)
    · refine ar_iconst (pc := 14) dX7_in_14 q_iconst_0 ?_
      first
        | exact ar_zret (pc := 15) dX7_in_15 rfl (Or.inr rfl) rfl rfl ⟨Or.inl ⟨by (simp (disch := omega) only [Int32.lt_iff_toInt_lt, Int32.le_iff_toInt_le, ← Int32.toInt_inj, ti_m6, ti_m1, ti_0, ti_1, ti_2, ti_3, ti_4, ti_5, ti_6, ti_7, ti_8, ti_9, ti_12, ti_100, ti_9999, ti_60, nI_toInt] at *) <;> omega, rfl⟩, rfl⟩
        | exact ar_zret (pc := 15) dX7_in_15 rfl (Or.inl rfl) rfl rfl ⟨Or.inr ⟨by (simp (disch := omega) only [Int32.lt_iff_toInt_lt, Int32.le_iff_toInt_le, ← Int32.toInt_inj, ti_m6, ti_m1, ti_0, ti_1, ti_2, ti_3, ti_4, ti_5, ti_6, ti_7, ti_8, ti_9, ti_12, ti_100, ti_9999, ti_60, nI_toInt] at *) <;> omega, rfl⟩, rfl⟩
    · refine ar_iconst (pc := 10) dX7_in_10 q_iconst_1 ?_
      refine ar_goto (tgt := 15) (pc := 11) dX7_in_11 (by decide) ?_
      first
        | exact ar_zret (pc := 15) dX7_in_15 rfl (Or.inr rfl) rfl rfl ⟨Or.inl ⟨by (simp (disch := omega) only [Int32.lt_iff_toInt_lt, Int32.le_iff_toInt_le, ← Int32.toInt_inj, ti_m6, ti_m1, ti_0, ti_1, ti_2, ti_3, ti_4, ti_5, ti_6, ti_7, ti_8, ti_9, ti_12, ti_100, ti_9999, ti_60, nI_toInt] at *) <;> omega, rfl⟩, rfl⟩
        | exact ar_zret (pc := 15) dX7_in_15 rfl (Or.inl rfl) rfl rfl ⟨Or.inr ⟨by (simp (disch := omega) only [Int32.lt_iff_toInt_lt, Int32.le_iff_toInt_le, ← Int32.toInt_inj, ti_m6, ti_m1, ti_0, ti_1, ti_2, ti_3, ti_4, ti_5, ti_6, ti_7, ti_8, ti_9, ti_12, ti_100, ti_9999, ti_60, nI_toInt] at *) <;> omega, rfl⟩, rfl⟩

theorem inb_iff {n : Nat} {b x : Int32} (hx : x = nI n) (h8 : n ≤ 8) : ((0 : Int32).toInt ≤ b.toInt ∧ b.toInt ≤ (x - 1).toInt) ↔ bkP n b := by
  have e : (nI n - 1).toInt = (n : Int) - 1 := by
    have := pk_sub_toInt (a := n) (b := 1) (by omega) (by omega)
    exact this
  rw [hx, e, ti_0]
  constructor <;> (intro z; constructor <;> omega)
theorem inp_iff {b : Int32} : ((0 : Int32).toInt ≤ b.toInt ∧ b.toInt ≤ (11 : Int32).toInt) ↔ inP b := by
  rw [ti_0, show (11 : Int32).toInt = 11 by decide +kernel]
  constructor <;> (intro z; constructor <;> omega)
set_option maxHeartbeats 4000000 in
set_option maxRecDepth 100000 in
theorem sX7_isBooth (q : RV) (n : Nat) (hB : rq_S q 7 = nI n) (h8 : n ≤ 8) (b : Int32) : am_Sp mX7_isBooth [.ref 2, .int b] (md_H q) (am_bp (bkP n b) (md_H q)) := by
  refine am_intro (by decide) (Nat.le_of_ble_eq_true rfl) ?_
  refine ar_iload_n (i := 1) (pc := 0) dX7_isBooth_0 rfl rfl ?_
  refine ar_iconst (pc := 1) dX7_isBooth_1 q_iconst_0 ?_
  refine ar_aload_n (i := 0) (pc := 2) dX7_isBooth_2 rfl rfl ?_
  refine ar_getf (pc := 3) dX7_isBooth_3 fX7_7 rfl rfl ?_
  refine ar_bipush (pc := 6) dX7_isBooth_6 q_bipush_7 ?_
  refine ar_iald (pc := 8) dX7_isBooth_8 rfl (show 7 < 120 by decide) rfl ?_
  refine ar_iconst (pc := 9) dX7_isBooth_9 q_iconst_1 ?_
  refine ar_isub (pc := 10) dX7_isBooth_10 ?_
  refine ar_idS (pc := 11) dX7_isBooth_11 cal_X7_in kX7_32 rfl (sX7_inB (md_H q) b 0 (rq_S q 7 - 1)) rfl rfl rfl rfl rfl (fun r h1 hp => ?_)
  obtain ⟨⟨h11, rfl⟩ | ⟨h11, rfl⟩, rfl⟩ := hp
  · refine ⟨rfl, ?_⟩
    exact ar_zret (pc := 14) dX7_isBooth_14 rfl (Or.inr rfl) rfl rfl ⟨Or.inl ⟨(inb_iff hB h8).mp h11, rfl⟩, rfl⟩
  · refine ⟨rfl, ?_⟩
    exact ar_zret (pc := 14) dX7_isBooth_14 rfl (Or.inl rfl) rfl rfl ⟨Or.inr ⟨fun z => h11 ((inb_iff hB h8).mpr z), rfl⟩, rfl⟩

set_option maxHeartbeats 4000000 in
set_option maxRecDepth 100000 in
theorem sX7_isPitch (h : am_H) (b : Int32) : am_Sp mX7_isPitch [.int b] (h) (am_bp (inP b) h) := by
  refine am_intro (by decide) (Nat.le_of_ble_eq_true rfl) ?_
  refine ar_iload_n (i := 0) (pc := 0) dX7_isPitch_0 rfl rfl ?_
  refine ar_iconst (pc := 1) dX7_isPitch_1 q_iconst_0 ?_
  refine ar_bipush (pc := 2) dX7_isPitch_2 q_bipush_11 ?_
  refine ar_idS (pc := 4) dX7_isPitch_4 cal_X7_in kX7_32 rfl (sX7_inB h b 0 11) rfl rfl rfl rfl rfl (fun r h1 hp => ?_)
  obtain ⟨⟨h4, rfl⟩ | ⟨h4, rfl⟩, rfl⟩ := hp
  · refine ⟨rfl, ?_⟩
    exact ar_zret (pc := 7) dX7_isPitch_7 rfl (Or.inr rfl) rfl rfl ⟨Or.inl ⟨inp_iff.mp h4, rfl⟩, rfl⟩
  · refine ⟨rfl, ?_⟩
    exact ar_zret (pc := 7) dX7_isPitch_7 rfl (Or.inl rfl) rfl rfl ⟨Or.inr ⟨fun z => h4 (inp_iff.mpr z), rfl⟩, rfl⟩

theorem sX7_at0 (h : am_H) (k : Nat) : am_Sp mX7_at [.int 0, .int (nI k)] h (fun r h1 => r = some (.int (nI (20 + 5 * k))) ∧ h1 = h) := by
  have := sX7_at h 0 k
  rw [nI_0, Nat.zero_add] at this
  exact this
set_option maxHeartbeats 4000000 in
set_option maxRecDepth 100000 in
theorem sX7_its (q : RV) {k : Nat} (hk : k < 8) {c : Nat} (hc : c < 5) : am_Sp mX7_its [.ref 2, .int (nI k), .int (nI c)] (md_H q) (am_rp (rq_S q (20 + 5 * k + c)) (md_H q)) := by
  refine am_intro (by decide) (Nat.le_of_ble_eq_true rfl) ?_
  refine ar_aload_n (i := 0) (pc := 0) dX7_its_0 rfl rfl ?_
  refine ar_getf (pc := 1) dX7_its_1 fX7_7 rfl rfl ?_
  refine ar_iconst (pc := 4) dX7_its_4 q_iconst_0 ?_
  refine ar_iload_n (i := 1) (pc := 5) dX7_its_5 rfl rfl ?_
  refine ar_idS (pc := 6) dX7_its_6 cal_X7_at kX7_36 rfl (sX7_at0 (md_H q) k) rfl rfl rfl rfl rfl (fun r h1 hp => ?_)
  obtain ⟨rfl, rfl⟩ := hp
  refine ⟨rfl, ?_⟩
  refine ar_iload_n (i := 2) (pc := 9) dX7_its_9 rfl rfl ?_
  refine ar_iadd (pc := 10) dX7_its_10 ?_
  refine ar_iald (pc := 11) dX7_its_11 rfl (show 20 + 5 * k + c < 120 by omega) (nI_add _ _) ?_
  exact ar_iret (pc := 12) dX7_its_12 rfl rfl rfl ⟨rfl, rfl⟩

theorem sX7_its0 (q : RV) {k : Nat} (hk : k < 8) : am_Sp mX7_its [.ref 2, .int (nI k), .int 0] (md_H q) (am_rp (rq_S q (20 + 5 * k)) (md_H q)) := by
  have := sX7_its q hk (c := 0) (by decide)
  rw [show nI 0 = (0 : Int32) from rfl] at this
  exact this
theorem sX7_its1 (q : RV) {k : Nat} (hk : k < 8) : am_Sp mX7_its [.ref 2, .int (nI k), .int 1] (md_H q) (am_rp (rq_S q (20 + 5 * k + 1)) (md_H q)) := by
  have := sX7_its q hk (c := 1) (by decide)
  rw [show nI 1 = (1 : Int32) from rfl] at this
  exact this
theorem ffi_z {q : Nat → Bool} : ∀ (d k : Nat), (∀ i, k ≤ i → q i = false) → ffi q d k = none
  | 0, _, _ => rfl
  | d + 1, k, h => by
    rw [ffi, if_neg (by rw [h k (Nat.le_refl k)]; decide)]
    exact ffi_z d (k + 1) (fun i hi => h i (by omega))
set_option maxHeartbeats 4000000 in
set_option maxRecDepth 100000 in
theorem lX7_boothAt (h0 : am_H) (q : RV) (p n : Nat) (hp : p ≤ 60) (w : SV) (R : ro_R p n w (rq_S q)) (h8 : n ≤ 8) (j : Nat) (hj : j < 12) (o : Option Nat) : ∀ (d k : Nat), k + d = 8 → k ≤ n → ffi (atQ w n (nI j)) d k = o → am_RW mX7_boothAt h0 (am_rp (o2i o) (md_H q)) 0 0 2 [some (.ref 2), some (.int (nI p)), some (.int (nI j)), some (.int (nI k))] [] (md_H q) := by
  intro d
  induction d with
  | zero =>
    intro k hk hkn ho
    have e : k = n := by omega
    subst e
    refine ar_iload_n (i := 3) (pc := 2) dX7_boothAt_2 rfl rfl ?_
    refine ar_aload_n (i := 0) (pc := 3) dX7_boothAt_3 rfl rfl ?_
    refine ar_getf (pc := 4) dX7_boothAt_4 fX7_7 rfl rfl ?_
    refine ar_iload_n (i := 1) (pc := 7) dX7_boothAt_7 rfl rfl ?_
    refine ar_bipush (pc := 8) dX7_boothAt_8 q_bipush_7 ?_
    refine ar_iadd (pc := 10) dX7_boothAt_10 ?_
    refine ar_iald (pc := 11) dX7_boothAt_11 rfl (show p + 7 < 120 by omega) (nI_add p 7) ?_
    rw [roN R]
    refine ar_icmp_ge (pc := 12) (tgt := 39) dX7_boothAt_12 (by decide) (fun c12 => ?_) (fun c12 => absurd (Int32.le_refl _) c12)
    refine ar_bipush (pc := 39) dX7_boothAt_39 q_bipush_m6 ?_
    exact ar_iret (pc := 41) dX7_boothAt_41 rfl rfl rfl ⟨by rw [← ho]; rfl, rfl⟩
  | succ d ih =>
    intro k hk hkn ho
    by_cases hlt : k < n
    · refine ar_iload_n (i := 3) (pc := 2) dX7_boothAt_2 rfl rfl ?_
      refine ar_aload_n (i := 0) (pc := 3) dX7_boothAt_3 rfl rfl ?_
      refine ar_getf (pc := 4) dX7_boothAt_4 fX7_7 rfl rfl ?_
      refine ar_iload_n (i := 1) (pc := 7) dX7_boothAt_7 rfl rfl ?_
      refine ar_bipush (pc := 8) dX7_boothAt_8 q_bipush_7 ?_
      refine ar_iadd (pc := 10) dX7_boothAt_10 ?_
      refine ar_iald (pc := 11) dX7_boothAt_11 rfl (show p + 7 < 120 by omega) (nI_add p 7) ?_
      rw [roN R]
      refine ar_icmp_ge (pc := 12) (tgt := 39) dX7_boothAt_12 (by decide) (fun c12 => absurd ((nI_leI (by omega) (by omega)).mp c12) (by omega)) (fun c12 => ?_)
      refine ar_aload_n (i := 0) (pc := 15) dX7_boothAt_15 rfl rfl ?_
      refine ar_getf (pc := 16) dX7_boothAt_16 fX7_7 rfl rfl ?_
      refine ar_iload_n (i := 1) (pc := 19) dX7_boothAt_19 rfl rfl ?_
      refine ar_iload_n (i := 3) (pc := 20) dX7_boothAt_20 rfl rfl ?_
      refine ar_idS (pc := 21) dX7_boothAt_21 cal_X7_at kX7_36 rfl (sX7_at (md_H q) p k) rfl rfl rfl rfl rfl (fun r h1 hp => ?_)
      obtain ⟨rfl, rfl⟩ := hp
      refine ⟨rfl, ?_⟩
      refine ar_iconst (pc := 24) dX7_boothAt_24 q_iconst_1 ?_
      refine ar_iadd (pc := 25) dX7_boothAt_25 ?_
      refine ar_iald (pc := 26) dX7_boothAt_26 rfl (show p + 20 + 5 * k + 1 < 120 by omega) (nI_add _ 1) ?_
      rw [roP R hlt]
      refine ar_iload_n (i := 2) (pc := 27) dX7_boothAt_27 rfl rfl ?_
      refine ar_icmp_ne (pc := 28) (tgt := 33) dX7_boothAt_28 (by decide) (fun c28 => ?_) (fun c28 => ?_)
      · refine ar_iinc (pc := 33) dX7_boothAt_33 rfl (ni_inc _) (Nat.le_of_ble_eq_true rfl) rfl ?_
        refine ar_goto (tgt := 2) (pc := 36) dX7_boothAt_36 (by decide) ?_
        refine ih (k + 1) (by omega) (by omega) ?_
        rw [← ho, ffi, if_neg]
        intro z
        have z := of_decide_eq_true z
        exact c28 ((pm_eq (by omega)).mpr ⟨z.1.2, z.2⟩)
      · refine ar_iload_n (i := 3) (pc := 31) dX7_boothAt_31 rfl rfl ?_
        exact ar_iret (pc := 32) dX7_boothAt_32 rfl rfl rfl ⟨by rw [← ho, ffi, if_pos (decide_eq_true ⟨⟨hlt, (pm_eq (by omega)).mp c28 |>.1⟩, (pm_eq (by omega)).mp c28 |>.2⟩)]; rfl, rfl⟩
    · have e : k = n := by omega
      subst e
      refine ar_iload_n (i := 3) (pc := 2) dX7_boothAt_2 rfl rfl ?_
      refine ar_aload_n (i := 0) (pc := 3) dX7_boothAt_3 rfl rfl ?_
      refine ar_getf (pc := 4) dX7_boothAt_4 fX7_7 rfl rfl ?_
      refine ar_iload_n (i := 1) (pc := 7) dX7_boothAt_7 rfl rfl ?_
      refine ar_bipush (pc := 8) dX7_boothAt_8 q_bipush_7 ?_
      refine ar_iadd (pc := 10) dX7_boothAt_10 ?_
      refine ar_iald (pc := 11) dX7_boothAt_11 rfl (show p + 7 < 120 by omega) (nI_add p 7) ?_
      rw [roN R]
      refine ar_icmp_ge (pc := 12) (tgt := 39) dX7_boothAt_12 (by decide) (fun c12 => ?_) (fun c12 => absurd (Int32.le_refl _) c12)
      refine ar_bipush (pc := 39) dX7_boothAt_39 q_bipush_m6 ?_
      exact ar_iret (pc := 41) dX7_boothAt_41 rfl rfl rfl ⟨by rw [← ho, ffi_z _ _ (fun i hi => decide_eq_false (fun z => absurd z.1.1 (by omega)))]; rfl, rfl⟩
set_option maxHeartbeats 4000000 in
set_option maxRecDepth 100000 in
theorem sX7_boothAt (q : RV) (p n : Nat) (hp : p ≤ 60) (w : SV) (R : ro_R p n w (rq_S q)) (h8 : n ≤ 8) (j : Nat) (hj : j < 12) : am_Sp mX7_boothAt [.ref 2, .int (nI p), .int (nI j)] (md_H q) (am_rp (o2i (ffi (atQ w n (nI j)) 8 0)) (md_H q)) := by
  refine am_intro (by decide) (Nat.le_of_ble_eq_true rfl) ?_
  refine ar_iconst (pc := 0) dX7_boothAt_0 q_iconst_0 ?_
  refine ar_istore_n (i := 3) (pc := 1) dX7_boothAt_1 rfl (Nat.le_of_ble_eq_true rfl) rfl ?_
  exact lX7_boothAt _ q p n hp w R h8 j hj _ 8 0 (by omega) (by omega) rfl

theorem sX7_boothAt0 (q : RV) (n : Nat) (w : SV) (R : ro_R 0 n w (rq_S q)) (h8 : n ≤ 8) (j : Nat) (hj : j < 12) : am_Sp mX7_boothAt [.ref 2, .int 0, .int (nI j)] (md_H q) (am_rp (o2i (ffi (atQ w n (nI j)) 8 0)) (md_H q)) := by
  have := sX7_boothAt q 0 n (by omega) w R h8 j hj
  rw [nI_0] at this
  exact this
set_option maxHeartbeats 4000000 in
set_option maxRecDepth 100000 in
theorem sX7_isOthers (q : RV) (n : Nat) (w : SV) (R : ro_R 0 n w (rq_S q)) (h8 : n ≤ 8) {b : Nat} (hb : b < 8) (j : Nat) (hj : j < 12) : am_Sp mX7_isOthers [.ref 2, .int (nI b), .int (nI j)] (md_H q) (am_bp (tkP w n (nI j) b) (md_H q)) := by
  refine am_intro (by decide) (Nat.le_of_ble_eq_true rfl) ?_
  refine ar_aload_n (i := 0) (pc := 0) dX7_isOthers_0 rfl rfl ?_
  refine ar_iconst (pc := 1) dX7_isOthers_1 q_iconst_0 ?_
  refine ar_iload_n (i := 2) (pc := 2) dX7_isOthers_2 rfl rfl ?_
  refine ar_idV (pc := 3) dX7_isOthers_3 cal_X7_boothAt kX7_44 rfl (sX7_boothAt0 q n w R h8 j hj) rfl rfl rfl rfl rfl rfl rfl (fun r h1 hp => ?_)
  obtain ⟨rfl, rfl⟩ := hp
  refine ⟨rfl, ?_⟩
  refine ar_istore_n (i := 3) (pc := 6) dX7_isOthers_6 rfl (Nat.le_of_ble_eq_true rfl) rfl ?_
  refine ar_iload_n (i := 3) (pc := 7) dX7_isOthers_7 rfl rfl ?_
  refine ar_bipush (pc := 8) dX7_isOthers_8 q_bipush_m6 ?_
  refine ar_icmp_eq (pc := 10) (tgt := 22) dX7_isOthers_10 (by decide) (fun c10 => ?_) (fun c10 => ?_)
  · refine ar_iconst (pc := 22) dX7_isOthers_22 q_iconst_0 ?_
    first
      | exact ar_zret (pc := 23) dX7_isOthers_23 rfl (Or.inr rfl) rfl rfl ⟨Or.inl ⟨tk_1 c10 c15, rfl⟩, rfl⟩
      | exact ar_zret (pc := 23) dX7_isOthers_23 rfl (Or.inl rfl) rfl rfl ⟨Or.inr ⟨(fun z => by obtain ⟨k, z1, z2⟩ := z; have z3 := (ffi_spec _ _ _ z1).2.1; first | exact tk_2 z3 (by rw [← z1]; exact c10) | exact tk_3 z3 hb z2 (by rw [← z1]; exact c15)), rfl⟩, rfl⟩
  · refine ar_iload_n (i := 3) (pc := 13) dX7_isOthers_13 rfl rfl ?_
    refine ar_iload_n (i := 1) (pc := 14) dX7_isOthers_14 rfl rfl ?_
    refine ar_icmp_eq (pc := 15) (tgt := 22) dX7_isOthers_15 (by decide) (fun c15 => ?_) (fun c15 => ?_)
    · refine ar_iconst (pc := 22) dX7_isOthers_22 q_iconst_0 ?_
      first
        | exact ar_zret (pc := 23) dX7_isOthers_23 rfl (Or.inr rfl) rfl rfl ⟨Or.inl ⟨tk_1 c10 c15, rfl⟩, rfl⟩
        | exact ar_zret (pc := 23) dX7_isOthers_23 rfl (Or.inl rfl) rfl rfl ⟨Or.inr ⟨(fun z => by obtain ⟨k, z1, z2⟩ := z; have z3 := (ffi_spec _ _ _ z1).2.1; first | exact tk_2 z3 (by rw [← z1]; exact c10) | exact tk_3 z3 hb z2 (by rw [← z1]; exact c15)), rfl⟩, rfl⟩
    · refine ar_iconst (pc := 18) dX7_isOthers_18 q_iconst_1 ?_
      refine ar_goto (tgt := 23) (pc := 19) dX7_isOthers_19 (by decide) ?_
      first
        | exact ar_zret (pc := 23) dX7_isOthers_23 rfl (Or.inr rfl) rfl rfl ⟨Or.inl ⟨tk_1 c10 c15, rfl⟩, rfl⟩
        | exact ar_zret (pc := 23) dX7_isOthers_23 rfl (Or.inl rfl) rfl rfl ⟨Or.inr ⟨(fun z => by obtain ⟨k, z1, z2⟩ := z; have z3 := (ffi_spec _ _ _ z1).2.1; first | exact tk_2 z3 (by rw [← z1]; exact c10) | exact tk_3 z3 hb z2 (by rw [← z1]; exact c15)), rfl⟩, rfl⟩

