/-! the reference asked: seen, count, lot, if it stood -/
theorem taF_cong {l : Int32} {t t' : Nat → Int32} {w s : Int32} {p : Nat} (hp : p < 12) (e : ∀ q, q < 12 → t q = t' q) : taF l t w s p = taF l t' w s p := by
  unfold taF
  rw [show wkt l t w s (pi l p) = wkt l t' w s (pi l p) from wk_cong _ (fun k hk => e _ (pi_lt (by have := pi_lt (l := l) hp; omega)))]
theorem hd_x {v : SV} {n j : Nat} {l : Int32} (hs : stP v n j) (h : ∃ i, i < n ∧ hdP v n i j l) (h8 : n ≤ 8) : ∃ i, i < 8 ∧ i ≠ j ∧ hdP v n i j l := by
  obtain ⟨i, h1, h2⟩ := h
  refine ⟨i, by omega, fun e => ?_, h2⟩
  subst e
  by_cases c : l = 0
  · exact Int32.lt_irrefl (h2.2.2.2.2 c)
  · exact Int32.lt_irrefl (h2.2.2.2.1 c)
theorem hd_y {v : SV} {n j : Nat} {l : Int32} (h : ∃ i, i < 8 ∧ i ≠ j ∧ hdP v n i j l) : ∃ i, i < n ∧ hdP v n i j l := by
  obtain ⟨i, h1, h2, h3⟩ := h
  exact ⟨i, h3.1.1, h3⟩
theorem cst_end {v : SV} {n : Nat} : ∀ m, cst v n (n + m) = cst v n n
  | 0 => rfl
  | m + 1 => by
    rw [← cst_end m, show n + (m + 1) = n + m + 1 by omega, cst, if_neg (fun z => absurd z.1 (by omega)), Nat.add_zero]
theorem di_st {v : SV} {n j p : Nat} (K : ok_D v n) (hp : p < 12) (ht : ¬ tkP v n (nI p) j) : di_D (uP v (upd (vP v) j (nI p))) n := (ok_stand K (Or.inr (in_p hp)) ht).2.1.2.2.2.1
