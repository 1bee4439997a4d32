def mo_I (k : Nat) : Int32 := if k < 2 then 999 else if k = 4 then 5 else 100
theorem mo_T (k : Nat) : (mo_I k).toInt = (if k < 2 then 999 else if k = 4 then 5 else 100) := by
  unfold mo_I
  by_cases c : k < 2
  · rw [if_pos c, if_pos c]; decide +kernel
  · rw [if_neg c, if_neg c]
    by_cases d : k = 4
    · rw [if_pos d, if_pos d]; decide +kernel
    · rw [if_neg d, if_neg d]; decide +kernel
def rf_S (ro : Int32) : Nat → Int32
  | 0 => 0
  | k + 1 => rf_S ro k + ((ro >>> (nI k &&& 31)) &&& 1)
theorem rf_B2 : ∀ a, a < 64 → ∀ b, b < 64 → rf_S (nI (64 * a + b)) 12 = bitc (nI (64 * a + b)) := by decide +kernel
theorem rf_B (j : Nat) (h : j < 4096) : rf_S (nI j) 12 = bitc (nI j) := by
  have := rf_B2 (j / 64) (by omega) (j % 64) (by omega)
  rw [show 64 * (j / 64) + j % 64 = j by omega] at this
  exact this
theorem rf_e {ro : Int32} (h : 0 ≤ ro.toInt ∧ ro.toInt < 4096) : rf_S ro 12 = bitc ro := by
  have e : ro = nI (ix ro) := ix_eq h.1
  rw [e]
  exact rf_B _ (by unfold ix; omega)
theorem and_1 (x : Int32) : x &&& 1 = 0 ∨ x &&& 1 = 1 := by
  obtain ⟨j, hj, e⟩ := pk_andE x (m := 1) 1 (by decide +kernel)
  rcases (show j = 0 ∨ j = 1 by omega) with rfl | rfl
  · exact Or.inl e
  · exact Or.inr e
theorem ar_k0 {M : am_M} {h0 : am_H} {P : Option Value → am_H → Prop} {kc ks kc' ks' pc : Nat} {L : List (Option Value)} {S : List Value} {h : am_H} (k : am_RW M h0 P kc ks pc L S h) (e1 : kc = kc') (e2 : ks = ks') : am_RW M h0 P kc' ks' pc L S h := by
  subst e1
  subst e2
  exact k
theorem tk_6 {v : SV} {n j : Nat} : ¬ tkP v n (-6) j := by
  rintro ⟨k, h, -⟩
  have h3 := (ffi_spec _ _ _ h).2.2.1
  have h4 := of_decide_eq_true h3
  exact h4.1.2 h4.2
