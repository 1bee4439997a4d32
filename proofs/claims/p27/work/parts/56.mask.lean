/-- the crowd of a booth, from one side, from both, as the class reckons it -/
theorem sb_sf {v : SV} {n : Nat} (h8 : n ≤ 8) (D : di_D v n) (l : Int32) (j : Nat) : sb_V l v n j = sfV l v n j := by
  unfold sb_V sfV
  exact stpV_cong fun q hq _ => to_uniq h8 (to_tpV D h8) (to_lk6 D) hq
theorem sb_cr {v : SV} {n : Nat} (h8 : n ≤ 8) (D : di_D v n) (j : Nat) : sb_V 1 v n j + sb_V 0 v n j = crA v (lkT v n (-6) 8) (vP v j) (vH v j) := by
  show crA v (tpV v n) (vP v j) (vH v j) = _
  exact crA_cong fun q hq _ => to_uniq h8 (to_tpV D h8) (to_lk6 D) hq
theorem rs_sw {v : SV} {n : Nat} (h8 : n ≤ 8) (D : di_D v n) : rs_V v n = swN v n := by
  unfold rs_V swN
  rw [paF_cong (fun q hq => to_uniq h8 (to_tpV D h8) (to_lk6 D) hq), paF_cong (l := 0) (fun q hq => to_uniq h8 (to_tpV D h8) (to_lk6 D) hq)]
theorem bit_if (x : Int32) : x &&& 1 = if x &&& 1 = 1 then 1 else 0 := by
  rcases and_1 x with e | e
  · rw [if_neg (by rw [e]; decide)]; exact e
  · rw [if_pos e]; exact e
noncomputable def if_I (p : Prop) : Int32 := @ite _ p (Classical.propDecidable p) 1 0
theorem if_1 {p : Prop} (h : p) : if_I p = 1 := @if_pos p (Classical.propDecidable p) h _ _ _
theorem if_0 {p : Prop} (h : ¬ p) : if_I p = 0 := @if_neg p (Classical.propDecidable p) h _ _ _
theorem bit_I (x : Int32) : x &&& 1 = if_I (x &&& 1 = 1) := by
  rcases and_1 x with e | e
  · rw [if_0 (by rw [e]; decide)]; exact e
  · rw [if_1 e]; exact e
theorem op_lk {v : SV} {n p : Nat} (K : ok_D v n) (hp : p < 12) : fr_K v p n ↔ opP (lkT v n (-6) 8) p (vS v 4) :=
  fr_op K.2.1.1 hp (to_lk6 K.2.1.2.2.2.1) K.2.1.2.2.2.2.1 K.2.1.2.2.1 K.2.1.2.2.2.2.2
theorem ex_s {P : Nat → Prop} {k : Nat} (h : ¬ ∃ i, i < k ∧ P i) (h2 : ¬ P k) : ¬ ∃ i, i < k + 1 ∧ P i := by
  rintro ⟨i, hi, hP⟩
  by_cases e : i = k
  · subst e
    exact h2 hP
  · exact h ⟨i, by omega, hP⟩
