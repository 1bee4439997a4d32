/-! the law, purely: booths at pitches; roofs as a set -/
abbrev bo_O (v : SV) (n p : Nat) : Option Nat := ffi (atQ v n (nI p)) 8 0
theorem bo_s {v : SV} {n p b : Nat} (h : bo_O v n p = some b) : b < n ∧ vP v b = nI p := by
  obtain ⟨-, -, h3, -⟩ := ffi_spec _ _ _ h
  exact atQ_s h3
theorem bo_n {v : SV} {n p : Nat} (h8 : n ≤ 8) (hp : p < 12) (h : bo_O v n p = none) : ∀ b, b < n → vP v b ≠ nI p := by
  intro b hb e
  have h1 := ffi_none 8 0 h b (by omega) (by omega)
  rw [atQ_t hp hb e] at h1
  cases h1
theorem bo_e {v : SV} {n p k : Nat} (h8 : n ≤ 8) (D : di_D v n) (hp : p < 12) (hk : k < n) : vP v k = nI p ↔ o2i (bo_O v n p) = nI k := by
  constructor
  · intro e
    rw [show bo_O v n p = some k from tp_some D h8 hp hk e]
    rfl
  · intro e
    cases h : bo_O v n p with
    | none =>
      rw [h] at e
      exact absurd e.symm (nI_m6 (by omega))
    | some b =>
      rw [h] at e
      obtain ⟨h1, h2⟩ := bo_s h
      have : b = k := (nI_eq (by omega) (by omega)).mp e
      rw [← this]; exact h2
theorem bo_6 {v : SV} {n p : Nat} (h8 : n ≤ 8) : o2i (bo_O v n p) = -6 ↔ bo_O v n p = none := by
  constructor
  · intro e
    cases h : bo_O v n p with
    | none => rfl
    | some b =>
      rw [h] at e
      exact absurd e (nI_m6 (by have := (bo_s h).1; omega))
  · intro e
    rw [e]; rfl
def cn_N (v : SV) (n : Nat) : Nat → Nat := su_N (fun p => if bo_O v n p = none then 0 else 1)
theorem cst_su (v : SV) (n : Nat) : ∀ k, cst v n k = su_N (fun k => if stP v n k then 1 else 0) k
  | 0 => rfl
  | k + 1 => by rw [cst, su_N, cst_su v n k]
theorem cn_cst {v : SV} {n : Nat} (h8 : n ≤ 8) (D : di_D v n) (pl : pl_D v n) : cst v n 8 = cn_N v n 12 := by
  rw [cst_su]
  have e1 : su_N (fun k => if stP v n k then 1 else 0) 8 = su_N (fun k => su_N (fun p => if k < n ∧ vP v k = nI p then 1 else 0) 12) 8 := by
    refine su_Nc 8 fun k hk => ?_
    by_cases c : stP v n k
    · have ip : inP (vP v k) := (pl k c.1).resolve_left c.2
      have e := ix_eq ip.1
      have h12 : ix (vP v k) < 12 := by unfold ix; have := ip.1; have := ip.2; omega
      rw [if_pos c, su_N1 12 h12 fun q hq hne => ?_]
      · rw [if_pos ⟨c.1, e⟩]
      · rw [if_neg]
        rintro ⟨-, z⟩
        rw [e] at z
        exact hne ((nI_eq (by omega) (by omega)).mp z).symm
    · rw [if_neg c, su_N0 12 fun q hq => ?_]
      rw [if_neg]
      rintro ⟨z1, z2⟩
      exact c ⟨z1, by rw [z2]; exact nI_m6 (by omega)⟩
  rw [e1, su_Ns]
  refine su_Nc 12 fun p hp => ?_
  cases h : bo_O v n p with
  | none =>
    rw [su_N0 8 fun k hk => if_neg fun z => bo_n h8 hp h k z.1 z.2, if_pos rfl]
  | some b =>
    obtain ⟨h1, h2⟩ := bo_s h
    rw [su_N1 (j := b) 8 (by omega) fun k hk hne => if_neg fun z => hne (D k b z.1 h1 (by rw [z.2]; exact nI_m6 (by omega)) (by rw [z.2, h2])), if_pos ⟨h1, h2⟩, if_neg (by intro z; cases z)]
theorem cn_s (v : SV) (n p : Nat) (h8 : n ≤ 8) : nI (cn_N v n p) + (if o2i (bo_O v n p) = -6 then 0 else 1) = nI (cn_N v n (p + 1)) := by
  show _ = nI (su_N _ (p + 1))
  rw [su_N]
  by_cases c : bo_O v n p = none
  · rw [if_pos ((bo_6 h8).mpr c), if_pos c, Int32.add_zero]
    rfl
  · rw [if_neg fun z => c ((bo_6 h8).mp z), if_neg c, nI_1]
    rfl
theorem fa_or (a b : Nat) : nI a ||| nI b = nI (a ||| b) := by
  apply Int32.toBitVec_inj.1
  show BitVec.ofNat 32 a ||| BitVec.ofNat 32 b = BitVec.ofNat 32 (a ||| b)
  apply BitVec.eq_of_getLsbD_eq
  intro i hi
  simp [hi]
theorem sh_B : ∀ p, p < 12 → ((nI p &&& 31).toBitVec.smod 32).toNat = p := by decide +kernel
/-- the roofs of the first p pitches -/
theorem ro_st {r p : Nat} (hr : r < 4096) (hp : p < 12) : nI (r % 2 ^ p) ||| (if_I (rfP (nI r) p) <<< (nI p &&& 31)) = nI (r % 2 ^ (p + 1)) := by
  have e1 : (nI r >>> (nI p &&& 31)) &&& 1 = nI (r / 2 ^ p % 2) := by
    rw [pk_shrN (by omega) _ p (sh_B p hp), pk_andN (k := 1) (by have := Nat.div_le_self r (2 ^ p); omega) (by decide +kernel)]
  have hb : r / 2 ^ p % 2 = 0 ∨ r / 2 ^ p % 2 = 1 := by omega
  have e2 : if_I (rfP (nI r) p) = nI (r / 2 ^ p % 2) := by
    rcases hb with h | h
    · rw [h, if_0]
      · rfl
      · show ¬ (nI r >>> (nI p &&& 31)) &&& 1 = 1
        rw [e1, h]
        decide
    · rw [h, if_1]
      · rfl
      · show (nI r >>> (nI p &&& 31)) &&& 1 = 1
        rw [e1, h]
        rfl
  have p2 : 2 ^ p ≤ 2048 := Nat.pow_le_pow_right (n := 2) (by omega) (show p ≤ 11 by omega)
  have hs : nI (r / 2 ^ p % 2) <<< (nI p &&& 31) = nI (r / 2 ^ p % 2 * 2 ^ p) := by
    refine pk_shlN _ p (sh_B p hp) ?_
    rcases hb with h | h <;> rw [h] <;> omega
  rw [e2, hs, fa_or, Nat.mod_pow_succ, Nat.or_comm, Nat.mul_comm (r / 2 ^ p % 2), ← Nat.two_pow_add_eq_or_of_lt (Nat.mod_lt _ (Nat.pow_pos (by omega))), Nat.add_comm]
/-- how far one is from another -/
theorem fr_st {v : SV} {p k : Nat} (hp : p < 12) (c6 : vP v k ≠ -6) (ip : inP (vP v k)) : (if vP v k < nI p then nI p - vP v k else vP v k - nI p) = nI (dst (ix (vP v k)) p) := by
  have h12 : ix (vP v k) < 12 := by unfold ix; have := ip.1; have := ip.2; omega
  have e := ix_eq ip.1
  by_cases c : nI p ≤ nI (ix (vP v k))
  · rw [if_neg (by rw [e]; exact Int32.not_lt.mpr c)]
    rw [show vP v k - nI p = nI (ix (vP v k)) - nI p by rw [← e]]
    exact fr_s2 h12 hp c
  · rw [if_pos (by rw [e]; exact Int32.not_le.mp c)]
    rw [show nI p - vP v k = nI p - nI (ix (vP v k)) by rw [← e]]
    exact fr_s1 h12 hp c
theorem fr_0 {v : SV} {p : Nat} : fr_K v p 0 := fun i hi => absurd hi (Nat.not_lt_zero i)
/-- the next booth: far enough, or nowhere -/
theorem fr_nx {v : SV} {p k : Nat} {y : Int32} (hy : vP v k ≠ -6 → y = nI (dst (ix (vP v k)) p)) : fr_K v p (k + 1) ↔ fr_K v p k ∧ (vP v k = -6 ∨ (0 < y ∧ vS v 4 < y)) := by
  constructor
  · intro h
    refine ⟨fun i hi => h i (by omega), ?_⟩
    by_cases c : vP v k = -6
    · exact Or.inl c
    · obtain ⟨a, b⟩ := h k (by omega) c
      rw [hy c]
      exact Or.inr ⟨b, a⟩
  · rintro ⟨h, c⟩
    refine fr_y h fun c6 => ?_
    have := c.resolve_left c6
    rw [← hy c6]
    exact ⟨this.2, this.1⟩
