/-! the reference asked: the best pitch, the best height, days that are foretold -/
theorem dst_le0 {o k : Nat} (ho : o < 12) (hk : k < 12) (h : nI (dst o k) ≤ 0) : o = k := by
  have d : dst o k < 12 := by unfold dst; split <;> omega
  rw [← nI_0] at h
  have h2 := (nI_leI (by omega) (by omega)).mp h
  unfold dst at h2
  split at h2 <;> omega
theorem tk_op {v : SV} {n j k : Nat} (K : ok_D v n) (hj : j < n) (hk : k < 12) : ¬ tkP v n (nI k) j ↔ opP (lkT v n (nI j) 8) k 0 := by
  have h8 := K.2.1.1
  have D := K.2.1.2.2.2.1
  have T := to_lkT D (show j < 8 by omega)
  constructor
  · intro ht o ho z
    have e := dst_le0 ho hk z.2
    subst e
    have z0 := z.1
    rw [(T o ho).2 fun i _ hi hij => not_tk D h8 (in_p ho) ht hi hij] at z0
    exact absurd z0 (by decide)
  · rintro O ⟨i, hi, hij⟩
    obtain ⟨-, -, h3, -⟩ := ffi_spec _ _ _ hi
    obtain ⟨h5, h6⟩ := atQ_s h3
    refine O k hk ⟨?_, ?_⟩
    · rw [(T k hk).1 i (by omega) h5 hij h6, Int32.lt_iff_toInt_lt, ti_0]
      have := (K.2.1.2.2.1 i h5).1
      omega
    · rw [dst_0, nI_0]
      exact Int32.le_refl 0
theorem rg_st {a b : Nat} (ha : a ≤ 999) (hb : b ≤ 100) : ∃ c, c ≤ a ∧ nI a * nI b / 100 = nI c := by
  have h : a * b ≤ a * 100 := Nat.mul_le_mul_left a hb
  refine ⟨a * b / 100, by omega, ?_⟩
  rw [pk_mul, show (100 : Int32) = nI 100 by decide +kernel, pk_div (by omega) (by omega) (by omega)]
theorem wk_rg {t : Nat → Int32} {a b : Nat} (ha : a ≤ 999) (hb : b ≤ 100) : ∀ k, ∃ c, c ≤ 999 ∧ (wk t (nI a) (nI b) k).1 = nI c
  | 0 => ⟨a, ha, rfl⟩
  | k + 1 => by
    obtain ⟨c, hc, e⟩ := wk_rg (t := t) ha hb k
    rw [wk]
    by_cases x : (wk t (nI a) (nI b) k).2 < t k
    · rw [if_pos x]
      obtain ⟨d, hd, e2⟩ := rg_st hc hb
      refine ⟨c - d, by omega, ?_⟩
      show (wk t (nI a) (nI b) k).1 - (wk t (nI a) (nI b) k).1 * nI b / 100 = _
      rw [e, e2, pk_sub hd]
    · rw [if_neg x]
      exact ⟨c, hc, e⟩
theorem stp_rg {l : Int32} {t : Nat → Int32} {a b : Nat} {p h : Int32} (ha : a ≤ 999) (hb : b ≤ 100) : ∃ c, c ≤ 999 ∧ stpV (arF l t (nI a) (nI b)) (taF l t (nI a) (nI b)) (nI b) p h = nI c := by
  unfold stpV
  by_cases x : inP p ∧ taF l t (nI a) (nI b) (ix p) < h
  · rw [if_pos x]
    obtain ⟨c, hc, e⟩ := wk_rg (t := fun k => t (pi l k)) ha hb (pi l (ix p))
    obtain ⟨d, hd, e2⟩ := rg_st hc hb
    refine ⟨d, by omega, ?_⟩
    rw [show arF l t (nI a) (nI b) (ix p) = nI c from e]
    exact e2
  · rw [if_neg x]
    exact ⟨0, by omega, nI_0.symm⟩
theorem cr_nn {v : SV} {n : Nat} (K : ok_D v n) (t : Nat → Int32) (p h : Int32) : ¬ crA v t p h ≤ -1 := by
  have S := K.2.2.2.1
  have g : ∀ k, k < 6 → vS v k = nI (ix (vS v k)) := fun k hk => ix_eq (S k hk).1
  have s0 := S 0 (by omega)
  have s1 := S 1 (by omega)
  have s2 := S 2 (by omega)
  rw [if_pos (by omega)] at s0 s1
  rw [if_neg (by omega), if_neg (by omega)] at s2
  obtain ⟨c, hc, e⟩ := stp_rg (l := 1) (t := t) (a := ix (vS v 0)) (b := ix (vS v 2)) (p := p) (h := h) (by unfold ix; omega) (by unfold ix; omega)
  obtain ⟨d, hd, e2⟩ := stp_rg (l := 0) (t := t) (a := ix (vS v 1)) (b := ix (vS v 2)) (p := p) (h := h) (by unfold ix; omega) (by unfold ix; omega)
  rw [← g 0 (by omega), ← g 2 (by omega)] at e
  rw [← g 1 (by omega), ← g 2 (by omega)] at e2
  unfold crA
  rw [e, e2, nI_add, Int32.le_iff_toInt_le, ti_m1, nI_toInt (by omega)]
  omega
theorem bh_cr {v : SV} {n j : Nat} (K : ok_D v n) (hj : j < n) (hs : stP v n j) (h : Nat) : sb_V 1 (uH v (upd (vH v) j (nI h))) n j + sb_V 0 (uH v (upd (vH v) j (nI h))) n j = crH v n j h := by
  have h8 := K.2.1.1
  have D := K.2.1.2.2.2.1
  have ip : inP (vP v j) := (K.2.1.2.2.2.2.1 j hj).resolve_left hs.2
  have ep := ix_eq ip.1
  have T := to_lkT D (show j < 8 by omega)
  have T2 : to_T (uH v (upd (vH v) j (nI h))) n 8 (tpV (uH v (upd (vH v) j (nI h))) n) := to_tpV D h8
  show crA v (tpV (uH v (upd (vH v) j (nI h))) n) (vP v j) (upd (vH v) j (nI h) j) = crA v (lkT v n (nI j) 8) (vP v j) (nI h)
  rw [pk_us]
  refine crA_cong fun q hq hne => ?_
  by_cases c : ∃ k, k < n ∧ k ≠ j ∧ vP v k = nI q
  · obtain ⟨k, c1, c2, c3⟩ := c
    rw [(T q hq).1 k (by omega) c1 c2 c3, (T2 q hq).1 k (by omega) c1 (by omega) c3]
    exact pk_un c2
  · rw [(T q hq).2 fun k _ c1 c2 c3 => c ⟨k, c1, c2, c3⟩, (T2 q hq).2 fun k _ c1 c2 c3 => ?_]
    by_cases e : k = j
    · subst e; exact hne c3.symm
    · exact c ⟨k, c1, e, c3⟩
abbrev bc_F (v : SV) (n j : Nat) : Nat → Int32 := crV (arF 1 (lkT v n (nI j) 8) (vS v 0) (vS v 2)) (taF 1 (lkT v n (nI j) 8) (vS v 0) (vS v 2)) (vS v 2) (arF 0 (lkT v n (nI j) 8) (vS v 1) (vS v 2)) (taF 0 (lkT v n (nI j) 8) (vS v 1) (vS v 2)) (vS v 2) (vH v j)
abbrev bo_F (v : SV) (n j : Nat) : Nat → Prop := fun k => opP (lkT v n (nI j) 8) k 0
theorem upd2' {f : Nat → Int32} {i : Nat} {y : Int32} (x : Int32) : upd (upd f i y) i x = upd f i x := by
  funext t
  by_cases e : t = i
  · subst e; rw [pk_us, pk_us]
  · rw [pk_un e, pk_un e, pk_un e]
theorem it_vv {v : SV} {n : Nat} (V : vv_D v n) : ∀ k, vv_D (itV v n k).1 n
  | 0 => V
  | k + 1 => vv_dy (it_vv V k)
