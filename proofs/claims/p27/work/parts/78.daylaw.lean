/-! the law: a day, purely -/
theorem q_1 (v : SV) (n : Nat) : vS (pqV v n) = vS v ∧ vRo (pqV v n) = vRo v ∧ vTa (pqV v n) = vTa v ∧ vH (pqV v n) = vH v ∧ vP (pqV v n) = (chs (dlV v n) n 8).2 ∧ vT (pqV v n) = vT v ∧ vI (pqV v n) = vI v ∧ vRa (pqV v n) = (if rnV (puV v n) = 0 then vRa v else vRa v + 1) ∧ vF (pqV v n) = (if bkP n ((dlots (n - 1) (vX v) (filI n)).2 0) then upd (vF v) (ix ((dlots (n - 1) (vX v) (filI n)).2 0)) (vF v (ix ((dlots (n - 1) (vX v) (filI n)).2 0)) + 1) else vF v) := by
  obtain ⟨d1, d2, d3, d4, d5, d6, d7, d8, d9, d10, d11, d12⟩ := da_1 (puV v n) (lcg (vX (puV v n))) (rnV (puV v n))
  obtain ⟨f1, f2, f3, f4, f5, f6, f7, f8, f9, f10⟩ := fi_1 n v (dlots (n - 1) (vX v) (filI n)).1 (dlots (n - 1) (vX v) (filI n)).2 (chs (dlV v n) n 8).2
  rw [← pu_e] at f1 f2 f3 f4 f5 f6 f7 f8 f9 f10
  rw [pqV]
  exact ⟨d1.trans (pu_S v n), d3.trans f1, d6.trans f4, d7.trans f5, d8.trans f6, d9.trans f7, d11.trans f8, d5.trans (by rw [f3]), d10.trans f10⟩
theorem ph_2 (q : SV) (n : Nat) (tp : Nat → Int32) (r : Int32) : vT (phV q n tp r) = mixF (htF q n tp r) (vT q) 8 ∧ vI (phV q n tp r) = mixF (idF q n) (vI q) 8 ∧ vTa (phV q n tp r) = vTa q + cns q n tp r 8 ∧ vRa (phV q n tp r) = vRa q ∧ vF (phV q n tp r) = vF q := ⟨rfl, rfl, rfl, rfl, rfl⟩
theorem dy_T {v : SV} {n k : Nat} (hk : k < 8) : vT (dyV v n) k = if stP (pqV v n) n k then vT v k + hat (pqV v n) (ptV v n) (rnV (puV v n)) k else vT v k := by
  rw [dyV, (ph_2 _ _ _ _).1, mixF_all hk, htF, (q_1 v n).2.2.2.2.2.1]
theorem dy_I {v : SV} {n k : Nat} (hk : k < 8) : vI (dyV v n) k = if ¬ stP (pqV v n) n k ∧ k < n then vI v k + 1 else vI v k := by
  rw [dyV, (ph_2 _ _ _ _).2.1, mixF_all hk, idF, (q_1 v n).2.2.2.2.2.2.1]
theorem dy_Ta (v : SV) (n : Nat) : vTa (dyV v n) = vTa v + dyC v n := by
  rw [dyV, (ph_2 _ _ _ _).2.2.1, (q_1 v n).2.2.1]
  rfl
theorem dy_Ra (v : SV) (n : Nat) : vRa (dyV v n) = if rnV (puV v n) = 0 then vRa v else vRa v + 1 := by
  rw [dyV, (ph_2 _ _ _ _).2.2.2.1, (q_1 v n).2.2.2.2.2.2.2.1]
theorem dy_F (v : SV) (n : Nat) : vF (dyV v n) = (if bkP n ((dlots (n - 1) (vX v) (filI n)).2 0) then upd (vF v) (ix ((dlots (n - 1) (vX v) (filI n)).2 0)) (vF v (ix ((dlots (n - 1) (vX v) (filI n)).2 0)) + 1) else vF v) := by
  rw [dyV, (ph_2 _ _ _ _).2.2.2.2, (q_1 v n).2.2.2.2.2.2.2.2]
theorem dy_P (v : SV) (n : Nat) : vP (dyV v n) = vP (pqV v n) := by
  rw [(dy_1 v n).2.2.2.2.2.1, (q_1 v n).2.2.2.2.1]
/-! the gap -/
theorem dst_c (o j : Nat) : dst o j = dst j o := by unfold dst; split <;> split <;> omega
def gp_D (w : SV) (n : Nat) : Prop := ∀ i j, i < n → j < n → i ≠ j → vP w i ≠ -6 → vP w j ≠ -6 → vS w 4 < nI (dst (ix (vP w i)) (ix (vP w j)))
theorem bop_6 {cr : Nat → Int32} {op : Nat → Prop} (h : ∀ k, ¬ cr k ≤ -1) : ∀ m, m ≤ 12 → (bopC cr op m).1 = -6 → bopC cr op m = (-6, -1) ∧ ∀ k, k < m → ¬ op k
  | 0, _, _ => ⟨rfl, fun k hk => absurd hk (Nat.not_lt_zero k)⟩
  | m + 1, hm, e => by
    by_cases c : (bopC cr op m).2 < cr m ∧ op m
    · rw [bopC_s cr op m c] at e
      exact absurd e (nI_m6 (by omega))
    · rw [bopC_n cr op m c] at e ⊢
      obtain ⟨e1, e2⟩ := bop_6 h m (by omega) e
      refine ⟨e1, fun k hk => ?_⟩
      by_cases ek : k = m
      · subst ek
        intro o
        rw [e1] at c
        exact c ⟨Int32.not_le.mp (h k), o⟩
      · exact e2 k (by omega)
theorem bst_6 {v : SV} {n : Nat} (K : ok_D v n) {tp : Nat → Int32} {h : Int32} (e : bst v tp h = -6) : ∀ p, p < 12 → ¬ opP tp p (vS v 4) := (bop_6 (fun k => cr_nn K tp (nI k) h) 12 (Nat.le_refl 12) e).2
theorem op_up {tp : Nat → Int32} {j p : Nat} {h g : Int32} (hh : 0 < h) (hj : j < 12) (o : opP (upd tp j h) p g) : opP tp p g := by
  intro q hq z
  by_cases e : q = j
  · subst e
    exact o q hq ⟨by rw [pk_us]; exact hh, z.2⟩
  · exact o q hq ⟨by rw [pk_un e]; exact z.1, z.2⟩
theorem gp_inv {v : SV} {n : Nat} (K : ok_D v n) : ∀ k, k ≤ n → gp_D (kw_W (dlV v n) n (w0_W v n) k) n ∧ ((∃ b, b < n ∧ dn_K (vL (dlV v n)) k b ∧ vP (kw_W (dlV v n) n (w0_W v n) k) b = -6) → ∀ p, p < 12 → ¬ opP (chs (dlV v n) n k).1 p (vS v 4))
  | 0, h0 => by
    obtain ⟨h8, hx, he, -, -, hg⟩ := K.2.1
    have I := kw_day h8 hx he hg 0 h0
    have nd : ∀ b, ¬ dn_K (vL (dlV v n)) 0 b := fun b ⟨i, hi, _⟩ => Nat.not_lt_zero i hi
    exact ⟨fun i j hi _ _ c _ => absurd (I.2.1 i hi (nd i)).1 c, fun ⟨b, _, z, _⟩ => absurd z (nd b)⟩
  | k + 1, hk => by
    obtain ⟨h8, hx, he, -, -, hg⟩ := K.2.1
    have L : pe_D n (vL (dlV v n)) := by rw [dl_L]; exact (pe_dl0 h8 hx).1
    have I := kw_day h8 hx he hg k (by omega)
    obtain ⟨ih1, ih2⟩ := gp_inv K k (by omega)
    obtain ⟨b, hb, eb⟩ := L.1 k (by omega)
    have ebx : ix (vL (dlV v n) k) = b := by rw [eb, ix_nI (by omega)]
    have ec : chs (dlV v n) n (k + 1) = (rsT (chs (dlV v n) n k).1 (bst (dlV v n) (chs (dlV v n) n k).1 (vH (dlV v n) b)) (vH (dlV v n) b), upd (chs (dlV v n) n k).2 b (bst (dlV v n) (chs (dlV v n) n k).1 (vH (dlV v n) b))) := by
      have := chs_y (v := dlV v n) (n := n) (k := k) (tp := (chs (dlV v n) n k).1) (pl := (chs (dlV v n) n k).2) rfl rfl (by rw [eb]; exact bk_j h8 hb) rfl
      rw [ebx] at this
      exact this
    have E := sm_kw (dlV v n) n (w0_W v n) k
    have S : vS (kw_W (dlV v n) n (w0_W v n) k) = vS v := E.1
    have H : vH (kw_W (dlV v n) n (w0_W v n) k) = vH v := E.2.2.2.2.2.2.1
    rw [kw_s, ebx, ec, dl_H, bst_S (dl_S v n)]
    have hB6 : bst v (chs (dlV v n) n k).1 (vH v b) = -6 → ∀ p, p < 12 → ¬ opP (chs (dlV v n) n k).1 p (vS v 4) := fun e => bst_6 K e
    have hB2 : bst v (chs (dlV v n) n k).1 (vH v b) = -6 ∨ ∃ j, j < 12 ∧ opP (chs (dlV v n) n k).1 j (vS v 4) ∧ bst v (chs (dlV v n) n k).1 (vH v b) = nI j := bop_sp _ _ 12
    generalize bst v (chs (dlV v n) n k).1 (vH v b) = B at hB6 hB2 ⊢
    obtain ⟨i1, i2, i3, i4, i5, i6⟩ := I
    generalize kw_W (dlV v n) n (w0_W v n) k = w at i1 i2 i3 i4 i5 i6 ih1 ih2 S H ⊢
    generalize (chs (dlV v n) n k).1 = tp at i3 hB6 hB2 ih2 ⊢
    have nd : ¬ dn_K (vL (dlV v n)) k b := fun ⟨i, hi, e⟩ => by
      have := L.2.1 i k (by omega) (by omega) (e.trans eb.symm)
      omega
    have hb6 := (i2 b hb nd).1
    have eP : vP (ch_W (ff_W w k b) b B) = upd (vP w) b B := rfl
    have eS : vS (ch_W (ff_W w k b) b B) = vS w := rfl
    have frj : ∀ j, j < 12 → opP tp j (vS v 4) → fr_K w j n := fun j hj o => (fr_op h8 hj i3 i5 (fun x hx => by rw [H]; exact he x hx) (by rw [S]; exact hg)).mpr (by rw [S]; exact o)
    refine ⟨fun i j hi hj hij c1 c2 => ?_, fun ⟨b', hb', hd, e6⟩ => ?_⟩
    · rw [eS]
      rw [eP] at c1 c2 ⊢
      by_cases ei : i = b
      · subst ei
        rw [pk_us] at c1 ⊢
        rw [pk_un (Ne.symm hij)] at c2 ⊢
        obtain ⟨p, hp, ho, rfl⟩ := hB2.resolve_left c1
        rw [ix_nI (by omega), dst_c]
        exact (frj p hp ho j hj c2).1
      · rw [pk_un ei] at c1 ⊢
        by_cases ej : j = b
        · subst ej
          rw [pk_us] at c2 ⊢
          obtain ⟨p, hp, ho, rfl⟩ := hB2.resolve_left c2
          rw [ix_nI (by omega)]
          exact (frj p hp ho i hi c1).1
        · rw [pk_un ej] at c2 ⊢
          exact ih1 i j hi hj hij c1 c2
    · show ∀ p, p < 12 → ¬ opP (rsT tp B (vH v b)) p (vS v 4)
      rcases hB2 with eB | ⟨j, hj, ho, rfl⟩
      · rw [eB, rsT, if_neg inP_6]
        exact hB6 eB
      · have hne : b' ≠ b := fun z => by
          rw [z, eP, pk_us] at e6
          exact nI_m6 (by omega) e6
        rw [eP, pk_un hne] at e6
        obtain ⟨i, hi, ei⟩ := hd
        have hik : i ≠ k := fun z => by
          rw [z, eb] at ei
          exact hne ((nI_eq (by omega) (by omega)).mp ei).symm
        have no := ih2 ⟨b', hb', ⟨i, by omega, ei⟩, e6⟩
        intro p hp o
        rw [rsT, if_pos (in_p hj), ix_nI (by omega)] at o
        exact no p hp (op_up (he_pos he hb) hj o)
theorem chs_8 {v : SV} {n : Nat} (K : ok_D v n) : chs (dlV v n) n 8 = chs (dlV v n) n n := by
  have L : pe_D n (vL (dlV v n)) := by rw [dl_L]; exact (pe_dl0 K.2.1.1 K.2.1.2.1).1
  have := chs_end L (8 - n) (by have := K.2.1.1; omega)
  rw [show n + (8 - n) = 8 by have := K.2.1.1; omega] at this
  exact this
theorem dy_w {v : SV} {n : Nat} (K : ok_D v n) : (∀ b, b < n → vP (kw_W (dlV v n) n (w0_W v n) n) b = vP (dyV v n) b) ∧ to_T (dyV v n) n 8 (ptV v n) := by
  obtain ⟨h8, hx, he, -, -, hg⟩ := K.2.1
  have L : pe_D n (vL (dlV v n)) := by rw [dl_L]; exact (pe_dl0 h8 hx).1
  obtain ⟨k1, k2⟩ := kw_end h8 L (kw_day h8 hx he hg n (Nat.le_refl n))
  have E := sm_kw (dlV v n) n (w0_W v n) n
  have H : vH (kw_W (dlV v n) n (w0_W v n) n) = vH (dyV v n) := E.2.2.2.2.2.2.1.trans (dy_1 v n).2.2.2.2.1.symm
  have P : ∀ b, b < n → vP (kw_W (dlV v n) n (w0_W v n) n) b = vP (dyV v n) b := fun b hb => by rw [(dy_1 v n).2.2.2.2.2.1]; exact (k1 b hb).1
  refine ⟨P, fun q hq => ?_⟩
  obtain ⟨t1, t2⟩ := k2 q hq
  rw [H] at t1
  exact ⟨fun k a1 a2 a3 a4 => t1 k a1 a2 a3 ((P k a2).trans a4), fun h => t2 fun k a1 a2 a3 a4 => h k a1 a2 a3 ((P k a2).symm.trans a4)⟩
theorem dy_gap {v : SV} {n : Nat} (K : ok_D v n) {i j : Nat} (hi : i < n) (hj : j < n) (hij : i ≠ j) (c1 : vP (dyV v n) i ≠ -6) (c2 : vP (dyV v n) j ≠ -6) : vS (dyV v n) 4 < nI (dst (ix (vP (dyV v n) i)) (ix (vP (dyV v n) j))) := by
  have P := (dy_w K).1
  have E := sm_kw (dlV v n) n (w0_W v n) n
  have S : vS (kw_W (dlV v n) n (w0_W v n) n) = vS (dyV v n) := E.1.trans (dy_1 v n).1.symm
  have G := (gp_inv K n (Nat.le_refl n)).1 i j hi hj hij (by rw [P i hi]; exact c1) (by rw [P j hj]; exact c2)
  rw [S, P i hi, P j hj] at G
  exact G
theorem op_cg {t t' : Nat → Int32} {p : Nat} {g : Int32} (h : ∀ q, q < 12 → t q = t' q) (o : opP t p g) : opP t' p g := fun q hq z => o q hq ⟨by rw [h q hq]; exact z.1, z.2⟩
theorem dy_free {v : SV} {n : Nat} (K : ok_D v n) (K' : ok_D (dyV v n) n) {b : Nat} (hb : b < n) (e : vP (dyV v n) b = -6) : ∀ p, p < 12 → ¬ opP (lkT (dyV v n) n (-6) 8) p (vS (dyV v n) 4) := by
  have L : pe_D n (vL (dlV v n)) := by rw [dl_L]; exact (pe_dl0 K.2.1.1 K.2.1.2.1).1
  obtain ⟨k, hk, ek⟩ := L.2.2.2 b hb
  have G := (gp_inv K n (Nat.le_refl n)).2 ⟨b, hb, ⟨k, hk, ek⟩, by rw [(dy_w K).1 b hb]; exact e⟩
  intro p hp o
  refine G p hp ?_
  rw [← chs_8 K]
  rw [(dy_1 v n).1] at o
  exact op_cg (fun q hq => to_uniq K.2.1.1 (to_lk6 K'.2.1.2.2.2.1) (dy_w K).2 hq) o
/-! the hats -/
theorem cr_rg {v : SV} {n : Nat} (K : ok_D v n) (t : Nat → Int32) (p h : Int32) : ∃ c, c ≤ 1998 ∧ crA v t p h = nI c := by
  have S := K.2.2.2.1
  have g : ∀ k, k < 6 → vS v k = nI (ix (vS v k)) := fun k hk => ix_eq (S k hk).1
  have s0 := S 0 (by omega)
  have s1 := S 1 (by omega)
  have s2 := S 2 (by omega)
  rw [if_pos (by omega)] at s0 s1
  rw [if_neg (by omega), if_neg (by omega)] at s2
  obtain ⟨c, hc, e⟩ := stp_rg (l := 1) (t := t) (a := ix (vS v 0)) (b := ix (vS v 2)) (p := p) (h := h) (by unfold ix; omega) (by unfold ix; omega)
  obtain ⟨d, hd, e2⟩ := stp_rg (l := 0) (t := t) (a := ix (vS v 1)) (b := ix (vS v 2)) (p := p) (h := h) (by unfold ix; omega) (by unfold ix; omega)
  rw [← g 0 (by omega), ← g 2 (by omega)] at e
  rw [← g 1 (by omega), ← g 2 (by omega)] at e2
  refine ⟨c + d, by omega, ?_⟩
  unfold crA
  rw [e, e2, nI_add]
/-- what the hat of the booth k brought on the day behind v -/
noncomputable def ht_V (v : SV) (n k : Nat) : Int32 := @ite _ (rnV (puV v n) = 0 ∨ (vP (dyV v n) k ≠ -6 ∧ rfP (vRo (dyV v n)) (ix (vP (dyV v n) k)))) (Classical.propDecidable _) (crA (dyV v n) (lkT (dyV v n) n (-6) 8) (vP (dyV v n) k) (vH (dyV v n) k) * vS (dyV v n) 3 / 100) 0
theorem ht_y {v : SV} {n k : Nat} (h : rnV (puV v n) = 0 ∨ (vP (dyV v n) k ≠ -6 ∧ rfP (vRo (dyV v n)) (ix (vP (dyV v n) k)))) : ht_V v n k = crA (dyV v n) (lkT (dyV v n) n (-6) 8) (vP (dyV v n) k) (vH (dyV v n) k) * vS (dyV v n) 3 / 100 := @if_pos _ (Classical.propDecidable _) h _ _ _
theorem ht_n {v : SV} {n k : Nat} (h : ¬ (rnV (puV v n) = 0 ∨ (vP (dyV v n) k ≠ -6 ∧ rfP (vRo (dyV v n)) (ix (vP (dyV v n) k))))) : ht_V v n k = 0 := @if_neg _ (Classical.propDecidable _) h _ _ _
theorem ht_rg {v : SV} {n : Nat} (K' : ok_D (dyV v n) n) (k : Nat) : ∃ c, c ≤ 1998 ∧ ht_V v n k = nI c := by
  by_cases h : rnV (puV v n) = 0 ∨ (vP (dyV v n) k ≠ -6 ∧ rfP (vRo (dyV v n)) (ix (vP (dyV v n) k)))
  · obtain ⟨c, hc, e⟩ := cr_rg K' (lkT (dyV v n) n (-6) 8) (vP (dyV v n) k) (vH (dyV v n) k)
    have s3 := K'.2.2.2.1 3 (by omega)
    rw [if_neg (by omega), if_neg (by omega)] at s3
    have g := ix_eq s3.1
    have hb : ix (vS (dyV v n) 3) ≤ 100 := by unfold ix; omega
    have hm : c * ix (vS (dyV v n) 3) ≤ c * 100 := Nat.mul_le_mul_left c hb
    refine ⟨c * ix (vS (dyV v n) 3) / 100, by omega, ?_⟩
    rw [ht_y h, e, g, pk_mul, show (100 : Int32) = nI 100 by decide +kernel, pk_div (by omega) (by omega) (by omega), ix_nI (by omega)]
  · exact ⟨0, by omega, by rw [ht_n h]; rfl⟩
theorem ht_e {v : SV} {n : Nat} (K : ok_D v n) (K' : ok_D (dyV v n) n) {k : Nat} (hk : k < n) : ht_V v n k = if stP (pqV v n) n k then hat (pqV v n) (ptV v n) (rnV (puV v n)) k else 0 := by
  have h8 := K.2.1.1
  have D := K'.2.1.2.2.2.1
  have e := dy_hat (w := dyV v n) (q := pqV v n) (n := n) (tp := ptV v n) (st := fun m => if m % 2 = 0 then sb_V 1 (dyV v n) n (m / 2) else sb_V 0 (dyV v n) n (m / 2)) (r := rnV (puV v n)) h8 (fun b _ => by
    have a1 : 2 * b % 2 = 0 := by omega
    have a2 : 2 * b / 2 = b := by omega
    have a3 : ¬ (2 * b + 1) % 2 = 0 := by omega
    have a4 : (2 * b + 1) / 2 = b := by omega
    exact ⟨by rw [if_pos a1, a2], by rw [if_neg a3, a4]⟩) D (dy_w K).2 (fun b _ => by rw [dy_P]) ((dy_1 v n).2.2.2.2.1.trans (q_1 v n).2.2.2.1.symm) ((dy_1 v n).1.trans (q_1 v n).1.symm) ((dy_1 v n).2.2.1.trans (q_1 v n).2.1.symm) hk
  rw [← e]
  unfold mh_V
  have a1 : 2 * k % 2 = 0 := by omega
  have a2 : 2 * k / 2 = k := by omega
  have a3 : ¬ (2 * k + 1) % 2 = 0 := by omega
  have a4 : (2 * k + 1) / 2 = k := by omega
  dsimp only
  rw [if_pos a1, if_neg a3, a2, a4, sb_cr h8 D k]
  by_cases h : rnV (puV v n) = 0 ∨ (vP (dyV v n) k ≠ -6 ∧ rfP (vRo (dyV v n)) (ix (vP (dyV v n) k)))
  · rw [ht_y h, if_pos h]
  · rw [ht_n h, if_neg h]
theorem cns_su (q : SV) (n : Nat) (tp : Nat → Int32) (r : Int32) : ∀ k, cns q n tp r k = su_I (fun k => if stP q n k then hat q tp r k else 0) k
  | 0 => rfl
  | k + 1 => by
    rw [cns_s, su_I, ← cns_su q n tp r k, cnS]
    by_cases c : stP q n k
    · rw [if_pos c, if_pos c]
    · rw [if_neg c, if_neg c, Int32.add_zero]
theorem dy_sum {v : SV} {n : Nat} (K : ok_D v n) (K' : ok_D (dyV v n) n) : su_I (ht_V v n) n = dyC v n := by
  rw [su_Ic n (fun k hk => ht_e K K' hk), ← cns_su, dyC]
  have := cns_end (q := pqV v n) (n := n) (tp := ptV v n) (r := rnV (puV v n)) (8 - n)
  rw [show n + (8 - n) = 8 by have := K.2.1.1; omega] at this
  exact this.symm
theorem dy_Tk {v : SV} {n : Nat} (K : ok_D v n) (K' : ok_D (dyV v n) n) {k : Nat} (hk : k < n) : vT (dyV v n) k = vT v k + ht_V v n k := by
  rw [dy_T (by have := K.2.1.1; omega), ht_e K K' hk]
  by_cases c : stP (pqV v n) n k
  · rw [if_pos c, if_pos c]
  · rw [if_neg c, if_neg c, Int32.add_zero]
theorem dy_Ik {v : SV} {n : Nat} (K : ok_D v n) (K' : ok_D (dyV v n) n) {k : Nat} (hk : k < n) : vI (dyV v n) k = vI v k + (if vP (dyV v n) k < 0 then 1 else 0) := by
  rw [dy_I (by have := K.2.1.1; omega)]
  rcases K'.2.1.2.2.2.2.1 k hk with e | ip
  · rw [if_pos ⟨fun q => q.2 (by rw [← dy_P]; exact e), hk⟩, if_pos (by rw [e]; decide)]
  · rw [if_neg (fun q => q.1 ⟨hk, fun z => by rw [← dy_P] at z; rw [z] at ip; exact inP_6 ip⟩), if_neg (p_lt0 (n := n) ip), Int32.add_zero]
theorem dyC_rg {v : SV} {n : Nat} (K : ok_D v n) (K' : ok_D (dyV v n) n) : ∃ D, D ≤ 16000 ∧ dyC v n = nI D ∧ D = su_N (fun k => ix (ht_V v n k)) n := by
  have g : ∀ k, k < n → ht_V v n k = nI (ix (ht_V v n k)) ∧ ix (ht_V v n k) ≤ 1998 := fun k _ => by
    obtain ⟨c, hc, e⟩ := ht_rg K' k
    rw [e, ix_nI (by omega)]
    exact ⟨rfl, hc⟩
  have b := su_Nb (f := fun k => ix (ht_V v n k)) (c := 1998) n (fun k hk => (g k hk).2)
  have h8 := K.2.1.1
  have : n * 1998 ≤ 8 * 1998 := Nat.mul_le_mul_right 1998 h8
  exact ⟨_, by omega, by rw [← dy_sum K K', su_IN n (fun k hk => (g k hk).1)], rfl⟩
/-- after the day -/
theorem mo_day {v : SV} {n d : Nat} (K : ok_D v n) (K' : ok_D (dyV v n) n) (M : mo_D v n d) (hd : d < 80) : mo_D (dyV v n) n (d + 1) := by
  obtain ⟨T, t, f, i, M1, M2, M3, M4, MK, M6, M7⟩ := M
  obtain ⟨D, hD, eD, sD⟩ := dyC_rg K K'
  have h8 := K.2.1.1
  have g : ∀ k, ht_V v n k = nI (ix (ht_V v n k)) := fun k => by
    obtain ⟨c, hc, e⟩ := ht_rg K' k
    rw [e, ix_nI (by omega)]
  refine ⟨T + D, fun k => t k + ix (ht_V v n k), fun k => f k + (if (dlots (n - 1) (vX v) (filI n)).2 0 = nI k then 1 else 0), fun k => i k + (if vP (dyV v n) k < 0 then 1 else 0), ?_, by omega, ?_, by omega, fun k hk => ⟨?_, ?_, ?_, ?_⟩, ?_, ?_⟩
  · rw [(dy_1 v n).2.2.2.1, M1, nI_1]
  · rw [dy_Ta, M3, eD, nI_add]
  · rw [dy_Tk K K' hk, (MK k hk).1, ← nI_add, ← g k]
  · obtain ⟨b, hb, eb⟩ := (pe_dl0 h8 K.2.1.2.1).1.1 0 (by omega)
    rw [dy_F, eb, if_pos (bk_j h8 hb), ix_nI (by omega)]
    by_cases e : k = b
    · subst e
      dsimp only
      rw [pk_us, if_pos rfl, (MK k hk).2.1, nI_1]
    · dsimp only
      rw [pk_un e, if_neg (fun z => e ((nI_eq (by omega) (by omega)).mp z).symm), Nat.add_zero]
      exact (MK k hk).2.1
  · dsimp only
    rw [dy_Ik K K' hk, (MK k hk).2.2.1]
    by_cases c : vP (dyV v n) k < 0
    · rw [if_pos c, if_pos c, nI_1]
    · rw [if_neg c, if_neg c, Int32.add_zero, Nat.add_zero]
  · have := (MK k hk).2.2.2
    show f k + (if (dlots (n - 1) (vX v) (filI n)).2 0 = nI k then 1 else 0) + (i k + (if vP (dyV v n) k < 0 then 1 else 0)) ≤ 2 * (d + 1)
    split <;> split <;> omega
  · rw [su_Na, sD]
    omega
  · rw [su_Na]
    by_cases n0 : n = 0
    · rw [su_N0 (f := fun k => if (dlots (n - 1) (vX v) (filI n)).2 0 = nI k then 1 else 0) n (fun k hk => by omega)]
      omega
    · obtain ⟨b, hb, eb⟩ := (pe_dl0 h8 K.2.1.2.1).1.1 0 (by omega)
      rw [su_N1 (f := fun k => if (dlots (n - 1) (vX v) (filI n)).2 0 = nI k then 1 else 0) (j := b) n hb fun k hk hne => if_neg fun z => hne ((nI_eq (by omega) (by omega)).mp (z.symm.trans eb)), if_pos eb]
      omega
