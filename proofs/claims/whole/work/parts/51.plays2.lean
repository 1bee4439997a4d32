/-! the reference: plays, whole -/
theorem rn_1 {u : SV} {r x : Int32} (hr : r = if x < vS u 5 then 1 else 0) (c : ¬ vS u 5 ≤ x) : r = 1 := by rw [hr, if_pos (Int32.not_le.mp c)]
theorem rn_0 {u : SV} {r x : Int32} (hr : r = if x < vS u 5 then 1 else 0) (c : vS u 5 ≤ x) : r = 0 := by rw [hr, if_neg (Int32.not_lt.mpr c)]
set_option maxHeartbeats 4000000 in
set_option maxRecDepth 100000 in
theorem lX7_plays_102 (h0 : am_H) (P : Option Value → am_H → Prop) (q : RV) (p n : Nat) (hp : p ≤ 60) (w qq : SV) (h8 : n ≤ 8) (D : di_D w n) (pl : pl_D w n) (hx : xr_D (vX w)) (st s tp : Nat → Int32) (R : ro_R p n w s) (r : Int32) (y : Int64) (ey : y = lcg (vX w)) (hr : r = if drw (vX w) 100 < vS w 5 then 1 else 0) (T : to_T w n 8 tp) (eT : vT qq = vT w) (eP : ∀ b, b < n → vP w b = vP qq b) (eH : vH w = vH qq) (eS : vS w = vS qq) (eR : vRo w = vRo qq) (o3 : Option Value)
    (hP : ∀ st2 s2, ro_R p n (uDa (uRa (uTa (uT (uX w y) (mixF (htF qq n tp r) (vT w) n)) (vTa w + cns qq n tp r n)) (vRa w + (if r = 0 then 0 else 1))) (vDa w + 1)) s2 → fr_M p s s2 → P (some (.int (cns qq n tp r n))) (md_H (ru_S (ru_T q st2) s2))) : am_RW mX7_plays h0 P 0 0 102 [some (.ref 2), some (.int (nI p)), some (.int (nI n)), o3, none, none, none, none, none] [] (md_H (ru_S (ru_T q st) s)) := by
  have R1 := ro_uX R y
  refine ar_aload_n (i := 0) (pc := 102) dX7_plays_102 rfl rfl ?_
  refine ar_iload_n (i := 1) (pc := 103) dX7_plays_103 rfl rfl ?_
  refine ar_bipush (pc := 104) dX7_plays_104 q_bipush_100 ?_
  rw [show (100 : Int32) = nI 100 by decide +kernel]
  refine ar_idV (pc := 106) dX7_plays_106 cal_X7_draws kX7_64 rfl (sX7_draws (ru_S (ru_T q st) s) p n hp w R h8 hx (m := 100) (by omega) (by omega)) rfl rfl rfl rfl rfl rfl rfl (fun r h1 hp => ?_)
  obtain ⟨rfl, rfl⟩ := hp
  refine ⟨pat_md _ _, ?_⟩
  rw [← ey, rq_SS, ru_STc]
  refine ar_aload_n (i := 0) (pc := 109) dX7_plays_109 rfl rfl ?_
  refine ar_getf (pc := 110) dX7_plays_110 fX7_7 rfl rfl ?_
  refine ar_iload_n (i := 1) (pc := 113) dX7_plays_113 rfl rfl ?_
  refine ar_iconst (pc := 114) dX7_plays_114 q_iconst_5 ?_
  refine ar_iadd (pc := 115) dX7_plays_115 ?_
  refine ar_iald (pc := 116) dX7_plays_116 rfl (show p + 5 < 120 by omega) (nI_add p 5) ?_
  rw [rq_SS, roS R1 5 (by omega), show vS (uX w y) = vS w from rfl]
  refine ar_icmp_ge (pc := 117) (tgt := 124) dX7_plays_117 (by decide) (fun c117 => ?_) (fun c117 => ?_)
  · refine ar_iconst (pc := 124) dX7_plays_124 q_iconst_0 ?_
    refine ar_istore_n (i := 2) (pc := 125) dX7_plays_125 rfl (Nat.le_of_ble_eq_true rfl) rfl ?_
    refine ar_aload_n (i := 0) (pc := 126) dX7_plays_126 rfl rfl ?_
    refine ar_iload_n (i := 1) (pc := 127) dX7_plays_127 rfl rfl ?_
    refine ar_idV (pc := 128) dX7_plays_128 cal_X7_crowds kX7_50 rfl (sX7_crowds (ru_S (ru_T q st) (upd s (p + 6) y.toInt32)) p n hp (uX w y) R1 h8 D) rfl rfl rfl rfl rfl rfl rfl (fun r h1 hp => ?_)
    obtain ⟨st2, rfl, rfl, hst⟩ := hp
    refine ⟨pat_md _ _, ?_⟩
    rw [ru_TST]
    refine ar_istore_n (i := 3) (pc := 131) dX7_plays_131 rfl (Nat.le_of_ble_eq_true rfl) rfl ?_
    refine ar_iconst (pc := 132) dX7_plays_132 q_iconst_0 ?_
    refine ar_istore (pc := 133) dX7_plays_133 (Nat.le_of_ble_eq_true rfl) rfl ?_
    refine ar_iconst (pc := 135) dX7_plays_135 q_iconst_0 ?_
    refine ar_istore (pc := 136) dX7_plays_136 (Nat.le_of_ble_eq_true rfl) rfl ?_
    have er := rn_0 hr c117
    refine (fun (k : am_RW mX7_plays h0 P 0 0 138 [some (.ref 2), some (.int (nI p)), some (.int r), some (.int (rs_V (uX w y) n)), some (.int (nI 0)), some (.int (nI 0)), none, none, none] [] (md_H (ru_S (ru_T q st2) (upd s (p + 6) y.toInt32)))) => by rw [nI_0, er] at k; exact k) ?_
    exact lX7_plays_138 h0 P q p n hp (uX w y) qq h8 pl st2 s tp r eT (fun k hk => dy_hat h8 hst D T eP eH eS eR hk) _ (fun s2 h1 h2 => hP st2 s2 h1 h2) n 0 (nI 0) _ _ _ _ (by omega) (by rw [mixF_0]; exact R1) (by rw [nI_0]; rfl) (fr_Mu (fr_M0 _ _) (by omega) (by omega))
  · refine ar_iconst (pc := 120) dX7_plays_120 q_iconst_1 ?_
    refine ar_goto (tgt := 125) (pc := 121) dX7_plays_121 (by decide) ?_
    refine ar_istore_n (i := 2) (pc := 125) dX7_plays_125 rfl (Nat.le_of_ble_eq_true rfl) rfl ?_
    refine ar_aload_n (i := 0) (pc := 126) dX7_plays_126 rfl rfl ?_
    refine ar_iload_n (i := 1) (pc := 127) dX7_plays_127 rfl rfl ?_
    refine ar_idV (pc := 128) dX7_plays_128 cal_X7_crowds kX7_50 rfl (sX7_crowds (ru_S (ru_T q st) (upd s (p + 6) y.toInt32)) p n hp (uX w y) R1 h8 D) rfl rfl rfl rfl rfl rfl rfl (fun r h1 hp => ?_)
    obtain ⟨st2, rfl, rfl, hst⟩ := hp
    refine ⟨pat_md _ _, ?_⟩
    rw [ru_TST]
    refine ar_istore_n (i := 3) (pc := 131) dX7_plays_131 rfl (Nat.le_of_ble_eq_true rfl) rfl ?_
    refine ar_iconst (pc := 132) dX7_plays_132 q_iconst_0 ?_
    refine ar_istore (pc := 133) dX7_plays_133 (Nat.le_of_ble_eq_true rfl) rfl ?_
    refine ar_iconst (pc := 135) dX7_plays_135 q_iconst_0 ?_
    refine ar_istore (pc := 136) dX7_plays_136 (Nat.le_of_ble_eq_true rfl) rfl ?_
    have er := rn_1 hr c117
    refine (fun (k : am_RW mX7_plays h0 P 0 0 138 [some (.ref 2), some (.int (nI p)), some (.int r), some (.int (rs_V (uX w y) n)), some (.int (nI 0)), some (.int (nI 0)), none, none, none] [] (md_H (ru_S (ru_T q st2) (upd s (p + 6) y.toInt32)))) => by rw [nI_0, er] at k; exact k) ?_
    exact lX7_plays_138 h0 P q p n hp (uX w y) qq h8 pl st2 s tp r eT (fun k hk => dy_hat h8 hst D T eP eH eS eR hk) _ (fun s2 h1 h2 => hP st2 s2 h1 h2) n 0 (nI 0) _ _ _ _ (by omega) (by rw [mixF_0]; exact R1) (by rw [nI_0]; rfl) (fr_Mu (fr_M0 _ _) (by omega) (by omega))
theorem pu_S (v : SV) (n : Nat) : vS (puV v n) = vS v := rfl
theorem pu_X (v : SV) (n : Nat) : vX (puV v n) = (dlots (n - 1) (vX v) (filI n)).1 := rfl
theorem da_1 (u : SV) (y : Int64) (r : Int32) : vS (daV (uX u y) r) = vS u ∧ vX (daV (uX u y) r) = y ∧ vRo (daV (uX u y) r) = vRo u ∧ vDa (daV (uX u y) r) = vDa u + 1 ∧ vRa (daV (uX u y) r) = (if r = 0 then vRa u else vRa u + 1) ∧ vTa (daV (uX u y) r) = vTa u ∧ vH (daV (uX u y) r) = vH u ∧ vP (daV (uX u y) r) = vP u ∧ vT (daV (uX u y) r) = vT u ∧ vF (daV (uX u y) r) = vF u ∧ vI (daV (uX u y) r) = vI u ∧ vL (daV (uX u y) r) = vL u := ⟨rfl, rfl, rfl, rfl, rfl, rfl, rfl, rfl, rfl, rfl, rfl, rfl⟩
theorem fi_1 (n : Nat) (v : SV) (x : Int64) (f P : Nat → Int32) : vRo (uP (fin1 n (uL (uX v x) f)) P) = vRo v ∧ vDa (uP (fin1 n (uL (uX v x) f)) P) = vDa v ∧ vRa (uP (fin1 n (uL (uX v x) f)) P) = vRa v ∧ vTa (uP (fin1 n (uL (uX v x) f)) P) = vTa v ∧ vH (uP (fin1 n (uL (uX v x) f)) P) = vH v ∧ vP (uP (fin1 n (uL (uX v x) f)) P) = P ∧ vT (uP (fin1 n (uL (uX v x) f)) P) = vT v ∧ vI (uP (fin1 n (uL (uX v x) f)) P) = vI v ∧ vL (uP (fin1 n (uL (uX v x) f)) P) = f ∧ vF (uP (fin1 n (uL (uX v x) f)) P) = (if bkP n (f 0) then upd (vF v) (ix (f 0)) (vF v (ix (f 0)) + 1) else vF v) := ⟨rfl, rfl, rfl, rfl, rfl, rfl, rfl, rfl, rfl, rfl⟩
theorem pu_e (v : SV) (n : Nat) : puV v n = uP (fin1 n (uL (uX v (dlots (n - 1) (vX v) (filI n)).1) (dlots (n - 1) (vX v) (filI n)).2)) (chs (dlV v n) n 8).2 := rfl
theorem dl_L (v : SV) (n : Nat) : vL (dlV v n) = (dlots (n - 1) (vX v) (filI n)).2 := rfl
theorem dl_S (v : SV) (n : Nat) : vS (dlV v n) = vS v := rfl
theorem dl_H (v : SV) (n : Nat) : vH (dlV v n) = vH v := rfl
def c6_W (v : SV) (k : Nat) : SV := uP v (mixF (fun _ => -6) (vP v) k)
theorem c6_X (v : SV) (k : Nat) : vX (c6_W v k) = vX v := rfl
/-- the State of the reference when the lots are drawn -/
noncomputable def w0_W (v : SV) (n : Nat) : SV := uL (uX (c6_W v n) (dlots (n - 1) (vX v) (filI n)).1) (dlots (n - 1) (vX v) (filI n)).2
theorem w0_1 (c : SV) (x : Int64) (f : Nat → Int32) : vS (uL (uX c x) f) = vS c ∧ vX (uL (uX c x) f) = x ∧ vRo (uL (uX c x) f) = vRo c ∧ vDa (uL (uX c x) f) = vDa c ∧ vRa (uL (uX c x) f) = vRa c ∧ vTa (uL (uX c x) f) = vTa c ∧ vH (uL (uX c x) f) = vH c ∧ vP (uL (uX c x) f) = vP c ∧ vT (uL (uX c x) f) = vT c ∧ vF (uL (uX c x) f) = vF c ∧ vI (uL (uX c x) f) = vI c ∧ vL (uL (uX c x) f) = f := ⟨rfl, rfl, rfl, rfl, rfl, rfl, rfl, rfl, rfl, rfl, rfl, rfl⟩
/-- what a State must keep -/
def vv_D (v : SV) (n : Nat) : Prop := n ≤ 8 ∧ xr_D (vX v) ∧ he_D v n ∧ di_D v n ∧ pl_D v n ∧ 0 ≤ vS v 4
def pl_P (q : RV) (p n : Nat) (v : SV) : Option Value → am_H → Prop := fun r h1 => ∃ st s, r = some (.int (dyC v n)) ∧ h1 = md_H (ru_S (ru_T q st) s) ∧ ro_R p n (dyV v n) s ∧ fr_M p (rq_S q) s
theorem kw_day {v : SV} {n : Nat} (h8 : n ≤ 8) (hx : xr_D (vX v)) (he : he_D v n) (hg : 0 ≤ vS v 4) (k : Nat) (hk : k ≤ n) : kw_I (dlV v n) n (w0_W v n) k (kw_W (dlV v n) n (w0_W v n) k) :=
  kw_inv (d := dlV v n) (w0 := w0_W v n) h8 (by rw [dl_L]; exact (pe_dl0 h8 hx).1) rfl rfl he hg (fun b hb => mixF_all (f := fun _ => -6) (g := vP v) (N := n) (j := b) hb) k hk
theorem dy_end {p n : Nat} {v : SV} {s : Nat → Int32} (h8 : n ≤ 8) (hx : xr_D (vX v)) (he : he_D v n) (hg : 0 ≤ vS v 4) {r : Int32} {y : Int64} (er : r = rnV (puV v n)) (ey : y = lcg (vX (puV v n))) (R : ro_R p n (uDa (uRa (uTa (uT (uX (kw_W (dlV v n) n (w0_W v n) n) y) (mixF (htF (pqV v n) n (ptV v n) r) (vT (kw_W (dlV v n) n (w0_W v n) n)) n)) (vTa (kw_W (dlV v n) n (w0_W v n) n) + cns (pqV v n) n (ptV v n) r n)) (vRa (kw_W (dlV v n) n (w0_W v n) n) + (if r = 0 then 0 else 1))) (vDa (kw_W (dlV v n) n (w0_W v n) n) + 1)) s) : ro_R p n (dyV v n) s := by
  have L : pe_D n (vL (dlV v n)) := by rw [dl_L]; exact (pe_dl0 h8 hx).1
  have I := kw_day h8 hx he hg n (Nat.le_refl n)
  have E := sm_kw (dlV v n) n (w0_W v n) n
  have K := (kw_end h8 L I).1
  have F := I.2.2.2.2.2
  obtain ⟨d1, d2, d3, d4, d5, d6, d7, d8, d9, d10, d11, d12⟩ := da_1 (puV v n) y r
  obtain ⟨f1, f2, f3, f4, f5, f6, f7, f8, f9, f10⟩ := fi_1 n v (dlots (n - 1) (vX v) (filI n)).1 (dlots (n - 1) (vX v) (filI n)).2 (chs (dlV v n) n 8).2
  obtain ⟨g1, g2, g3, g4, g5, g6, g7, g8, g9, g10, g11, g12⟩ := w0_1 (c6_W v n) (dlots (n - 1) (vX v) (filI n)).1 (dlots (n - 1) (vX v) (filI n)).2
  rw [← pu_e] at f1 f2 f3 f4 f5 f6 f7 f8 f9 f10
  have eq : pqV v n = daV (uX (puV v n) y) r := by rw [pqV, ← ey, ← er]
  rw [dyV, ← er]
  refine dy_fin (w0 := w0_W v n) (d := v) h8 E (fun b hb => ?_) (fun b hb => ?_) ?_ ?_ ?_ ?_ ?_ ?_ ?_ ?_ ?_ ?_ R
  · rw [eq, d8, f6]
    exact K b hb
  · rw [F b, if_pos (show 0 < n by omega), eq, d10, f10, dl_L, if_pos]
    · rfl
    · obtain ⟨c, hc, ec⟩ := (pe_dl0 h8 hx).1.1 0 (by omega)
      rw [ec]
      exact bk_j h8 hc
  · rw [eq, d1]; rfl
  · rw [eq, d2]
  · rw [eq, d3, f1]; rfl
  · rw [eq, d4, f2]; rfl
  · rw [eq, d5, f3]
    by_cases c : r = 0
    · rw [if_pos c, if_pos c, add_0']; rfl
    · rw [if_neg c, if_neg c]; rfl
  · rw [eq, d6, f4]; rfl
  · rw [eq, d7, f5]; rfl
  · rw [eq, d9, f7]; rfl
  · rw [eq, d12, f9]; rfl
  · rw [eq, d11, f8]; rfl
theorem kw_nx {v : SV} {n k b : Nat} (eb : ix (vL (dlV v n) k) = b) : ch_W (ff_W (kw_W (dlV v n) n (w0_W v n) k) k b) b (bst (ff_W (kw_W (dlV v n) n (w0_W v n) k) k b) (chs (dlV v n) n k).1 (vH (ff_W (kw_W (dlV v n) n (w0_W v n) k) k b) b)) = kw_W (dlV v n) n (w0_W v n) (k + 1) := by
  have E := sm_kw (dlV v n) n (w0_W v n) k
  have F := sm_ff (kw_W (dlV v n) n (w0_W v n) k) k b
  rw [kw_s, eb]
  generalize kw_W (dlV v n) n (w0_W v n) k = w at E F ⊢
  have S : vS (ff_W w k b) = vS (dlV v n) := F.1.trans E.1
  have H : vH (ff_W w k b) = vH (dlV v n) := F.2.2.2.2.2.2.1.trans E.2.2.2.2.2.2.1
  rw [H, bst_S S]
set_option maxHeartbeats 4000000 in
set_option maxRecDepth 100000 in
theorem lX7_plays_41 (h0 : am_H) (P : Option Value → am_H → Prop) (q : RV) (p n : Nat) (hp : p ≤ 60) (v : SV) (h8 : n ≤ 8) (hx : xr_D (vX v)) (he : he_D v n) (hg : 0 ≤ vS v 4)
    (hK : ∀ st s o3, ro_R p n (kw_W (dlV v n) n (w0_W v n) n) s → fr_M p (rq_S q) s → am_RW mX7_plays h0 P 0 0 102 [some (.ref 2), some (.int (nI p)), some (.int (nI n)), o3, none, none, none, none, none] [] (md_H (ru_S (ru_T q st) s))) : ∀ (d k : Nat) (s st : Nat → Int32) (o3 : Option Value), k + d = n → ro_R p n (kw_W (dlV v n) n (w0_W v n) k) s → fr_M p (rq_S q) s → am_RW mX7_plays h0 P 0 0 41 [some (.ref 2), some (.int (nI p)), some (.int (nI k)), o3, none, none, none, none, none] [] (md_H (ru_S (ru_T q st) s)) := by
  intro d
  induction d with
  | zero =>
    intro k s st o3 hk R M
    have e : k = n := by omega
    subst e
    refine ar_iload_n (i := 2) (pc := 41) dX7_plays_41 rfl rfl ?_
    refine ar_aload_n (i := 0) (pc := 42) dX7_plays_42 rfl rfl ?_
    refine ar_getf (pc := 43) dX7_plays_43 fX7_7 rfl rfl ?_
    refine ar_iload_n (i := 1) (pc := 46) dX7_plays_46 rfl rfl ?_
    refine ar_bipush (pc := 47) dX7_plays_47 q_bipush_7 ?_
    refine ar_iadd (pc := 49) dX7_plays_49 ?_
    refine ar_iald (pc := 50) dX7_plays_50 rfl (show p + 7 < 120 by omega) (nI_add p 7) ?_
    rw [rq_SS, roN R]
    refine ar_icmp_ge (pc := 51) (tgt := 102) dX7_plays_51 (by decide) (fun c51 => ?_) (fun c51 => absurd (Int32.le_refl _) c51)
    exact hK st s o3 R M
  | succ d ih =>
    intro k s st o3 hk R M
    have hkn : k < n := by omega
    have I := kw_day h8 hx he hg k (by omega)
    have L := (pe_dl0 h8 hx).1
    obtain ⟨b, hb, eb⟩ := L.1 k hkn
    have ebd : vL (dlV v n) k = nI b := eb
    have ebx : ix (vL (dlV v n) k) = b := by rw [ebd, ix_nI (by omega)]
    have E := sm_kw (dlV v n) n (w0_W v n) k
    have eL : vL (kw_W (dlV v n) n (w0_W v n) k) k = nI b := by rw [E.2.2.2.2.2.2.2.2]; exact eb
    have nd : ¬ dn_K (vL (dlV v n)) k b := fun ⟨i, hi, e⟩ => by
      have := L.2.1 i k (by omega) (by omega) (e.trans ebd.symm)
      omega
    have hee : he_D (ff_W (kw_W (dlV v n) n (w0_W v n) k) k b) n := fun x hxx => by rw [show vH (ff_W (kw_W (dlV v n) n (w0_W v n) k) k b) = vH v from E.2.2.2.2.2.2.1]; exact he x hxx
    have hgg : 0 ≤ vS (ff_W (kw_W (dlV v n) n (w0_W v n) k) k b) 4 := by rw [show vS (ff_W (kw_W (dlV v n) n (w0_W v n) k) k b) = vS v from E.1]; exact hg
    have R1 : ro_R p n (ff_W (kw_W (dlV v n) n (w0_W v n) k) k b) (upd s (p + 20 + 5 * b + 3) (vF (kw_W (dlV v n) n (w0_W v n) k) b + (if k = 0 then 1 else 0))) := ro_uF R b (vF (kw_W (dlV v n) n (w0_W v n) k) b + (if k = 0 then 1 else 0))
    by_cases kz : k = 0
    · skip
      refine ar_iload_n (i := 2) (pc := 41) dX7_plays_41 rfl rfl ?_
      refine ar_aload_n (i := 0) (pc := 42) dX7_plays_42 rfl rfl ?_
      refine ar_getf (pc := 43) dX7_plays_43 fX7_7 rfl rfl ?_
      refine ar_iload_n (i := 1) (pc := 46) dX7_plays_46 rfl rfl ?_
      refine ar_bipush (pc := 47) dX7_plays_47 q_bipush_7 ?_
      refine ar_iadd (pc := 49) dX7_plays_49 ?_
      refine ar_iald (pc := 50) dX7_plays_50 rfl (show p + 7 < 120 by omega) (nI_add p 7) ?_
      rw [rq_SS, roN R]
      refine ar_icmp_ge (pc := 51) (tgt := 102) dX7_plays_51 (by decide) (fun c51 => absurd ((nI_leI (by omega) (by omega)).mp c51) (by omega)) (fun c51 => ?_)
      refine ar_aload_n (i := 0) (pc := 54) dX7_plays_54 rfl rfl ?_
      refine ar_getf (pc := 55) dX7_plays_55 fX7_7 rfl rfl ?_
      refine ar_iload_n (i := 1) (pc := 58) dX7_plays_58 rfl rfl ?_
      refine ar_bipush (pc := 59) dX7_plays_59 q_bipush_12 ?_
      refine ar_iadd (pc := 61) dX7_plays_61 ?_
      refine ar_iload_n (i := 2) (pc := 62) dX7_plays_62 rfl rfl ?_
      refine ar_iadd (pc := 63) dX7_plays_63 ?_
      refine ar_iald (pc := 64) dX7_plays_64 rfl (show p + 12 + k < 120 by omega) (by rw [show (12 : Int32) = nI 12 from rfl, nI_add, nI_add]) ?_
      rw [rq_SS, roL R k (by omega), eL, pm_nI (by omega)]
      refine ar_istore_n (i := 3) (pc := 65) dX7_plays_65 rfl (Nat.le_of_ble_eq_true rfl) rfl ?_
      refine ar_aload_n (i := 0) (pc := 66) dX7_plays_66 rfl rfl ?_
      refine ar_getf (pc := 67) dX7_plays_67 fX7_7 rfl rfl ?_
      refine ar_iload_n (i := 1) (pc := 70) dX7_plays_70 rfl rfl ?_
      refine ar_iload_n (i := 3) (pc := 71) dX7_plays_71 rfl rfl ?_
      refine ar_idS (pc := 72) dX7_plays_72 cal_X7_at kX7_36 rfl (sX7_at _ p b) rfl rfl rfl rfl rfl (fun r h1 hp => ?_)
      obtain ⟨rfl, rfl⟩ := hp
      refine ⟨rfl, ?_⟩
      refine ar_iconst (pc := 75) dX7_plays_75 q_iconst_3 ?_
      refine ar_iadd (pc := 76) dX7_plays_76 ?_
      refine ar_dup2 (pc := 77) dX7_plays_77 rfl rfl ?_
      refine ar_iald (pc := 78) dX7_plays_78 rfl (show p + 20 + 5 * b + 3 < 120 by omega) (nI_add _ 3) ?_
      rw [rq_SS, roF R hb]
      refine ar_iload_n (i := 2) (pc := 79) dX7_plays_79 rfl rfl ?_
      refine ar_if_ne (pc := 80) (tgt := 87) dX7_plays_80 (by decide) (fun c80 => absurd (show nI k = 0 by rw [kz, nI_0]) c80) (fun c80 => ?_)
      refine ar_iconst (pc := 83) dX7_plays_83 q_iconst_1 ?_
      refine ar_goto (tgt := 88) (pc := 84) dX7_plays_84 (by decide) ?_
      refine ar_iadd (pc := 88) dX7_plays_88 ?_
      refine ar_iast (pc := 89) dX7_plays_89 rfl (show p + 20 + 5 * b + 3 < 120 by omega) (nI_add _ 3) ?_
      rw [md_S, rq_SS, ru_STc]
      refine ar_aload_n (i := 0) (pc := 90) dX7_plays_90 rfl rfl ?_
      refine ar_iload_n (i := 1) (pc := 91) dX7_plays_91 rfl rfl ?_
      refine ar_iload_n (i := 3) (pc := 92) dX7_plays_92 rfl rfl ?_
      refine ar_idV (pc := 93) dX7_plays_93 cal_X7_chooses kX7_79 rfl (sX7_chooses (ru_S (ru_T q st) (upd s (p + 20 + 5 * b + 3) (vF (kw_W (dlV v n) n (w0_W v n) k) b + 1))) p n hp (ff_W (kw_W (dlV v n) n (w0_W v n) k) k b) (by rw [show (if k = 0 then (1 : Int32) else 0) = 1 from if_pos kz] at R1; exact R1) h8 hb (I.2.1 b hb nd).1 I.2.2.2.1 I.2.2.2.2.1 hee hgg (chs (dlV v n) n k).1 I.2.2.1) rfl rfl rfl rfl rfl rfl rfl (fun r h1 hp => ?_)
      obtain ⟨st2, s2, rfl, rfl, R2, M2⟩ := hp
      refine ⟨pat_md _ _, ?_⟩
      rw [ru_STS]
      rw [kw_nx ebx] at R2
      refine ar_iinc (pc := 96) dX7_plays_96 rfl (ni_inc _) (Nat.le_of_ble_eq_true rfl) rfl ?_
      refine ar_goto (tgt := 41) (pc := 99) dX7_plays_99 (by decide) ?_
      exact ih (k + 1) s2 st2 _ (by omega) R2 (fr_Mt M (fr_Mt (fr_Mu (fr_M0 _ _) (by omega) (by omega)) M2))
    · skip
      refine ar_iload_n (i := 2) (pc := 41) dX7_plays_41 rfl rfl ?_
      refine ar_aload_n (i := 0) (pc := 42) dX7_plays_42 rfl rfl ?_
      refine ar_getf (pc := 43) dX7_plays_43 fX7_7 rfl rfl ?_
      refine ar_iload_n (i := 1) (pc := 46) dX7_plays_46 rfl rfl ?_
      refine ar_bipush (pc := 47) dX7_plays_47 q_bipush_7 ?_
      refine ar_iadd (pc := 49) dX7_plays_49 ?_
      refine ar_iald (pc := 50) dX7_plays_50 rfl (show p + 7 < 120 by omega) (nI_add p 7) ?_
      rw [rq_SS, roN R]
      refine ar_icmp_ge (pc := 51) (tgt := 102) dX7_plays_51 (by decide) (fun c51 => absurd ((nI_leI (by omega) (by omega)).mp c51) (by omega)) (fun c51 => ?_)
      refine ar_aload_n (i := 0) (pc := 54) dX7_plays_54 rfl rfl ?_
      refine ar_getf (pc := 55) dX7_plays_55 fX7_7 rfl rfl ?_
      refine ar_iload_n (i := 1) (pc := 58) dX7_plays_58 rfl rfl ?_
      refine ar_bipush (pc := 59) dX7_plays_59 q_bipush_12 ?_
      refine ar_iadd (pc := 61) dX7_plays_61 ?_
      refine ar_iload_n (i := 2) (pc := 62) dX7_plays_62 rfl rfl ?_
      refine ar_iadd (pc := 63) dX7_plays_63 ?_
      refine ar_iald (pc := 64) dX7_plays_64 rfl (show p + 12 + k < 120 by omega) (by rw [show (12 : Int32) = nI 12 from rfl, nI_add, nI_add]) ?_
      rw [rq_SS, roL R k (by omega), eL, pm_nI (by omega)]
      refine ar_istore_n (i := 3) (pc := 65) dX7_plays_65 rfl (Nat.le_of_ble_eq_true rfl) rfl ?_
      refine ar_aload_n (i := 0) (pc := 66) dX7_plays_66 rfl rfl ?_
      refine ar_getf (pc := 67) dX7_plays_67 fX7_7 rfl rfl ?_
      refine ar_iload_n (i := 1) (pc := 70) dX7_plays_70 rfl rfl ?_
      refine ar_iload_n (i := 3) (pc := 71) dX7_plays_71 rfl rfl ?_
      refine ar_idS (pc := 72) dX7_plays_72 cal_X7_at kX7_36 rfl (sX7_at _ p b) rfl rfl rfl rfl rfl (fun r h1 hp => ?_)
      obtain ⟨rfl, rfl⟩ := hp
      refine ⟨rfl, ?_⟩
      refine ar_iconst (pc := 75) dX7_plays_75 q_iconst_3 ?_
      refine ar_iadd (pc := 76) dX7_plays_76 ?_
      refine ar_dup2 (pc := 77) dX7_plays_77 rfl rfl ?_
      refine ar_iald (pc := 78) dX7_plays_78 rfl (show p + 20 + 5 * b + 3 < 120 by omega) (nI_add _ 3) ?_
      rw [rq_SS, roF R hb]
      refine ar_iload_n (i := 2) (pc := 79) dX7_plays_79 rfl rfl ?_
      refine ar_if_ne (pc := 80) (tgt := 87) dX7_plays_80 (by decide) (fun c80 => ?_) (fun c80 => absurd c80 (nI_ne0 (by omega) (by omega)))
      refine ar_iconst (pc := 87) dX7_plays_87 q_iconst_0 ?_
      refine ar_iadd (pc := 88) dX7_plays_88 ?_
      refine ar_iast (pc := 89) dX7_plays_89 rfl (show p + 20 + 5 * b + 3 < 120 by omega) (nI_add _ 3) ?_
      rw [md_S, rq_SS, ru_STc]
      refine ar_aload_n (i := 0) (pc := 90) dX7_plays_90 rfl rfl ?_
      refine ar_iload_n (i := 1) (pc := 91) dX7_plays_91 rfl rfl ?_
      refine ar_iload_n (i := 3) (pc := 92) dX7_plays_92 rfl rfl ?_
      refine ar_idV (pc := 93) dX7_plays_93 cal_X7_chooses kX7_79 rfl (sX7_chooses (ru_S (ru_T q st) (upd s (p + 20 + 5 * b + 3) (vF (kw_W (dlV v n) n (w0_W v n) k) b + 0))) p n hp (ff_W (kw_W (dlV v n) n (w0_W v n) k) k b) (by rw [show (if k = 0 then (1 : Int32) else 0) = 0 from if_neg kz] at R1; exact R1) h8 hb (I.2.1 b hb nd).1 I.2.2.2.1 I.2.2.2.2.1 hee hgg (chs (dlV v n) n k).1 I.2.2.1) rfl rfl rfl rfl rfl rfl rfl (fun r h1 hp => ?_)
      obtain ⟨st2, s2, rfl, rfl, R2, M2⟩ := hp
      refine ⟨pat_md _ _, ?_⟩
      rw [ru_STS]
      rw [kw_nx ebx] at R2
      refine ar_iinc (pc := 96) dX7_plays_96 rfl (ni_inc _) (Nat.le_of_ble_eq_true rfl) rfl ?_
      refine ar_goto (tgt := 41) (pc := 99) dX7_plays_99 (by decide) ?_
      exact ih (k + 1) s2 st2 _ (by omega) R2 (fr_Mt M (fr_Mt (fr_Mu (fr_M0 _ _) (by omega) (by omega)) M2))
theorem c6_s (v : SV) (k : Nat) : uP (c6_W v k) (upd (vP (c6_W v k)) k (-6)) = c6_W v (k + 1) := by
  unfold c6_W
  rw [uu_P, vu_P, mixF_c]
theorem pm_6 : pm_ (-6) = -1 := by decide +kernel
set_option maxHeartbeats 4000000 in
set_option maxRecDepth 100000 in
theorem lX7_plays_2 (h0 : am_H) (P : Option Value → am_H → Prop) (q : RV) (p n : Nat) (hp : p ≤ 60) (v : SV) (h8 : n ≤ 8)
    (hK : ∀ s, ro_R p n (c6_W v n) s → fr_M p (rq_S q) s → am_RW mX7_plays h0 P 0 0 34 [some (.ref 2), some (.int (nI p)), some (.int (nI n)), none, none, none, none, none, none] [] (md_H (ru_S q s))) : ∀ (d k : Nat) (s : Nat → Int32), k + d = n → ro_R p n (c6_W v k) s → fr_M p (rq_S q) s → am_RW mX7_plays h0 P 0 0 2 [some (.ref 2), some (.int (nI p)), some (.int (nI k)), none, none, none, none, none, none] [] (md_H (ru_S q s)) := by
  intro d
  induction d with
  | zero =>
    intro k s hk R M
    have e : k = n := by omega
    subst e
    refine ar_iload_n (i := 2) (pc := 2) dX7_plays_2 rfl rfl ?_
    refine ar_aload_n (i := 0) (pc := 3) dX7_plays_3 rfl rfl ?_
    refine ar_getf (pc := 4) dX7_plays_4 fX7_7 rfl rfl ?_
    refine ar_iload_n (i := 1) (pc := 7) dX7_plays_7 rfl rfl ?_
    refine ar_bipush (pc := 8) dX7_plays_8 q_bipush_7 ?_
    refine ar_iadd (pc := 10) dX7_plays_10 ?_
    refine ar_iald (pc := 11) dX7_plays_11 rfl (show p + 7 < 120 by omega) (nI_add p 7) ?_
    rw [rq_SS, roN R]
    refine ar_icmp_ge (pc := 12) (tgt := 34) dX7_plays_12 (by decide) (fun c12 => ?_) (fun c12 => absurd (Int32.le_refl _) c12)
    exact hK s R M
  | succ d ih =>
    intro k s hk R M
    have R1 := ro_uP R k (-6)
    rw [c6_s, pm_6] at R1
    refine ar_iload_n (i := 2) (pc := 2) dX7_plays_2 rfl rfl ?_
    refine ar_aload_n (i := 0) (pc := 3) dX7_plays_3 rfl rfl ?_
    refine ar_getf (pc := 4) dX7_plays_4 fX7_7 rfl rfl ?_
    refine ar_iload_n (i := 1) (pc := 7) dX7_plays_7 rfl rfl ?_
    refine ar_bipush (pc := 8) dX7_plays_8 q_bipush_7 ?_
    refine ar_iadd (pc := 10) dX7_plays_10 ?_
    refine ar_iald (pc := 11) dX7_plays_11 rfl (show p + 7 < 120 by omega) (nI_add p 7) ?_
    rw [rq_SS, roN R]
    refine ar_icmp_ge (pc := 12) (tgt := 34) dX7_plays_12 (by decide) (fun c12 => absurd ((nI_leI (by omega) (by omega)).mp c12) (by omega)) (fun c12 => ?_)
    refine ar_aload_n (i := 0) (pc := 15) dX7_plays_15 rfl rfl ?_
    refine ar_getf (pc := 16) dX7_plays_16 fX7_7 rfl rfl ?_
    refine ar_iload_n (i := 1) (pc := 19) dX7_plays_19 rfl rfl ?_
    refine ar_iload_n (i := 2) (pc := 20) dX7_plays_20 rfl rfl ?_
    refine ar_idS (pc := 21) dX7_plays_21 cal_X7_at kX7_36 rfl (sX7_at _ p k) rfl rfl rfl rfl rfl (fun r h1 hp => ?_)
    obtain ⟨rfl, rfl⟩ := hp
    refine ⟨rfl, ?_⟩
    refine ar_iconst (pc := 24) dX7_plays_24 q_iconst_1 ?_
    refine ar_iadd (pc := 25) dX7_plays_25 ?_
    refine ar_iconst (pc := 26) dX7_plays_26 q_iconst_m1 ?_
    refine ar_iast (pc := 27) dX7_plays_27 rfl (show p + 20 + 5 * k + 1 < 120 by omega) (nI_add _ 1) ?_
    rw [md_S, rq_SS, ru_SS]
    refine ar_iinc (pc := 28) dX7_plays_28 rfl (ni_inc _) (Nat.le_of_ble_eq_true rfl) rfl ?_
    refine ar_goto (tgt := 2) (pc := 31) dX7_plays_31 (by decide) ?_
    exact ih (k + 1) _ (by omega) R1 (fr_Mu M (by omega) (by omega))
set_option maxHeartbeats 4000000 in
set_option maxRecDepth 100000 in
theorem lX7_plays_34 (h0 : am_H) (q : RV) (p n : Nat) (hp : p ≤ 60) (v : SV) (h8 : n ≤ 8) (hx : xr_D (vX v)) (he : he_D v n) (hg : 0 ≤ vS v 4) (s : Nat → Int32) (R : ro_R p n (c6_W v n) s) (M : fr_M p (rq_S q) s) : am_RW mX7_plays h0 (pl_P q p n v) 0 0 34 [some (.ref 2), some (.int (nI p)), some (.int (nI n)), none, none, none, none, none, none] [] (md_H (ru_S q s)) := by
  refine ar_aload_n (i := 0) (pc := 34) dX7_plays_34 rfl rfl ?_
  refine ar_iload_n (i := 1) (pc := 35) dX7_plays_35 rfl rfl ?_
  refine ar_idV (pc := 36) dX7_plays_36 cal_X7_lots kX7_75 rfl (sX7_lots (ru_S q s) p n hp (c6_W v n) R h8 hx) rfl rfl rfl rfl rfl rfl rfl (fun r h1 hp => ?_)
  obtain ⟨s2, rfl, rfl, R2, M2⟩ := hp
  refine ⟨pat_md _ _, ?_⟩
  rw [ru_SS]
  rw [c6_X] at R2
  refine ar_iconst (pc := 39) dX7_plays_39 q_iconst_0 ?_
  refine ar_istore_n (i := 2) (pc := 40) dX7_plays_40 rfl (Nat.le_of_ble_eq_true rfl) rfl ?_
  rw [← nI_0]
  refine ar_hp (h' := md_H (ru_S (ru_T q (rq_T q)) s2)) (by rw [ru_T0]) ?_
  refine lX7_plays_41 h0 _ q p n hp v h8 hx he hg (fun st s3 o3 R3 M3 => ?_) n 0 s2 (rq_T q) _ (by omega) R2 (fr_Mt M M2)
  have I := kw_day h8 hx he hg n (Nat.le_refl n)
  have E := sm_kw (dlV v n) n (w0_W v n) n
  have L : pe_D n (vL (dlV v n)) := by rw [dl_L]; exact (pe_dl0 h8 hx).1
  have K := kw_end h8 L I
  obtain ⟨d1, d2, d3, d4, d5, d6, d7, d8, d9, d10, d11, d12⟩ := da_1 (puV v n) (lcg (vX (puV v n))) (rnV (puV v n))
  obtain ⟨f1, f2, f3, f4, f5, f6, f7, f8, f9, f10⟩ := fi_1 n v (dlots (n - 1) (vX v) (filI n)).1 (dlots (n - 1) (vX v) (filI n)).2 (chs (dlV v n) n 8).2
  rw [← pu_e] at f1 f2 f3 f4 f5 f6 f7 f8 f9 f10
  have eX : vX (kw_W (dlV v n) n (w0_W v n) n) = vX (puV v n) := E.2.1
  have eS : vS (kw_W (dlV v n) n (w0_W v n) n) = vS (puV v n) := E.1
  refine lX7_plays_102 h0 _ q p n hp _ (pqV v n) h8 I.2.2.2.1 I.2.2.2.2.1 (by rw [eX, pu_X]; exact (pe_dl0 h8 hx).2) st s3 (ptV v n) R3 (rnV (puV v n)) (lcg (vX (puV v n))) (by rw [eX]) (by rw [rnV, eX, eS]) K.2 ?_ (fun b hb => ?_) ?_ ?_ ?_ o3 (fun st2 s4 R4 M4 => ⟨st2, s4, ?_, rfl, dy_end h8 hx he hg rfl rfl R4, fr_Mt M3 M4⟩)
  · rw [pqV, d9, f7]; exact E.2.2.2.2.2.2.2.1.symm
  · rw [pqV, d8, f6]; exact (K.1 b hb).1
  · rw [pqV, d7, f5]; exact E.2.2.2.2.2.2.1
  · rw [pqV, d1]; exact eS
  · rw [pqV, d3, f1]; exact E.2.2.1
  · rw [dyC]
    have := cns_end (q := pqV v n) (n := n) (tp := ptV v n) (r := rnV (puV v n)) (8 - n)
    rw [show n + (8 - n) = 8 by omega] at this
    rw [this]
set_option maxHeartbeats 4000000 in
set_option maxRecDepth 100000 in
theorem sX7_plays (q : RV) (p n : Nat) (hp : p ≤ 60) (v : SV) (R : ro_R p n v (rq_S q)) (V : vv_D v n) : am_Sp mX7_plays [.ref 2, .int (nI p)] (md_H q) (pl_P q p n v) := by
  refine am_intro (by decide) (Nat.le_of_ble_eq_true rfl) ?_
  obtain ⟨h8, hx, he, D, pl, hg⟩ := V
  refine ar_iconst (pc := 0) dX7_plays_0 q_iconst_0 ?_
  refine ar_istore_n (i := 2) (pc := 1) dX7_plays_1 rfl (Nat.le_of_ble_eq_true rfl) rfl ?_
  rw [← nI_0]
  refine ar_hp (h' := md_H (ru_S q (rq_S q))) (by rw [ru_S0]) ?_
  refine lX7_plays_2 _ _ q p n hp v h8 (fun s R M => ?_) n 0 (rq_S q) (by omega) (by rw [c6_W, mixF_0]; exact R) (fr_M0 _ _)
  exact lX7_plays_34 _ q p n hp v h8 hx he hg s R M

theorem sX7_plays0 (q : RV) (n : Nat) (v : SV) (R : ro_R 0 n v (rq_S q)) (V : vv_D v n) : am_Sp mX7_plays [.ref 2, .int 0] (md_H q) (pl_P q 0 n v) := by
  have := sX7_plays q 0 n (by omega) v R V
  rw [nI_0] at this
  exact this
theorem sX7_plays60 (q : RV) (n : Nat) (v : SV) (R : ro_R 60 n v (rq_S q)) (V : vv_D v n) : am_Sp mX7_plays [.ref 2, .int 60] (md_H q) (pl_P q 60 n v) := by
  have := sX7_plays q 60 n (by omega) v R V
  rw [show nI 60 = (60 : Int32) from rfl] at this
  exact this
