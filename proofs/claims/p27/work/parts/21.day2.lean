/-! the class Day: pitches, hats -/
theorem pat_vs (tp : Nat → Int32) (la lt : Nat → Int32) (ls lp : Int32) (ra rt : Nat → Int32) (rs rp : Int32) (v : SV) (t2 : Nat → Int32) (la2 lt2 : Nat → Int32) (ls2 lp2 : Int32) (ra2 rt2 : Nat → Int32) (rs2 rp2 : Int32) (w : SV) : am_pat (vsH t2 la2 lt2 ls2 lp2 ra2 rt2 rs2 rp2 w) = am_pat (vsH tp la lt ls lp ra rt rs rp v) := rfl
/-- the streams at the tops tp, with the settings of v -/
abbrev vsQ (tp : Nat → Int32) (v w : SV) : am_H := vsP tp (vS v 0) (vS v 1) (vS v 2) w
noncomputable def bst (v : SV) (tp : Nat → Int32) (h : Int32) : Int32 := (bopC (crV (arF 1 tp (vS v 0) (vS v 2)) (taF 1 tp (vS v 0) (vS v 2)) (vS v 2) (arF 0 tp (vS v 1) (vS v 2)) (taF 0 tp (vS v 1) (vS v 2)) (vS v 2) h) (fun k => opP tp k (vS v 4)) 12).1
abbrev tpl : Type := (Nat → Int32) × (Nat → Int32)
noncomputable def chput (v : SV) (b : Int32) (r : tpl) : tpl := (rsT r.1 (bst v r.1 (vH v (ix b))) (vH v (ix b)), upd r.2 (ix b) (bst v r.1 (vH v (ix b))))
noncomputable def chstep (v : SV) (n k : Nat) (r : tpl) : tpl := if bkP n (vL v k) then chput v (vL v k) r else r
/-- the tops and the places after the first k lots -/
noncomputable def chs (v : SV) (n k : Nat) : tpl := Nat.rec (motive := fun _ => tpl) (fun _ => 0, vP v) (fun k r => chstep v n k r) k
theorem chs_0 (v : SV) (n : Nat) : chs v n 0 = (fun _ => 0, vP v) := rfl
theorem chs_s (v : SV) (n k : Nat) : chs v n (k + 1) = chstep v n k (chs v n k) := rfl
theorem chs_y {v : SV} {n k : Nat} {tp pl : Nat → Int32} {b p : Int32} (e : chs v n k = (tp, pl)) (eb : b = vL v k) (h : bkP n b) (ep : p = bst v tp (vH v (ix b))) : chs v n (k + 1) = (rsT tp p (vH v (ix b)), upd pl (ix b) p) := by
  subst eb; subst ep
  rw [chs_s, e, chstep, if_pos h, chput]
theorem chs_n {v : SV} {n k : Nat} {tp pl : Nat → Int32} {b : Int32} (e : chs v n k = (tp, pl)) (eb : b = vL v k) (h : ¬ bkP n b) : chs v n (k + 1) = (tp, pl) := by
  subst eb
  rw [chs_s, e, chstep, if_neg h]
theorem vS_uP (v : SV) (f : Nat → Int32) : vS (uP v f) = vS v := rfl
theorem vP_uP (v : SV) (f : Nat → Int32) : vP (uP v f) = f := rfl
theorem vL_uP (v : SV) (f : Nat → Int32) : vL (uP v f) = vL v := rfl
theorem vH_uP (v : SV) (f : Nat → Int32) : vH (uP v f) = vH v := rfl
theorem vsS_uP (tp : Nat → Int32) (v : SV) (f : Nat → Int32) : vsS tp (uP v f) = vsQ tp v (uP v f) := rfl
theorem uP_self (v : SV) : uP v (vP v) = v := rfl
set_option maxHeartbeats 4000000 in
set_option maxRecDepth 100000 in
theorem lX0_choosePitches_11 (h0 : am_H) (v : SV) (n : Nat) (hn : vBo v = nI n) (h8 : n ≤ 8) : ∀ (d : Nat), ∀ (k : Nat) (tp pl : Nat → Int32) (o3 o4 : Option Value), k + d = 8 → chs v n k = (tp, pl) → am_RW mX0_choosePitches h0 (am_vp (vsQ (chs v n 8).1 v (uP v (chs v n 8).2))) 0 0 11 [some (.ref 10), some (.ref 2), some (.int (nI k)), o3, o4] [] (vsQ tp v (uP v pl)) := by
  intro d
  induction d with
  | zero =>
    intro k tp pl o3 o4 hk hc
    have e : k = 8 := by omega
    subst e
    refine ar_iload_n (i := 2) (pc := 11) dX0_choosePitches_11 rfl rfl ?_
    refine ar_aload_n (i := 0) (pc := 12) dX0_choosePitches_12 rfl rfl ?_
    refine ar_getf (pc := 13) dX0_choosePitches_13 fX0_39 rfl rfl ?_
    refine ar_alen (pc := 16) dX0_choosePitches_16 rfl ?_
    refine ar_icmp_ge (pc := 17) (tgt := 83) dX0_choosePitches_17 (by decide) (fun c17 => ?_) (fun c17 => False.elim (by (simp (disch := omega) only [Int32.lt_iff_toInt_lt, Int32.le_iff_toInt_le, ← Int32.toInt_inj, ti_m6, ti_m1, ti_0, ti_1, ti_2, ti_3, ti_4, ti_5, ti_6, ti_7, ti_8, ti_9, ti_12, ti_100, ti_9999, ti_60, nI_toInt] at c17) <;> omega))
    exact ar_vret (pc := 83) dX0_choosePitches_83 rfl rfl rfl ⟨rfl, by rw [hc]⟩
  | succ d ih =>
    intro k tp pl o3 o4 hk hc
    refine ar_iload_n (i := 2) (pc := 11) dX0_choosePitches_11 rfl rfl ?_
    refine ar_aload_n (i := 0) (pc := 12) dX0_choosePitches_12 rfl rfl ?_
    refine ar_getf (pc := 13) dX0_choosePitches_13 fX0_39 rfl rfl ?_
    refine ar_alen (pc := 16) dX0_choosePitches_16 rfl ?_
    refine ar_icmp_ge (pc := 17) (tgt := 83) dX0_choosePitches_17 (by decide) (fun c17 => False.elim (by (simp (disch := omega) only [Int32.lt_iff_toInt_lt, Int32.le_iff_toInt_le, ← Int32.toInt_inj, ti_m6, ti_m1, ti_0, ti_1, ti_2, ti_3, ti_4, ti_5, ti_6, ti_7, ti_8, ti_9, ti_12, ti_100, ti_9999, ti_60, nI_toInt] at c17) <;> omega)) (fun c17 => ?_)
    refine ar_aload_n (i := 0) (pc := 20) dX0_choosePitches_20 rfl rfl ?_
    refine ar_getf (pc := 21) dX0_choosePitches_21 fX0_39 rfl rfl ?_
    refine ar_iload_n (i := 2) (pc := 24) dX0_choosePitches_24 rfl rfl ?_
    refine ar_iald (pc := 25) dX0_choosePitches_25 rfl (show k < 8 by omega) rfl ?_
    refine ar_topi (fun y25 e25 => ?_)
    rw [vL_uP] at e25
    refine ar_istore_n (i := 3) (pc := 26) dX0_choosePitches_26 rfl (Nat.le_of_ble_eq_true rfl) rfl ?_
    refine ar_aload_n (i := 0) (pc := 27) dX0_choosePitches_27 rfl rfl ?_
    refine ar_iload_n (i := 3) (pc := 28) dX0_choosePitches_28 rfl rfl ?_
    refine ar_mc (pc := 29) (l := [0, 1, 10, 11, 12, 13, 14, 15, 16, 17]) (ar_rV dX0_choosePitches_29 cal_X3_isBooth kX0_43 rfl (sX3_isBooth (uP v pl) n hn h8 _) rfl rfl rfl rfl rfl okst rfl rfl) okst rfl rfl rfl rfl (fun r h1 hp => ?_)
    obtain ⟨⟨h29, rfl⟩ | ⟨h29, rfl⟩, rfl⟩ := hp
    · refine ⟨rfl, ?_⟩
      rw [mrgS]
      refine ar_if_eq (pc := 32) (tgt := 77) dX0_choosePitches_32 (by decide) (fun c32 => absurd c32 (by decide)) (fun c32 => ?_)
      refine ar_aload_n (i := 1) (pc := 35) dX0_choosePitches_35 rfl rfl ?_
      refine ar_aload_n (i := 0) (pc := 36) dX0_choosePitches_36 rfl rfl ?_
      refine ar_getf (pc := 37) dX0_choosePitches_37 fX0_67 rfl rfl ?_
      refine ar_iload_n (i := 3) (pc := 40) dX0_choosePitches_40 rfl rfl ?_
      refine ar_iald (pc := 41) dX0_choosePitches_41 rfl (show ix y25 < 8 by have := h29; unfold ix; omega) (ix_eq h29.1) ?_
      rw [vH_uP]
      refine ar_aload_n (i := 0) (pc := 42) dX0_choosePitches_42 rfl rfl ?_
      refine ar_iconst (pc := 43) dX0_choosePitches_43 q_iconst_4 ?_
      refine ar_mc (pc := 44) (l := [0, 1, 10, 11, 12, 13, 14, 15, 16, 17]) (ar_rV dX0_choosePitches_44 cal_X3_setting kX0_25 rfl (sX3_setting (uP v pl) (k := 4) (by decide)) rfl rfl rfl rfl rfl okst rfl rfl) okst rfl rfl rfl rfl (fun r h1 hp => ?_)
      obtain ⟨rfl, rfl⟩ := hp
      refine ⟨rfl, ?_⟩
      rw [mrgS, vS_uP]
      refine ar_mc (pc := 47) (l := [0, 1, 2, 3, 4, 5, 6, 7, 8, 9]) (ar_rV dX0_choosePitches_47 cal_X5_bestOpenPitch kX0_70 rfl (sX5_bestOpenPitch tp (arF 1 tp (vS v 0) (vS v 2)) (taF 1 tp (vS v 0) (vS v 2)) (vS v 2) (paF 1 tp (vS v 0) (vS v 2)) (arF 0 tp (vS v 1) (vS v 2)) (taF 0 tp (vS v 1) (vS v 2)) (vS v 2) (paF 0 tp (vS v 1) (vS v 2)) _ _) rfl rfl rfl rfl rfl okvw rfl rfl) okvw rfl rfl rfl rfl (fun r h1 hp => ?_)
      obtain ⟨rfl, rfl⟩ := hp
      refine ⟨rfl, ?_⟩
      rw [mrgV]
      refine ar_topi (fun y47 e47 => ?_)
      refine ar_istore (pc := 50) dX0_choosePitches_50 (Nat.le_of_ble_eq_true rfl) rfl ?_
      refine ar_aload_n (i := 0) (pc := 52) dX0_choosePitches_52 rfl rfl ?_
      refine ar_getf (pc := 53) dX0_choosePitches_53 fX0_73 rfl rfl ?_
      refine ar_iload_n (i := 3) (pc := 56) dX0_choosePitches_56 rfl rfl ?_
      refine ar_iload (pc := 57) dX0_choosePitches_57 rfl ?_
      refine ar_iast (pc := 59) dX0_choosePitches_59 rfl (show ix y25 < 8 by have := h29; unfold ix; omega) (ix_eq h29.1) ?_
      rw [vs_P, uu_P, vu_P]
      refine ar_aload_n (i := 1) (pc := 60) dX0_choosePitches_60 rfl rfl ?_
      refine ar_iload (pc := 61) dX0_choosePitches_61 rfl ?_
      refine ar_aload_n (i := 0) (pc := 63) dX0_choosePitches_63 rfl rfl ?_
      refine ar_getf (pc := 64) dX0_choosePitches_64 fX0_67 rfl rfl ?_
      refine ar_iload_n (i := 3) (pc := 67) dX0_choosePitches_67 rfl rfl ?_
      refine ar_iald (pc := 68) dX0_choosePitches_68 rfl (show ix y25 < 8 by have := h29; unfold ix; omega) (ix_eq h29.1) ?_
      rw [vH_uP]
      refine ar_mc (pc := 69) (l := [0, 1, 2, 3, 4, 5, 6, 7, 8, 9]) (ar_rV dX0_choosePitches_69 cal_X5_raise kX0_76 rfl (sX5_raise tp (arF 1 tp (vS v 0) (vS v 2)) (taF 1 tp (vS v 0) (vS v 2)) (vS v 2) (paF 1 tp (vS v 0) (vS v 2)) (arF 0 tp (vS v 1) (vS v 2)) (taF 0 tp (vS v 1) (vS v 2)) (vS v 2) (paF 0 tp (vS v 1) (vS v 2)) y47 (vH v (ix y25))) rfl rfl rfl rfl rfl okvw rfl rfl) okvw rfl rfl rfl rfl (fun r h1 hp => ?_)
      obtain ⟨rfl, rfl⟩ := hp
      refine ⟨rfl, ?_⟩
      rw [mrgV]
      refine ar_aload_n (i := 1) (pc := 72) dX0_choosePitches_72 rfl rfl ?_
      refine ar_aload_n (i := 0) (pc := 73) dX0_choosePitches_73 rfl rfl ?_
      refine ar_idV (pc := 74) dX0_choosePitches_74 cal_X5_letPeoplePass kX0_64 rfl (sX5_letPeoplePass (rsT tp y47 (vH v (ix y25))) (arF 1 tp (vS v 0) (vS v 2)) (taF 1 tp (vS v 0) (vS v 2)) (vS v 2) (paF 1 tp (vS v 0) (vS v 2)) (arF 0 tp (vS v 1) (vS v 2)) (taF 0 tp (vS v 1) (vS v 2)) (vS v 2) (paF 0 tp (vS v 1) (vS v 2)) (uP v (upd pl (ix y25) y47))) rfl rfl rfl rfl rfl rfl rfl (fun r h1 hp => ?_)
      obtain ⟨rfl, rfl⟩ := hp
      refine ⟨pat_vs .., ?_⟩
      rw [vsS_uP]
      refine ar_iinc (pc := 77) dX0_choosePitches_77 rfl (ni_inc _) (Nat.le_of_ble_eq_true rfl) rfl ?_
      refine ar_goto (tgt := 11) (pc := 80) dX0_choosePitches_80 (by decide) ?_
      exact ih (k + 1) _ _ _ _ (by omega) (chs_y hc e25 h29 e47)
    · refine ⟨rfl, ?_⟩
      rw [mrgS]
      refine ar_if_eq (pc := 32) (tgt := 77) dX0_choosePitches_32 (by decide) (fun c32 => ?_) (fun c32 => absurd c32 (by decide))
      refine ar_iinc (pc := 77) dX0_choosePitches_77 rfl (ni_inc _) (Nat.le_of_ble_eq_true rfl) rfl ?_
      refine ar_goto (tgt := 11) (pc := 80) dX0_choosePitches_80 (by decide) ?_
      exact ih (k + 1) _ _ _ _ (by omega) (chs_n hc e25 h29)
set_option maxHeartbeats 4000000 in
set_option maxRecDepth 100000 in
theorem sX0_choosePitches (tp : Nat → Int32) (la lt : Nat → Int32) (ls lp : Int32) (ra rt : Nat → Int32) (rs rp : Int32) (v : SV) (n : Nat) (hn : vBo v = nI n) (h8 : n ≤ 8) : am_Sp mX0_choosePitches [.ref 10, .ref 2] (vsH tp la lt ls lp ra rt rs rp v) (am_vp (vsQ (chs v n 8).1 v (uP v (chs v n 8).2))) := by
  refine am_intro (by decide) (Nat.le_of_ble_eq_true rfl) ?_
  refine ar_aload_n (i := 1) (pc := 0) dX0_choosePitches_0 rfl rfl ?_
  refine ar_mc (pc := 1) (l := [0, 1, 2, 3, 4, 5, 6, 7, 8, 9]) (ar_rV dX0_choosePitches_1 cal_X5_clear kX0_59 rfl (sX5_clear tp la lt ls lp ra rt rs rp) rfl rfl rfl rfl rfl okvw rfl rfl) okvw rfl rfl rfl rfl (fun r h1 hp => ?_)
  obtain ⟨rfl, rfl⟩ := hp
  refine ⟨rfl, ?_⟩
  rw [mrgV]
  refine ar_aload_n (i := 1) (pc := 4) dX0_choosePitches_4 rfl rfl ?_
  refine ar_aload_n (i := 0) (pc := 5) dX0_choosePitches_5 rfl rfl ?_
  refine ar_idV (pc := 6) dX0_choosePitches_6 cal_X5_letPeoplePass kX0_64 rfl (sX5_letPeoplePass (fun _ => 0) la lt ls lp ra rt rs rp v) rfl rfl rfl rfl rfl rfl rfl (fun r h1 hp => ?_)
  obtain ⟨rfl, rfl⟩ := hp
  refine ⟨pat_vs .., ?_⟩
  refine ar_iconst (pc := 9) dX0_choosePitches_9 q_iconst_0 ?_
  refine ar_istore_n (i := 2) (pc := 10) dX0_choosePitches_10 rfl (Nat.le_of_ble_eq_true rfl) rfl ?_
  have h := lX0_choosePitches_11 (vsH tp la lt ls lp ra rt rs rp v) v n hn h8 8 0 (fun _ => 0) (vP v) none none (by omega) (chs_0 v n)
  rw [uP_self] at h
  exact h

/-- what the hat of the booth at the place k brings -/
def crd (v : SV) (tp : Nat → Int32) (r : Int32) (k : Nat) : Int32 := if ¬ r = 0 ∧ ¬ rfP (vRo v) (ix (vP v k)) then 0 else stpV (arF 1 tp (vS v 0) (vS v 2)) (taF 1 tp (vS v 0) (vS v 2)) (vS v 2) (vP v k) (vH v k) + stpV (arF 0 tp (vS v 1) (vS v 2)) (taF 0 tp (vS v 1) (vS v 2)) (vS v 2) (vP v k) (vH v k)
def hat (v : SV) (tp : Nat → Int32) (r : Int32) (k : Nat) : Int32 := crd v tp r k * vS v 3 / 100
def htF (v : SV) (n : Nat) (tp : Nat → Int32) (r : Int32) : Nat → Int32 := fun k => if stP v n k then vT v k + hat v tp r k else vT v k
def idF (v : SV) (n : Nat) : Nat → Int32 := fun k => if ¬ stP v n k ∧ k < n then vI v k + 1 else vI v k
def cnS (v : SV) (n : Nat) (tp : Nat → Int32) (r : Int32) (k : Nat) (c : Int32) : Int32 := if stP v n k then c + hat v tp r k else c
def cns (v : SV) (n : Nat) (tp : Nat → Int32) (r : Int32) (k : Nat) : Int32 := Nat.rec (motive := fun _ => Int32) 0 (fun k c => cnS v n tp r k c) k
theorem cns_0 (v : SV) (n : Nat) (tp : Nat → Int32) (r : Int32) : cns v n tp r 0 = 0 := rfl
theorem cns_s (v : SV) (n : Nat) (tp : Nat → Int32) (r : Int32) (k : Nat) : cns v n tp r (k + 1) = cnS v n tp r k (cns v n tp r k) := rfl
theorem cns_y {v : SV} {n : Nat} {tp : Nat → Int32} {r : Int32} {k : Nat} {c : Int32} (e : c = cns v n tp r k) (h : stP v n k) {x : Int32} (ex : x = hat v tp r k) : c + x = cns v n tp r (k + 1) := by
  subst e; subst ex
  rw [cns_s, cnS, if_pos h]
theorem cns_n {v : SV} {n : Nat} {tp : Nat → Int32} {r : Int32} {k : Nat} {c : Int32} (e : c = cns v n tp r k) (h : ¬ stP v n k) : c = cns v n tp r (k + 1) := by
  subst e
  rw [cns_s, cnS, if_neg h]
/-- v with other hats and idle days -/
def uTI (v : SV) (a b : Nat → Int32) : SV := uI (uT v a) b
theorem uTI_T (v : SV) (a b f : Nat → Int32) : uT (uTI v a b) f = uTI v f b := rfl
theorem uTI_I (v : SV) (a b f : Nat → Int32) : uI (uTI v a b) f = uTI v a f := rfl
theorem vT_uTI (v : SV) (a b : Nat → Int32) : vT (uTI v a b) = a := rfl
theorem vI_uTI (v : SV) (a b : Nat → Int32) : vI (uTI v a b) = b := rfl
theorem vP_uTI (v : SV) (a b : Nat → Int32) : vP (uTI v a b) = vP v := rfl
theorem vH_uTI (v : SV) (a b : Nat → Int32) : vH (uTI v a b) = vH v := rfl
theorem vS_uTI (v : SV) (a b : Nat → Int32) : vS (uTI v a b) = vS v := rfl
theorem vRo_uTI (v : SV) (a b : Nat → Int32) : vRo (uTI v a b) = vRo v := rfl
theorem vTa_uTI (v : SV) (a b : Nat → Int32) : vTa (uTI v a b) = vTa v := rfl
theorem stP_uTI (v : SV) (a b : Nat → Int32) (n k : Nat) : stP (uTI v a b) n k = stP v n k := by rw [stP, vP_uTI]
theorem uTI_self (v : SV) : uTI v (vT v) (vI v) = v := rfl
noncomputable def phV (v : SV) (n : Nat) (tp : Nat → Int32) (r : Int32) : SV := uTa (uTI v (mixF (htF v n tp r) (vT v) 8) (mixF (idF v n) (vI v) 8)) (vTa v + cns v n tp r 8)
set_option maxHeartbeats 4000000 in
set_option maxRecDepth 100000 in
theorem lX0_passHats_5 (h0 : am_H) (v : SV) (n : Nat) (hn : vBo v = nI n) (h8 : n ≤ 8) (hp : ∀ k, k < 8 → stP v n k → inP (vP v k)) (tp : Nat → Int32) (r : Int32) : ∀ (d : Nat), ∀ (k : Nat) (c : Int32) (a b : Nat → Int32) (o5 o6 o7 o8 : Option Value), k + d = 8 → c = cns v n tp r k → a = mixF (htF v n tp r) (vT v) k → b = mixF (idF v n) (vI v) k → am_RW mX0_passHats h0 (fun r0 h1 => r0 = some (.int (cns v n tp r 8)) ∧ h1 = vsQ tp v (phV v n tp r)) 0 0 5 [some (.ref 10), some (.ref 2), some (.int r), some (.int c), some (.int (nI k)), o5, o6, o7, o8] [] (vsQ tp v (uTI v a b)) := by
  intro d
  induction d with
  | zero =>
    intro k c a b o5 o6 o7 o8 hk hc ha hb
    have e : k = 8 := by omega
    subst e
    refine ar_iload (pc := 5) dX0_passHats_5 rfl ?_
    refine ar_bipush (pc := 7) dX0_passHats_7 q_bipush_8 ?_
    refine ar_icmp_ge (pc := 9) (tgt := 133) dX0_passHats_9 (by decide) (fun c9 => ?_) (fun c9 => False.elim (by (simp (disch := omega) only [Int32.lt_iff_toInt_lt, Int32.le_iff_toInt_le, ← Int32.toInt_inj, ti_m6, ti_m1, ti_0, ti_1, ti_2, ti_3, ti_4, ti_5, ti_6, ti_7, ti_8, ti_9, ti_12, ti_100, ti_9999, ti_60, nI_toInt] at c9) <;> omega))
    refine ar_aload_n (i := 0) (pc := 133) dX0_passHats_133 rfl rfl ?_
    refine ar_dup (pc := 134) dX0_passHats_134 rfl ?_
    refine ar_getf (pc := 135) dX0_passHats_135 fX0_95 rfl rfl ?_
    refine ar_iload_n (i := 3) (pc := 138) dX0_passHats_138 rfl rfl ?_
    refine ar_iadd (pc := 139) dX0_passHats_139 ?_
    refine ar_putf (pc := 140) dX0_passHats_140 fX0_95 rfl (Nat.le_of_ble_eq_true rfl) (fun _ => ⟨rfl, rfl⟩) ?_
    rw [vs_Ta, vTa_uTI]
    refine ar_iload_n (i := 3) (pc := 143) dX0_passHats_143 rfl rfl ?_
    exact ar_iret (pc := 144) dX0_passHats_144 rfl rfl rfl ⟨by rw [hc], by rw [hc, phV, ← ha, ← hb]⟩
  | succ d ih =>
    intro k c a b o5 o6 o7 o8 hk hc ha hb
    refine ar_iload (pc := 5) dX0_passHats_5 rfl ?_
    refine ar_bipush (pc := 7) dX0_passHats_7 q_bipush_8 ?_
    refine ar_icmp_ge (pc := 9) (tgt := 133) dX0_passHats_9 (by decide) (fun c9 => False.elim (by (simp (disch := omega) only [Int32.lt_iff_toInt_lt, Int32.le_iff_toInt_le, ← Int32.toInt_inj, ti_m6, ti_m1, ti_0, ti_1, ti_2, ti_3, ti_4, ti_5, ti_6, ti_7, ti_8, ti_9, ti_12, ti_100, ti_9999, ti_60, nI_toInt] at c9) <;> omega)) (fun c9 => ?_)
    refine ar_aload_n (i := 0) (pc := 12) dX0_passHats_12 rfl rfl ?_
    refine ar_iload (pc := 13) dX0_passHats_13 rfl ?_
    refine ar_mc (pc := 15) (l := [0, 1, 10, 11, 12, 13, 14, 15, 16, 17]) (ar_rV dX0_passHats_15 cal_X3_isStanding kX0_80 rfl (sX3_isStanding (uTI v a b) n hn h8 (show k < 8 by omega)) rfl rfl rfl rfl rfl okst rfl rfl) okst rfl rfl rfl rfl (fun r h1 hp => ?_)
    obtain ⟨⟨h15, rfl⟩ | ⟨h15, rfl⟩, rfl⟩ := hp
    · refine ⟨rfl, ?_⟩
      rw [mrgS]
      rw [stP_uTI] at h15
      refine ar_if_eq (pc := 18) (tgt := 107) dX0_passHats_18 (by decide) (fun c18 => absurd c18 (by decide)) (fun c18 => ?_)
      refine ar_aload_n (i := 0) (pc := 21) dX0_passHats_21 rfl rfl ?_
      refine ar_getf (pc := 22) dX0_passHats_22 fX0_73 rfl rfl ?_
      refine ar_iload (pc := 25) dX0_passHats_25 rfl ?_
      refine ar_iald (pc := 27) dX0_passHats_27 rfl (show k < 8 by omega) rfl ?_
      refine ar_topi (fun y27 e27 => ?_)
      rw [vP_uTI] at e27
      obtain ⟨q, hq12, hq⟩ : ∃ q, q < 12 ∧ vP v k = nI q := ⟨ix (vP v k), by have := hp k (by omega) h15; unfold ix; omega, ix_eq (hp k (by omega) h15).1⟩
      rw [hq] at e27
      subst e27
      refine ar_istore (pc := 28) dX0_passHats_28 (Nat.le_of_ble_eq_true rfl) rfl ?_
      refine ar_iload_n (i := 2) (pc := 30) dX0_passHats_30 rfl rfl ?_
      refine ar_if_eq (pc := 31) (tgt := 47) dX0_passHats_31 (by decide) (fun c31 => ?_) (fun c31 => ?_)
      · refine ar_iconst (pc := 47) dX0_passHats_47 q_iconst_0 ?_
        refine ar_istore (pc := 48) dX0_passHats_48 (Nat.le_of_ble_eq_true rfl) rfl ?_
        refine ar_iload (pc := 50) dX0_passHats_50 rfl ?_
        refine ar_if_eq (pc := 52) (tgt := 59) dX0_passHats_52 (by decide) (fun c52 => ?_) (fun c52 => ?_)
        · refine ar_aload_n (i := 1) (pc := 59) dX0_passHats_59 rfl rfl ?_
          refine ar_iload (pc := 60) dX0_passHats_60 rfl ?_
          refine ar_aload_n (i := 0) (pc := 62) dX0_passHats_62 rfl rfl ?_
          refine ar_getf (pc := 63) dX0_passHats_63 fX0_67 rfl rfl ?_
          refine ar_iload (pc := 66) dX0_passHats_66 rfl ?_
          refine ar_iald (pc := 68) dX0_passHats_68 rfl (show k < 8 by omega) rfl ?_
          rw [vH_uTI]
          refine ar_mc (pc := 69) (l := [0, 1, 2, 3, 4, 5, 6, 7, 8, 9]) (ar_rV dX0_passHats_69 cal_X5_crowdAt kX0_86 rfl (sX5_crowdAt tp (arF 1 tp (vS v 0) (vS v 2)) (taF 1 tp (vS v 0) (vS v 2)) (vS v 2) (paF 1 tp (vS v 0) (vS v 2)) (arF 0 tp (vS v 1) (vS v 2)) (taF 0 tp (vS v 1) (vS v 2)) (vS v 2) (paF 0 tp (vS v 1) (vS v 2)) (nI q) (vH v k)) rfl rfl rfl rfl rfl okvw rfl rfl) okvw rfl rfl rfl rfl (fun r h1 hp => ?_)
          obtain ⟨rfl, rfl⟩ := hp
          refine ⟨rfl, ?_⟩
          rw [mrgV]
          refine ar_topi (fun y69 e69 => ?_)
          refine ar_istore (pc := 72) dX0_passHats_72 (Nat.le_of_ble_eq_true rfl) rfl ?_
          refine ar_iload (pc := 74) dX0_passHats_74 rfl ?_
          refine ar_aload_n (i := 0) (pc := 76) dX0_passHats_76 rfl rfl ?_
          refine ar_iconst (pc := 77) dX0_passHats_77 q_iconst_3 ?_
          refine ar_mc (pc := 78) (l := [0, 1, 10, 11, 12, 13, 14, 15, 16, 17]) (ar_rV dX0_passHats_78 cal_X3_setting kX0_25 rfl (sX3_setting (uTI v a b) (k := 3) (by decide)) rfl rfl rfl rfl rfl okst rfl rfl) okst rfl rfl rfl rfl (fun r h1 hp => ?_)
          obtain ⟨rfl, rfl⟩ := hp
          refine ⟨rfl, ?_⟩
          rw [mrgS, vS_uTI]
          refine ar_imul (pc := 81) dX0_passHats_81 ?_
          refine ar_bipush (pc := 82) dX0_passHats_82 q_bipush_100 ?_
          refine ar_idiv (pc := 84) dX0_passHats_84 (by decide) ?_
          refine ar_topi (fun y84 e84 => ?_)
          refine ar_istore (pc := 85) dX0_passHats_85 (Nat.le_of_ble_eq_true rfl) rfl ?_
          refine ar_aload_n (i := 0) (pc := 87) dX0_passHats_87 rfl rfl ?_
          refine ar_getf (pc := 88) dX0_passHats_88 fX0_89 rfl rfl ?_
          refine ar_iload (pc := 91) dX0_passHats_91 rfl ?_
          refine ar_dup2 (pc := 93) dX0_passHats_93 rfl rfl ?_
          refine ar_iald (pc := 94) dX0_passHats_94 rfl (show k < 8 by omega) rfl ?_
          refine ar_iload (pc := 95) dX0_passHats_95 rfl ?_
          refine ar_iadd (pc := 97) dX0_passHats_97 ?_
          refine ar_iast (pc := 98) dX0_passHats_98 rfl (show k < 8 by omega) rfl ?_
          rw [vs_T, uTI_T, vT_uTI]
          refine ar_iload_n (i := 3) (pc := 99) dX0_passHats_99 rfl rfl ?_
          refine ar_iload (pc := 100) dX0_passHats_100 rfl ?_
          refine ar_iadd (pc := 102) dX0_passHats_102 ?_
          refine ar_istore_n (i := 3) (pc := 103) dX0_passHats_103 rfl (Nat.le_of_ble_eq_true rfl) rfl ?_
          refine ar_goto (tgt := 127) (pc := 104) dX0_passHats_104 (by decide) ?_
          refine ar_iinc (pc := 127) dX0_passHats_127 rfl (ni_inc _) (Nat.le_of_ble_eq_true rfl) rfl ?_
          refine ar_goto (tgt := 5) (pc := 130) dX0_passHats_130 (by decide) ?_
          have ehat : y84 = hat v tp r k := by
            rw [e84, hat, crd, hq, ix_nI (by omega), if_neg (fun z => z.1 c31), ← e69]
          refine ih (k + 1) _ _ _ _ _ _ _ (by omega) (cns_y hc h15 ehat) ?_ ?_
          · rw [ha]
            exact mixF_v (by rw [htF, if_pos h15, ← ehat, mixF_at])
          · rw [hb]
            exact mixF_n (by rw [idF, if_neg (fun z => z.1 h15)])
        · refine ar_iconst (pc := 55) dX0_passHats_55 q_iconst_0 ?_
          refine ar_goto (tgt := 72) (pc := 56) dX0_passHats_56 (by decide) ?_
          refine ar_istore (pc := 72) dX0_passHats_72 (Nat.le_of_ble_eq_true rfl) rfl ?_
          refine ar_iload (pc := 74) dX0_passHats_74 rfl ?_
          refine ar_aload_n (i := 0) (pc := 76) dX0_passHats_76 rfl rfl ?_
          refine ar_iconst (pc := 77) dX0_passHats_77 q_iconst_3 ?_
          refine ar_mc (pc := 78) (l := [0, 1, 10, 11, 12, 13, 14, 15, 16, 17]) (ar_rV dX0_passHats_78 cal_X3_setting kX0_25 rfl (sX3_setting (uTI v a b) (k := 3) (by decide)) rfl rfl rfl rfl rfl okst rfl rfl) okst rfl rfl rfl rfl (fun r h1 hp => ?_)
          obtain ⟨rfl, rfl⟩ := hp
          refine ⟨rfl, ?_⟩
          rw [mrgS, vS_uTI]
          refine ar_imul (pc := 81) dX0_passHats_81 ?_
          refine ar_bipush (pc := 82) dX0_passHats_82 q_bipush_100 ?_
          refine ar_idiv (pc := 84) dX0_passHats_84 (by decide) ?_
          refine ar_topi (fun y84 e84 => ?_)
          refine ar_istore (pc := 85) dX0_passHats_85 (Nat.le_of_ble_eq_true rfl) rfl ?_
          refine ar_aload_n (i := 0) (pc := 87) dX0_passHats_87 rfl rfl ?_
          refine ar_getf (pc := 88) dX0_passHats_88 fX0_89 rfl rfl ?_
          refine ar_iload (pc := 91) dX0_passHats_91 rfl ?_
          refine ar_dup2 (pc := 93) dX0_passHats_93 rfl rfl ?_
          refine ar_iald (pc := 94) dX0_passHats_94 rfl (show k < 8 by omega) rfl ?_
          refine ar_iload (pc := 95) dX0_passHats_95 rfl ?_
          refine ar_iadd (pc := 97) dX0_passHats_97 ?_
          refine ar_iast (pc := 98) dX0_passHats_98 rfl (show k < 8 by omega) rfl ?_
          rw [vs_T, uTI_T, vT_uTI]
          refine ar_iload_n (i := 3) (pc := 99) dX0_passHats_99 rfl rfl ?_
          refine ar_iload (pc := 100) dX0_passHats_100 rfl ?_
          refine ar_iadd (pc := 102) dX0_passHats_102 ?_
          refine ar_istore_n (i := 3) (pc := 103) dX0_passHats_103 rfl (Nat.le_of_ble_eq_true rfl) rfl ?_
          refine ar_goto (tgt := 127) (pc := 104) dX0_passHats_104 (by decide) ?_
          refine ar_iinc (pc := 127) dX0_passHats_127 rfl (ni_inc _) (Nat.le_of_ble_eq_true rfl) rfl ?_
          refine ar_goto (tgt := 5) (pc := 130) dX0_passHats_130 (by decide) ?_
          exact absurd rfl c52
      · refine ar_aload_n (i := 0) (pc := 34) dX0_passHats_34 rfl rfl ?_
        refine ar_iload (pc := 35) dX0_passHats_35 rfl ?_
        refine ar_mc (pc := 37) (l := [0, 1, 10, 11, 12, 13, 14, 15, 16, 17]) (ar_rV dX0_passHats_37 cal_X3_isRoofed kX0_83 rfl (sX3_isRoofed (uTI v a b) hq12) rfl rfl rfl rfl rfl okst rfl rfl) okst rfl rfl rfl rfl (fun r h1 hp => ?_)
        obtain ⟨⟨h37, rfl⟩ | ⟨h37, rfl⟩, rfl⟩ := hp
        · refine ⟨rfl, ?_⟩
          rw [mrgS]
          rw [vRo_uTI] at h37
          refine ar_if_ne (pc := 40) (tgt := 47) dX0_passHats_40 (by decide) (fun c40 => ?_) (fun c40 => absurd c40 (by decide))
          refine ar_iconst (pc := 47) dX0_passHats_47 q_iconst_0 ?_
          refine ar_istore (pc := 48) dX0_passHats_48 (Nat.le_of_ble_eq_true rfl) rfl ?_
          refine ar_iload (pc := 50) dX0_passHats_50 rfl ?_
          refine ar_if_eq (pc := 52) (tgt := 59) dX0_passHats_52 (by decide) (fun c52 => ?_) (fun c52 => ?_)
          · refine ar_aload_n (i := 1) (pc := 59) dX0_passHats_59 rfl rfl ?_
            refine ar_iload (pc := 60) dX0_passHats_60 rfl ?_
            refine ar_aload_n (i := 0) (pc := 62) dX0_passHats_62 rfl rfl ?_
            refine ar_getf (pc := 63) dX0_passHats_63 fX0_67 rfl rfl ?_
            refine ar_iload (pc := 66) dX0_passHats_66 rfl ?_
            refine ar_iald (pc := 68) dX0_passHats_68 rfl (show k < 8 by omega) rfl ?_
            rw [vH_uTI]
            refine ar_mc (pc := 69) (l := [0, 1, 2, 3, 4, 5, 6, 7, 8, 9]) (ar_rV dX0_passHats_69 cal_X5_crowdAt kX0_86 rfl (sX5_crowdAt tp (arF 1 tp (vS v 0) (vS v 2)) (taF 1 tp (vS v 0) (vS v 2)) (vS v 2) (paF 1 tp (vS v 0) (vS v 2)) (arF 0 tp (vS v 1) (vS v 2)) (taF 0 tp (vS v 1) (vS v 2)) (vS v 2) (paF 0 tp (vS v 1) (vS v 2)) (nI q) (vH v k)) rfl rfl rfl rfl rfl okvw rfl rfl) okvw rfl rfl rfl rfl (fun r h1 hp => ?_)
            obtain ⟨rfl, rfl⟩ := hp
            refine ⟨rfl, ?_⟩
            rw [mrgV]
            refine ar_topi (fun y69 e69 => ?_)
            refine ar_istore (pc := 72) dX0_passHats_72 (Nat.le_of_ble_eq_true rfl) rfl ?_
            refine ar_iload (pc := 74) dX0_passHats_74 rfl ?_
            refine ar_aload_n (i := 0) (pc := 76) dX0_passHats_76 rfl rfl ?_
            refine ar_iconst (pc := 77) dX0_passHats_77 q_iconst_3 ?_
            refine ar_mc (pc := 78) (l := [0, 1, 10, 11, 12, 13, 14, 15, 16, 17]) (ar_rV dX0_passHats_78 cal_X3_setting kX0_25 rfl (sX3_setting (uTI v a b) (k := 3) (by decide)) rfl rfl rfl rfl rfl okst rfl rfl) okst rfl rfl rfl rfl (fun r h1 hp => ?_)
            obtain ⟨rfl, rfl⟩ := hp
            refine ⟨rfl, ?_⟩
            rw [mrgS, vS_uTI]
            refine ar_imul (pc := 81) dX0_passHats_81 ?_
            refine ar_bipush (pc := 82) dX0_passHats_82 q_bipush_100 ?_
            refine ar_idiv (pc := 84) dX0_passHats_84 (by decide) ?_
            refine ar_topi (fun y84 e84 => ?_)
            refine ar_istore (pc := 85) dX0_passHats_85 (Nat.le_of_ble_eq_true rfl) rfl ?_
            refine ar_aload_n (i := 0) (pc := 87) dX0_passHats_87 rfl rfl ?_
            refine ar_getf (pc := 88) dX0_passHats_88 fX0_89 rfl rfl ?_
            refine ar_iload (pc := 91) dX0_passHats_91 rfl ?_
            refine ar_dup2 (pc := 93) dX0_passHats_93 rfl rfl ?_
            refine ar_iald (pc := 94) dX0_passHats_94 rfl (show k < 8 by omega) rfl ?_
            refine ar_iload (pc := 95) dX0_passHats_95 rfl ?_
            refine ar_iadd (pc := 97) dX0_passHats_97 ?_
            refine ar_iast (pc := 98) dX0_passHats_98 rfl (show k < 8 by omega) rfl ?_
            rw [vs_T, uTI_T, vT_uTI]
            refine ar_iload_n (i := 3) (pc := 99) dX0_passHats_99 rfl rfl ?_
            refine ar_iload (pc := 100) dX0_passHats_100 rfl ?_
            refine ar_iadd (pc := 102) dX0_passHats_102 ?_
            refine ar_istore_n (i := 3) (pc := 103) dX0_passHats_103 rfl (Nat.le_of_ble_eq_true rfl) rfl ?_
            refine ar_goto (tgt := 127) (pc := 104) dX0_passHats_104 (by decide) ?_
            refine ar_iinc (pc := 127) dX0_passHats_127 rfl (ni_inc _) (Nat.le_of_ble_eq_true rfl) rfl ?_
            refine ar_goto (tgt := 5) (pc := 130) dX0_passHats_130 (by decide) ?_
            have ehat : y84 = hat v tp r k := by
              rw [e84, hat, crd, hq, ix_nI (by omega), if_neg (fun z => z.2 h37), ← e69]
            refine ih (k + 1) _ _ _ _ _ _ _ (by omega) (cns_y hc h15 ehat) ?_ ?_
            · rw [ha]
              exact mixF_v (by rw [htF, if_pos h15, ← ehat, mixF_at])
            · rw [hb]
              exact mixF_n (by rw [idF, if_neg (fun z => z.1 h15)])
          · refine ar_iconst (pc := 55) dX0_passHats_55 q_iconst_0 ?_
            refine ar_goto (tgt := 72) (pc := 56) dX0_passHats_56 (by decide) ?_
            refine ar_istore (pc := 72) dX0_passHats_72 (Nat.le_of_ble_eq_true rfl) rfl ?_
            refine ar_iload (pc := 74) dX0_passHats_74 rfl ?_
            refine ar_aload_n (i := 0) (pc := 76) dX0_passHats_76 rfl rfl ?_
            refine ar_iconst (pc := 77) dX0_passHats_77 q_iconst_3 ?_
            refine ar_mc (pc := 78) (l := [0, 1, 10, 11, 12, 13, 14, 15, 16, 17]) (ar_rV dX0_passHats_78 cal_X3_setting kX0_25 rfl (sX3_setting (uTI v a b) (k := 3) (by decide)) rfl rfl rfl rfl rfl okst rfl rfl) okst rfl rfl rfl rfl (fun r h1 hp => ?_)
            obtain ⟨rfl, rfl⟩ := hp
            refine ⟨rfl, ?_⟩
            rw [mrgS, vS_uTI]
            refine ar_imul (pc := 81) dX0_passHats_81 ?_
            refine ar_bipush (pc := 82) dX0_passHats_82 q_bipush_100 ?_
            refine ar_idiv (pc := 84) dX0_passHats_84 (by decide) ?_
            refine ar_topi (fun y84 e84 => ?_)
            refine ar_istore (pc := 85) dX0_passHats_85 (Nat.le_of_ble_eq_true rfl) rfl ?_
            refine ar_aload_n (i := 0) (pc := 87) dX0_passHats_87 rfl rfl ?_
            refine ar_getf (pc := 88) dX0_passHats_88 fX0_89 rfl rfl ?_
            refine ar_iload (pc := 91) dX0_passHats_91 rfl ?_
            refine ar_dup2 (pc := 93) dX0_passHats_93 rfl rfl ?_
            refine ar_iald (pc := 94) dX0_passHats_94 rfl (show k < 8 by omega) rfl ?_
            refine ar_iload (pc := 95) dX0_passHats_95 rfl ?_
            refine ar_iadd (pc := 97) dX0_passHats_97 ?_
            refine ar_iast (pc := 98) dX0_passHats_98 rfl (show k < 8 by omega) rfl ?_
            rw [vs_T, uTI_T, vT_uTI]
            refine ar_iload_n (i := 3) (pc := 99) dX0_passHats_99 rfl rfl ?_
            refine ar_iload (pc := 100) dX0_passHats_100 rfl ?_
            refine ar_iadd (pc := 102) dX0_passHats_102 ?_
            refine ar_istore_n (i := 3) (pc := 103) dX0_passHats_103 rfl (Nat.le_of_ble_eq_true rfl) rfl ?_
            refine ar_goto (tgt := 127) (pc := 104) dX0_passHats_104 (by decide) ?_
            refine ar_iinc (pc := 127) dX0_passHats_127 rfl (ni_inc _) (Nat.le_of_ble_eq_true rfl) rfl ?_
            refine ar_goto (tgt := 5) (pc := 130) dX0_passHats_130 (by decide) ?_
            exact absurd rfl c52
        · refine ⟨rfl, ?_⟩
          rw [mrgS]
          rw [vRo_uTI] at h37
          refine ar_if_ne (pc := 40) (tgt := 47) dX0_passHats_40 (by decide) (fun c40 => absurd c40 (by decide)) (fun c40 => ?_)
          refine ar_iconst (pc := 43) dX0_passHats_43 q_iconst_1 ?_
          refine ar_goto (tgt := 48) (pc := 44) dX0_passHats_44 (by decide) ?_
          refine ar_istore (pc := 48) dX0_passHats_48 (Nat.le_of_ble_eq_true rfl) rfl ?_
          refine ar_iload (pc := 50) dX0_passHats_50 rfl ?_
          refine ar_if_eq (pc := 52) (tgt := 59) dX0_passHats_52 (by decide) (fun c52 => ?_) (fun c52 => ?_)
          · refine ar_aload_n (i := 1) (pc := 59) dX0_passHats_59 rfl rfl ?_
            refine ar_iload (pc := 60) dX0_passHats_60 rfl ?_
            refine ar_aload_n (i := 0) (pc := 62) dX0_passHats_62 rfl rfl ?_
            refine ar_getf (pc := 63) dX0_passHats_63 fX0_67 rfl rfl ?_
            refine ar_iload (pc := 66) dX0_passHats_66 rfl ?_
            refine ar_iald (pc := 68) dX0_passHats_68 rfl (show k < 8 by omega) rfl ?_
            rw [vH_uTI]
            refine ar_mc (pc := 69) (l := [0, 1, 2, 3, 4, 5, 6, 7, 8, 9]) (ar_rV dX0_passHats_69 cal_X5_crowdAt kX0_86 rfl (sX5_crowdAt tp (arF 1 tp (vS v 0) (vS v 2)) (taF 1 tp (vS v 0) (vS v 2)) (vS v 2) (paF 1 tp (vS v 0) (vS v 2)) (arF 0 tp (vS v 1) (vS v 2)) (taF 0 tp (vS v 1) (vS v 2)) (vS v 2) (paF 0 tp (vS v 1) (vS v 2)) (nI q) (vH v k)) rfl rfl rfl rfl rfl okvw rfl rfl) okvw rfl rfl rfl rfl (fun r h1 hp => ?_)
            obtain ⟨rfl, rfl⟩ := hp
            refine ⟨rfl, ?_⟩
            rw [mrgV]
            refine ar_topi (fun y69 e69 => ?_)
            refine ar_istore (pc := 72) dX0_passHats_72 (Nat.le_of_ble_eq_true rfl) rfl ?_
            refine ar_iload (pc := 74) dX0_passHats_74 rfl ?_
            refine ar_aload_n (i := 0) (pc := 76) dX0_passHats_76 rfl rfl ?_
            refine ar_iconst (pc := 77) dX0_passHats_77 q_iconst_3 ?_
            refine ar_mc (pc := 78) (l := [0, 1, 10, 11, 12, 13, 14, 15, 16, 17]) (ar_rV dX0_passHats_78 cal_X3_setting kX0_25 rfl (sX3_setting (uTI v a b) (k := 3) (by decide)) rfl rfl rfl rfl rfl okst rfl rfl) okst rfl rfl rfl rfl (fun r h1 hp => ?_)
            obtain ⟨rfl, rfl⟩ := hp
            refine ⟨rfl, ?_⟩
            rw [mrgS, vS_uTI]
            refine ar_imul (pc := 81) dX0_passHats_81 ?_
            refine ar_bipush (pc := 82) dX0_passHats_82 q_bipush_100 ?_
            refine ar_idiv (pc := 84) dX0_passHats_84 (by decide) ?_
            refine ar_topi (fun y84 e84 => ?_)
            refine ar_istore (pc := 85) dX0_passHats_85 (Nat.le_of_ble_eq_true rfl) rfl ?_
            refine ar_aload_n (i := 0) (pc := 87) dX0_passHats_87 rfl rfl ?_
            refine ar_getf (pc := 88) dX0_passHats_88 fX0_89 rfl rfl ?_
            refine ar_iload (pc := 91) dX0_passHats_91 rfl ?_
            refine ar_dup2 (pc := 93) dX0_passHats_93 rfl rfl ?_
            refine ar_iald (pc := 94) dX0_passHats_94 rfl (show k < 8 by omega) rfl ?_
            refine ar_iload (pc := 95) dX0_passHats_95 rfl ?_
            refine ar_iadd (pc := 97) dX0_passHats_97 ?_
            refine ar_iast (pc := 98) dX0_passHats_98 rfl (show k < 8 by omega) rfl ?_
            rw [vs_T, uTI_T, vT_uTI]
            refine ar_iload_n (i := 3) (pc := 99) dX0_passHats_99 rfl rfl ?_
            refine ar_iload (pc := 100) dX0_passHats_100 rfl ?_
            refine ar_iadd (pc := 102) dX0_passHats_102 ?_
            refine ar_istore_n (i := 3) (pc := 103) dX0_passHats_103 rfl (Nat.le_of_ble_eq_true rfl) rfl ?_
            refine ar_goto (tgt := 127) (pc := 104) dX0_passHats_104 (by decide) ?_
            refine ar_iinc (pc := 127) dX0_passHats_127 rfl (ni_inc _) (Nat.le_of_ble_eq_true rfl) rfl ?_
            refine ar_goto (tgt := 5) (pc := 130) dX0_passHats_130 (by decide) ?_
            exact absurd c52 (by decide)
          · refine ar_iconst (pc := 55) dX0_passHats_55 q_iconst_0 ?_
            refine ar_goto (tgt := 72) (pc := 56) dX0_passHats_56 (by decide) ?_
            refine ar_istore (pc := 72) dX0_passHats_72 (Nat.le_of_ble_eq_true rfl) rfl ?_
            refine ar_iload (pc := 74) dX0_passHats_74 rfl ?_
            refine ar_aload_n (i := 0) (pc := 76) dX0_passHats_76 rfl rfl ?_
            refine ar_iconst (pc := 77) dX0_passHats_77 q_iconst_3 ?_
            refine ar_mc (pc := 78) (l := [0, 1, 10, 11, 12, 13, 14, 15, 16, 17]) (ar_rV dX0_passHats_78 cal_X3_setting kX0_25 rfl (sX3_setting (uTI v a b) (k := 3) (by decide)) rfl rfl rfl rfl rfl okst rfl rfl) okst rfl rfl rfl rfl (fun r h1 hp => ?_)
            obtain ⟨rfl, rfl⟩ := hp
            refine ⟨rfl, ?_⟩
            rw [mrgS, vS_uTI]
            refine ar_imul (pc := 81) dX0_passHats_81 ?_
            refine ar_bipush (pc := 82) dX0_passHats_82 q_bipush_100 ?_
            refine ar_idiv (pc := 84) dX0_passHats_84 (by decide) ?_
            refine ar_topi (fun y84 e84 => ?_)
            refine ar_istore (pc := 85) dX0_passHats_85 (Nat.le_of_ble_eq_true rfl) rfl ?_
            refine ar_aload_n (i := 0) (pc := 87) dX0_passHats_87 rfl rfl ?_
            refine ar_getf (pc := 88) dX0_passHats_88 fX0_89 rfl rfl ?_
            refine ar_iload (pc := 91) dX0_passHats_91 rfl ?_
            refine ar_dup2 (pc := 93) dX0_passHats_93 rfl rfl ?_
            refine ar_iald (pc := 94) dX0_passHats_94 rfl (show k < 8 by omega) rfl ?_
            refine ar_iload (pc := 95) dX0_passHats_95 rfl ?_
            refine ar_iadd (pc := 97) dX0_passHats_97 ?_
            refine ar_iast (pc := 98) dX0_passHats_98 rfl (show k < 8 by omega) rfl ?_
            rw [vs_T, uTI_T, vT_uTI]
            refine ar_iload_n (i := 3) (pc := 99) dX0_passHats_99 rfl rfl ?_
            refine ar_iload (pc := 100) dX0_passHats_100 rfl ?_
            refine ar_iadd (pc := 102) dX0_passHats_102 ?_
            refine ar_istore_n (i := 3) (pc := 103) dX0_passHats_103 rfl (Nat.le_of_ble_eq_true rfl) rfl ?_
            refine ar_goto (tgt := 127) (pc := 104) dX0_passHats_104 (by decide) ?_
            refine ar_iinc (pc := 127) dX0_passHats_127 rfl (ni_inc _) (Nat.le_of_ble_eq_true rfl) rfl ?_
            refine ar_goto (tgt := 5) (pc := 130) dX0_passHats_130 (by decide) ?_
            have ehat : y84 = hat v tp r k := by
              rw [e84, hat, crd, hq, ix_nI (by omega), if_pos ⟨c31, h37⟩]
            refine ih (k + 1) _ _ _ _ _ _ _ (by omega) (cns_y hc h15 ehat) ?_ ?_
            · rw [ha]
              exact mixF_v (by rw [htF, if_pos h15, ← ehat, mixF_at])
            · rw [hb]
              exact mixF_n (by rw [idF, if_neg (fun z => z.1 h15)])
    · refine ⟨rfl, ?_⟩
      rw [mrgS]
      rw [stP_uTI] at h15
      refine ar_if_eq (pc := 18) (tgt := 107) dX0_passHats_18 (by decide) (fun c18 => ?_) (fun c18 => absurd c18 (by decide))
      refine ar_aload_n (i := 0) (pc := 107) dX0_passHats_107 rfl rfl ?_
      refine ar_iload (pc := 108) dX0_passHats_108 rfl ?_
      refine ar_mc (pc := 110) (l := [0, 1, 10, 11, 12, 13, 14, 15, 16, 17]) (ar_rV dX0_passHats_110 cal_X3_isBooth kX0_43 rfl (sX3_isBooth (uTI v a b) n hn h8 _) rfl rfl rfl rfl rfl okst rfl rfl) okst rfl rfl rfl rfl (fun r h1 hp => ?_)
      obtain ⟨⟨h110, rfl⟩ | ⟨h110, rfl⟩, rfl⟩ := hp
      · refine ⟨rfl, ?_⟩
        rw [mrgS]
        refine ar_if_eq (pc := 113) (tgt := 127) dX0_passHats_113 (by decide) (fun c113 => absurd c113 (by decide)) (fun c113 => ?_)
        refine ar_aload_n (i := 0) (pc := 116) dX0_passHats_116 rfl rfl ?_
        refine ar_getf (pc := 117) dX0_passHats_117 fX0_92 rfl rfl ?_
        refine ar_iload (pc := 120) dX0_passHats_120 rfl ?_
        refine ar_dup2 (pc := 122) dX0_passHats_122 rfl rfl ?_
        refine ar_iald (pc := 123) dX0_passHats_123 rfl (show k < 8 by omega) rfl ?_
        refine ar_iconst (pc := 124) dX0_passHats_124 q_iconst_1 ?_
        refine ar_iadd (pc := 125) dX0_passHats_125 ?_
        refine ar_iast (pc := 126) dX0_passHats_126 rfl (show k < 8 by omega) rfl ?_
        refine ar_iinc (pc := 127) dX0_passHats_127 rfl (ni_inc _) (Nat.le_of_ble_eq_true rfl) rfl ?_
        refine ar_goto (tgt := 5) (pc := 130) dX0_passHats_130 (by decide) ?_
        rw [vs_I, uTI_I, vI_uTI]
        refine ih (k + 1) _ _ _ _ _ _ _ (by omega) (cns_n hc h15) ?_ ?_
        · rw [ha]
          exact mixF_n (by rw [htF, if_neg h15])
        · rw [hb]
          exact mixF_v (by rw [idF, if_pos ⟨h15, by have := h110; rw [nI_toInt (by omega)] at this; omega⟩, mixF_at])
      · refine ⟨rfl, ?_⟩
        rw [mrgS]
        refine ar_if_eq (pc := 113) (tgt := 127) dX0_passHats_113 (by decide) (fun c113 => ?_) (fun c113 => absurd c113 (by decide))
        refine ar_iinc (pc := 127) dX0_passHats_127 rfl (ni_inc _) (Nat.le_of_ble_eq_true rfl) rfl ?_
        refine ar_goto (tgt := 5) (pc := 130) dX0_passHats_130 (by decide) ?_
        refine ih (k + 1) _ _ _ _ _ _ _ (by omega) (cns_n hc h15) ?_ ?_
        · rw [ha]
          exact mixF_n (by rw [htF, if_neg h15])
        · rw [hb]
          exact mixF_n (by rw [idF, if_neg (fun z => h110 (by rw [nI_toInt (by omega)]; omega))])
set_option maxHeartbeats 4000000 in
set_option maxRecDepth 100000 in
theorem sX0_passHats (tp : Nat → Int32) (v : SV) (n : Nat) (hn : vBo v = nI n) (h8 : n ≤ 8) (hp : ∀ k, k < 8 → stP v n k → inP (vP v k)) (r : Int32) : am_Sp mX0_passHats [.ref 10, .ref 2, .int r] (vsQ tp v v) (fun r0 h1 => r0 = some (.int (cns v n tp r 8)) ∧ h1 = vsQ tp v (phV v n tp r)) := by
  refine am_intro (by decide) (Nat.le_of_ble_eq_true rfl) ?_
  refine ar_iconst (pc := 0) dX0_passHats_0 q_iconst_0 ?_
  refine ar_istore_n (i := 3) (pc := 1) dX0_passHats_1 rfl (Nat.le_of_ble_eq_true rfl) rfl ?_
  refine ar_iconst (pc := 2) dX0_passHats_2 q_iconst_0 ?_
  refine ar_istore (pc := 3) dX0_passHats_3 (Nat.le_of_ble_eq_true rfl) rfl ?_
  have h := lX0_passHats_5 (vsQ tp v v) v n hn h8 hp tp r 8 0 0 (vT v) (vI v) none none none none (by omega) (cns_0 v n tp r).symm (mixF_0 _ _).symm (mixF_0 _ _).symm
  rw [uTI_self] at h
  exact h

theorem bop_in (cr : Nat → Int32) (op : Nat → Prop) : ∀ m, m ≤ 12 → (bopC cr op m).1 = -6 ∨ inP (bopC cr op m).1 := by
  intro m
  induction m with
  | zero => intro _; exact Or.inl rfl
  | succ m ih =>
    intro hm
    by_cases h : (bopC cr op m).2 < cr m ∧ op m
    · rw [bopC_s cr op m h]
      refine Or.inr ?_
      show 0 ≤ (nI m).toInt ∧ (nI m).toInt < 12
      rw [nI_toInt (by omega)]
      omega
    · rw [bopC_n cr op m h]
      exact ih (by omega)
theorem bst_in (v : SV) (tp : Nat → Int32) (h : Int32) : bst v tp h = -6 ∨ inP (bst v tp h) := bop_in _ _ 12 (by omega)
theorem chs_in (v : SV) (n : Nat) (hp : ∀ k, k < 8 → vP v k = -6 ∨ inP (vP v k)) : ∀ m k, k < 8 → (chs v n m).2 k = -6 ∨ inP ((chs v n m).2 k) := by
  intro m
  induction m with
  | zero => exact hp
  | succ m ih =>
    intro k hk
    rw [chs_s, chstep]
    by_cases h : bkP n (vL v m)
    · rw [if_pos h, chput]
      show upd _ _ _ k = -6 ∨ inP (upd _ _ _ k)
      unfold upd
      by_cases e : k = ix (vL v m)
      · rw [if_pos e]
        exact bst_in _ _ _
      · rw [if_neg e]
        exact ih k hk
    · rw [if_neg h]
      exact ih k hk
theorem vBo_dlV (v : SV) (n : Nat) : vBo (dlV v n) = vBo v := rfl
theorem vP_dlV (v : SV) (n : Nat) : vP (dlV v n) = vP v := rfl
