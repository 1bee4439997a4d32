/-! View beside a State: the people pass, a look -/
/-- a View and a State side by side -/
def vsH (tp : Nat → Int32) (la lt : Nat → Int32) (ls lp : Int32) (ra rt : Nat → Int32) (rs rp : Int32) (v : SV) : am_H := none :: none :: (vwB 2 tp la lt ls lp ra rt rs rp ++ stB 10 v)
/-- the same, the streams as people pass the tops: a from the left, b from the right, s of hundred stop -/
abbrev vsP (tp : Nat → Int32) (a b s : Int32) (v : SV) : am_H := vsH tp (arF 1 tp a s) (taF 1 tp a s) s (paF 1 tp a s) (arF 0 tp b s) (taF 0 tp b s) s (paF 0 tp b s) v
abbrev vsS (tp : Nat → Int32) (v : SV) : am_H := vsP tp (vS v 0) (vS v 1) (vS v 2) v
theorem okst : am_okmu [0, 1, 10, 11, 12, 13, 14, 15, 16, 17] [none, none, some true, some true, some true, some true, some true, some true, some true, some true] = true := by decide +kernel
theorem okvw : am_okmu [0, 1, 2, 3, 4, 5, 6, 7, 8, 9] [none, none, some true, some true, some true, some true, some true, some true, some true, some true] = true := by decide +kernel
theorem okwL : am_okmu [0, 1, 4, 5, 6, 3] [none, none, some true, some true, some true, some true] = true := by decide +kernel
theorem okwR : am_okmu [0, 1, 7, 8, 9, 3] [none, none, some true, some true, some true, some true] = true := by decide +kernel
theorem mrgS (w : SV) (tp : Nat → Int32) (la lt : Nat → Int32) (ls lp : Int32) (ra rt : Nat → Int32) (rs rp : Int32) (v : SV) : am_mrg (am_mu [0, 1, 10, 11, 12, 13, 14, 15, 16, 17]) 0 (stH w) (vsH tp la lt ls lp ra rt rs rp v) = vsH tp la lt ls lp ra rt rs rp w := rfl
theorem mrgV (t2 : Nat → Int32) (la2 lt2 : Nat → Int32) (ls2 lp2 : Int32) (ra2 rt2 : Nat → Int32) (rs2 rp2 : Int32) (tp : Nat → Int32) (la lt : Nat → Int32) (ls lp : Int32) (ra rt : Nat → Int32) (rs rp : Int32) (v : SV) : am_mrg (am_mu [0, 1, 2, 3, 4, 5, 6, 7, 8, 9]) 0 (vwH t2 la2 lt2 ls2 lp2 ra2 rt2 rs2 rp2) (vsH tp la lt ls lp ra rt rs rp v) = vsH t2 la2 lt2 ls2 lp2 ra2 rt2 rs2 rp2 v := rfl
theorem mrgL (a b : Nat → Int32) (c d : Int32) (tp : Nat → Int32) (la lt : Nat → Int32) (ls lp : Int32) (ra rt : Nat → Int32) (rs rp : Int32) (v : SV) : am_mrg (am_mu [0, 1, 4, 5, 6, 3]) 0 (wkH 1 a b c d tp) (vsH tp la lt ls lp ra rt rs rp v) = vsH tp a b c d ra rt rs rp v := rfl
theorem mrgR (a b : Nat → Int32) (c d : Int32) (tp : Nat → Int32) (la lt : Nat → Int32) (ls lp : Int32) (ra rt : Nat → Int32) (rs rp : Int32) (v : SV) : am_mrg (am_mu [0, 1, 7, 8, 9, 3]) 0 (wkH 0 a b c d tp) (vsH tp la lt ls lp ra rt rs rp v) = vsH tp la lt ls lp a b c d v := rfl
set_option maxHeartbeats 4000000 in
set_option maxRecDepth 100000 in
theorem sX5_letPeoplePass (tp : Nat → Int32) (la lt : Nat → Int32) (ls lp : Int32) (ra rt : Nat → Int32) (rs rp : Int32) (v : SV) : am_Sp mX5_letPeoplePass [.ref 2, .ref 10] (vsH tp la lt ls lp ra rt rs rp v) (am_vp (vsS tp v)) := by
  refine am_intro (by decide) (Nat.le_of_ble_eq_true rfl) ?_
  refine ar_aload_n (i := 0) (pc := 0) dX5_letPeoplePass_0 rfl rfl ?_
  refine ar_getf (pc := 1) dX5_letPeoplePass_1 fX5_20 rfl rfl ?_
  refine ar_aload_n (i := 0) (pc := 4) dX5_letPeoplePass_4 rfl rfl ?_
  refine ar_getf (pc := 5) dX5_letPeoplePass_5 fX5_9 rfl rfl ?_
  refine ar_aload_n (i := 1) (pc := 8) dX5_letPeoplePass_8 rfl rfl ?_
  refine ar_iconst (pc := 9) dX5_letPeoplePass_9 q_iconst_0 ?_
  refine ar_mc (pc := 10) (l := [0, 1, 10, 11, 12, 13, 14, 15, 16, 17]) (ar_rV dX5_letPeoplePass_10 cal_X3_setting kX5_53 rfl (sX3_setting v (k := 0) (by decide)) rfl rfl rfl rfl rfl okst rfl rfl) okst rfl rfl rfl rfl (fun r h1 hp => ?_)
  obtain ⟨rfl, rfl⟩ := hp
  refine ⟨rfl, ?_⟩
  rw [mrgS]
  refine ar_aload_n (i := 1) (pc := 13) dX5_letPeoplePass_13 rfl rfl ?_
  refine ar_iconst (pc := 14) dX5_letPeoplePass_14 q_iconst_2 ?_
  refine ar_mc (pc := 15) (l := [0, 1, 10, 11, 12, 13, 14, 15, 16, 17]) (ar_rV dX5_letPeoplePass_15 cal_X3_setting kX5_53 rfl (sX3_setting v (k := 2) (by decide)) rfl rfl rfl rfl rfl okst rfl rfl) okst rfl rfl rfl rfl (fun r h1 hp => ?_)
  obtain ⟨rfl, rfl⟩ := hp
  refine ⟨rfl, ?_⟩
  rw [mrgS]
  refine ar_mc (pc := 18) (l := [0, 1, 4, 5, 6, 3]) (ar_rV dX5_letPeoplePass_18 cal_X4_walk kX5_57 rfl (sX4_walk 1 _ _ _ _ tp (vS v 0) (vS v 2)) rfl rfl rfl rfl rfl okwL rfl rfl) okwL rfl rfl rfl rfl (fun r h1 hp => ?_)
  obtain ⟨rfl, rfl⟩ := hp
  refine ⟨rfl, ?_⟩
  rw [mrgL]
  refine ar_aload_n (i := 0) (pc := 21) dX5_letPeoplePass_21 rfl rfl ?_
  refine ar_getf (pc := 22) dX5_letPeoplePass_22 fX5_24 rfl rfl ?_
  refine ar_aload_n (i := 0) (pc := 25) dX5_letPeoplePass_25 rfl rfl ?_
  refine ar_getf (pc := 26) dX5_letPeoplePass_26 fX5_9 rfl rfl ?_
  refine ar_aload_n (i := 1) (pc := 29) dX5_letPeoplePass_29 rfl rfl ?_
  refine ar_iconst (pc := 30) dX5_letPeoplePass_30 q_iconst_1 ?_
  refine ar_mc (pc := 31) (l := [0, 1, 10, 11, 12, 13, 14, 15, 16, 17]) (ar_rV dX5_letPeoplePass_31 cal_X3_setting kX5_53 rfl (sX3_setting v (k := 1) (by decide)) rfl rfl rfl rfl rfl okst rfl rfl) okst rfl rfl rfl rfl (fun r h1 hp => ?_)
  obtain ⟨rfl, rfl⟩ := hp
  refine ⟨rfl, ?_⟩
  rw [mrgS]
  refine ar_aload_n (i := 1) (pc := 34) dX5_letPeoplePass_34 rfl rfl ?_
  refine ar_iconst (pc := 35) dX5_letPeoplePass_35 q_iconst_2 ?_
  refine ar_mc (pc := 36) (l := [0, 1, 10, 11, 12, 13, 14, 15, 16, 17]) (ar_rV dX5_letPeoplePass_36 cal_X3_setting kX5_53 rfl (sX3_setting v (k := 2) (by decide)) rfl rfl rfl rfl rfl okst rfl rfl) okst rfl rfl rfl rfl (fun r h1 hp => ?_)
  obtain ⟨rfl, rfl⟩ := hp
  refine ⟨rfl, ?_⟩
  rw [mrgS]
  refine ar_mc (pc := 39) (l := [0, 1, 7, 8, 9, 3]) (ar_rV dX5_letPeoplePass_39 cal_X4_walk kX5_57 rfl (sX4_walk 0 _ _ _ _ tp (vS v 1) (vS v 2)) rfl rfl rfl rfl rfl okwR rfl rfl) okwR rfl rfl rfl rfl (fun r h1 hp => ?_)
  obtain ⟨rfl, rfl⟩ := hp
  refine ⟨rfl, ?_⟩
  rw [mrgR]
  exact ar_vret (pc := 42) dX5_letPeoplePass_42 rfl rfl rfl ⟨rfl, rfl⟩

/-- the tops as a look finds them, without the booth w -/
def lkT (v : SV) (n : Nat) (w : Int32) : Nat → Nat → Int32
  | 0 => fun _ => 0
  | k + 1 => if ¬ nI k = w ∧ stP v n k then rsT (lkT v n w k) (vP v k) (vH v k) else lkT v n w k
set_option maxHeartbeats 4000000 in
set_option maxRecDepth 100000 in
theorem lX5_look (h0 : am_H) (v : SV) (n : Nat) (hn : vBo v = nI n) (h8 : n ≤ 8) (la lt : Nat → Int32) (ls lp : Int32) (ra rt : Nat → Int32) (rs rp : Int32) (w : Int32) : ∀ (d k : Nat), k + d = 8 → am_RW mX5_look h0 (am_vp (vsS (lkT v n w 8) v)) 0 0 6 [some (.ref 2), some (.ref 10), some (.int w), some (.int (nI k))] [] (vsH (lkT v n w k) la lt ls lp ra rt rs rp v) := by
  intro d
  induction d with
  | zero =>
    intro k hk
    have e : k = 8 := by omega
    subst e
    refine ar_iload_n (i := 3) (pc := 6) dX5_look_6 rfl rfl ?_
    refine ar_bipush (pc := 7) dX5_look_7 q_bipush_8 ?_
    refine ar_icmp_ge (pc := 9) (tgt := 47) dX5_look_9 (by decide) (fun c9 => ?_) (fun c9 => False.elim (by (simp (disch := omega) only [Int32.lt_iff_toInt_lt, Int32.le_iff_toInt_le, ← Int32.toInt_inj, ti_m6, ti_m1, ti_0, ti_1, ti_2, ti_3, ti_4, ti_5, ti_6, ti_7, ti_8, ti_9, ti_12, ti_100, ti_9999, ti_60, nI_toInt] at c9) <;> omega))
    refine ar_aload_n (i := 0) (pc := 47) dX5_look_47 rfl rfl ?_
    refine ar_aload_n (i := 1) (pc := 48) dX5_look_48 rfl rfl ?_
    refine ar_idV (pc := 49) dX5_look_49 cal_X5_letPeoplePass kX5_46 rfl (sX5_letPeoplePass (lkT v n w 8) la lt ls lp ra rt rs rp v) rfl rfl rfl rfl rfl rfl rfl (fun r h1 hp => ?_)
    obtain ⟨rfl, rfl⟩ := hp
    refine ⟨rfl, ?_⟩
    exact ar_vret (pc := 52) dX5_look_52 rfl rfl rfl ⟨rfl, rfl⟩
  | succ d ih =>
    intro k hk
    refine ar_iload_n (i := 3) (pc := 6) dX5_look_6 rfl rfl ?_
    refine ar_bipush (pc := 7) dX5_look_7 q_bipush_8 ?_
    refine ar_icmp_ge (pc := 9) (tgt := 47) dX5_look_9 (by decide) (fun c9 => False.elim (by (simp (disch := omega) only [Int32.lt_iff_toInt_lt, Int32.le_iff_toInt_le, ← Int32.toInt_inj, ti_m6, ti_m1, ti_0, ti_1, ti_2, ti_3, ti_4, ti_5, ti_6, ti_7, ti_8, ti_9, ti_12, ti_100, ti_9999, ti_60, nI_toInt] at c9) <;> omega)) (fun c9 => ?_)
    refine ar_iload_n (i := 3) (pc := 12) dX5_look_12 rfl rfl ?_
    refine ar_iload_n (i := 2) (pc := 13) dX5_look_13 rfl rfl ?_
    refine ar_icmp_eq (pc := 14) (tgt := 41) dX5_look_14 (by decide) (fun c14 => ?_) (fun c14 => ?_)
    · refine ar_iinc (pc := 41) dX5_look_41 rfl (ni_inc _) (Nat.le_of_ble_eq_true rfl) rfl ?_
      refine ar_goto (tgt := 6) (pc := 44) dX5_look_44 (by decide) ?_
      have ih' := ih (k + 1) (by omega)
      rw [show lkT v n w (k + 1) = lkT v n w k by rw [lkT, if_neg (fun z => z.1 c14)]] at ih'
      exact ih'
    · refine ar_aload_n (i := 1) (pc := 17) dX5_look_17 rfl rfl ?_
      refine ar_iload_n (i := 3) (pc := 18) dX5_look_18 rfl rfl ?_
      refine ar_mc (pc := 19) (l := [0, 1, 10, 11, 12, 13, 14, 15, 16, 17]) (ar_rV dX5_look_19 cal_X3_isStanding kX5_30 rfl (sX3_isStanding v n hn h8 (show k < 8 by omega)) rfl rfl rfl rfl rfl okst rfl rfl) okst rfl rfl rfl rfl (fun r h1 hp => ?_)
      obtain ⟨⟨h19, rfl⟩ | ⟨h19, rfl⟩, rfl⟩ := hp
      · refine ⟨rfl, ?_⟩
        rw [mrgS]
        refine ar_if_eq (pc := 22) (tgt := 41) dX5_look_22 (by decide) (fun c22 => absurd c22 (by decide)) (fun c22 => ?_)
        refine ar_aload_n (i := 0) (pc := 25) dX5_look_25 rfl rfl ?_
        refine ar_aload_n (i := 1) (pc := 26) dX5_look_26 rfl rfl ?_
        refine ar_getf (pc := 27) dX5_look_27 fX5_36 rfl rfl ?_
        refine ar_iload_n (i := 3) (pc := 30) dX5_look_30 rfl rfl ?_
        refine ar_iald (pc := 31) dX5_look_31 rfl (show k < 8 by omega) rfl ?_
        refine ar_aload_n (i := 1) (pc := 32) dX5_look_32 rfl rfl ?_
        refine ar_getf (pc := 33) dX5_look_33 fX5_39 rfl rfl ?_
        refine ar_iload_n (i := 3) (pc := 36) dX5_look_36 rfl rfl ?_
        refine ar_iald (pc := 37) dX5_look_37 rfl (show k < 8 by omega) rfl ?_
        refine ar_mc (pc := 38) (l := [0, 1, 2, 3, 4, 5, 6, 7, 8, 9]) (ar_rV dX5_look_38 cal_X5_raise kX5_42 rfl (sX5_raise (lkT v n w k) la lt ls lp ra rt rs rp (vP v k) (vH v k)) rfl rfl rfl rfl rfl okvw rfl rfl) okvw rfl rfl rfl rfl (fun r h1 hp => ?_)
        obtain ⟨rfl, rfl⟩ := hp
        refine ⟨rfl, ?_⟩
        rw [mrgV]
        refine ar_iinc (pc := 41) dX5_look_41 rfl (ni_inc _) (Nat.le_of_ble_eq_true rfl) rfl ?_
        refine ar_goto (tgt := 6) (pc := 44) dX5_look_44 (by decide) ?_
        have ih' := ih (k + 1) (by omega)
        rw [show lkT v n w (k + 1) = rsT (lkT v n w k) (vP v k) (vH v k) by rw [lkT, if_pos ⟨c14, h19⟩]] at ih'
        exact ih'
      · refine ⟨rfl, ?_⟩
        rw [mrgS]
        refine ar_if_eq (pc := 22) (tgt := 41) dX5_look_22 (by decide) (fun c22 => ?_) (fun c22 => absurd c22 (by decide))
        refine ar_iinc (pc := 41) dX5_look_41 rfl (ni_inc _) (Nat.le_of_ble_eq_true rfl) rfl ?_
        refine ar_goto (tgt := 6) (pc := 44) dX5_look_44 (by decide) ?_
        have ih' := ih (k + 1) (by omega)
        rw [show lkT v n w (k + 1) = lkT v n w k by rw [lkT, if_neg (fun z => h19 z.2)]] at ih'
        exact ih'

set_option maxHeartbeats 4000000 in
set_option maxRecDepth 100000 in
theorem sX5_look (tp : Nat → Int32) (la lt : Nat → Int32) (ls lp : Int32) (ra rt : Nat → Int32) (rs rp : Int32) (v : SV) (n : Nat) (hn : vBo v = nI n) (h8 : n ≤ 8) (w : Int32) : am_Sp mX5_look [.ref 2, .ref 10, .int w] (vsH tp la lt ls lp ra rt rs rp v) (am_vp (vsS (lkT v n w 8) v)) := by
  refine am_intro (by decide) (Nat.le_of_ble_eq_true rfl) ?_
  refine ar_aload_n (i := 0) (pc := 0) dX5_look_0 rfl rfl ?_
  refine ar_mc (pc := 1) (l := [0, 1, 2, 3, 4, 5, 6, 7, 8, 9]) (ar_rV dX5_look_1 cal_X5_clear kX5_27 rfl (sX5_clear tp la lt ls lp ra rt rs rp) rfl rfl rfl rfl rfl okvw rfl rfl) okvw rfl rfl rfl rfl (fun r h1 hp => ?_)
  obtain ⟨rfl, rfl⟩ := hp
  refine ⟨rfl, ?_⟩
  rw [mrgV]
  refine ar_iconst (pc := 4) dX5_look_4 q_iconst_0 ?_
  refine ar_istore_n (i := 3) (pc := 5) dX5_look_5 rfl (Nat.le_of_ble_eq_true rfl) rfl ?_
  exact lX5_look (vsH tp la lt ls lp ra rt rs rp v) v n hn h8 la lt ls lp ra rt rs rp w 8 0 (by omega)
