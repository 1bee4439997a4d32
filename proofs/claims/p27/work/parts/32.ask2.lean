/-- the people who stop nowhere; at the place b -/
def swN (v : SV) (n : Nat) : Int32 := paF 1 (lkT v n (-6) 8) (vS v 0) (vS v 2) + paF 0 (lkT v n (-6) 8) (vS v 1) (vS v 2)
set_option maxHeartbeats 4000000 in
set_option maxRecDepth 100000 in
theorem sX6_stoppingNowhere (w0 : Bool) (ff : Nat → Int32) (w1 : Bool) (gg : Nat → Int32) (z : PV) (n : Nat) (hn : vBo (pN z) = nI n) (h8 : n ≤ 8) : am_Sp mX6_stoppingNowhere [.ref 2] (ppH w0 ff w1 gg z) (rpW (swN (pN z) n) w0 ff w1 gg z) := by
  refine am_intro (by decide) (Nat.le_of_ble_eq_true rfl) ?_
  refine ar_aload_n (i := 0) (pc := 0) dX6_stoppingNowhere_0 rfl rfl ?_
  refine ar_getf (pc := 1) dX6_stoppingNowhere_1 fX6_22 rfl rfl ?_
  refine ar_aload_n (i := 0) (pc := 4) dX6_stoppingNowhere_4 rfl rfl ?_
  refine ar_getf (pc := 5) dX6_stoppingNowhere_5 fX6_10 rfl rfl ?_
  refine ar_bipush (pc := 8) dX6_stoppingNowhere_8 q_bipush_m6 ?_
  refine ar_mc (pc := 10) (l := [0, 1, 19, 20, 21, 22, 23, 24, 25, 26, 3, 4, 5, 6, 7, 8, 9, 10]) (ar_rV dX6_stoppingNowhere_10 cal_X5_look kX6_137 rfl (sX5_look (pW z).1 (pW z).2.1 (pW z).2.2.1 (pW z).2.2.2.1 (pW z).2.2.2.2.1 (pW z).2.2.2.2.2.1 (pW z).2.2.2.2.2.2.1 (pW z).2.2.2.2.2.2.2.1 (pW z).2.2.2.2.2.2.2.2 (pN z) n hn h8 (-6)) rfl rfl rfl rfl rfl okp_WN rfl rfl) okp_WN rfl rfl rfl rfl (fun r h1 hp => ?_)
  obtain ⟨rfl, rfl⟩ := hp
  refine ⟨rfl, ?_⟩
  refine ar_hp (mP_L w0 ff w1 gg z (lkT (pN z) n ((-6)) 8)) ?_
  refine ar_aload_n (i := 0) (pc := 13) dX6_stoppingNowhere_13 rfl rfl ?_
  refine ar_getf (pc := 14) dX6_stoppingNowhere_14 fX6_22 rfl rfl ?_
  refine ar_getf (pc := 17) dX6_stoppingNowhere_17 fX6_218 rfl rfl ?_
  refine ar_getf (pc := 20) dX6_stoppingNowhere_20 fX6_222 rfl rfl ?_
  refine ar_aload_n (i := 0) (pc := 23) dX6_stoppingNowhere_23 rfl rfl ?_
  refine ar_getf (pc := 24) dX6_stoppingNowhere_24 fX6_22 rfl rfl ?_
  refine ar_getf (pc := 27) dX6_stoppingNowhere_27 fX6_225 rfl rfl ?_
  refine ar_getf (pc := 30) dX6_stoppingNowhere_30 fX6_222 rfl rfl ?_
  refine ar_iadd (pc := 33) dX6_stoppingNowhere_33 ?_
  exact ar_iret (pc := 34) dX6_stoppingNowhere_34 rfl rfl rfl ⟨rfl, _, rfl⟩

def crA (v : SV) (t : Nat → Int32) (p h : Int32) : Int32 := stpV (arF 1 t (vS v 0) (vS v 2)) (taF 1 t (vS v 0) (vS v 2)) (vS v 2) p h + stpV (arF 0 t (vS v 1) (vS v 2)) (taF 0 t (vS v 1) (vS v 2)) (vS v 2) p h
set_option maxHeartbeats 4000000 in
set_option maxRecDepth 100000 in
theorem sX6_ifStood (w0 : Bool) (ff : Nat → Int32) (w1 : Bool) (gg : Nat → Int32) (z : PV) (n : Nat) (hn : vBo (pN z) = nI n) (h8 : n ≤ 8) (b p : Int32) : am_Sp mX6_ifStood [.ref 2, .int b, .int p] (ppH w0 ff w1 gg z) (fun r h1 => (¬ (bkP n b ∧ inP p) ∧ r = some (.int (-1)) ∧ h1 = ppH w0 ff w1 gg z) ∨ ((bkP n b ∧ inP p) ∧ tkP (pN z) n p (ix b) ∧ r = some (.int (-5)) ∧ h1 = ppH w0 ff w1 gg z) ∨ ((bkP n b ∧ inP p) ∧ ¬ tkP (pN z) n p (ix b) ∧ rpW (crA (pN z) (lkT (pN z) n b 8) p (vH (pN z) (ix b))) w0 ff w1 gg z r h1)) := by
  refine am_intro (by decide) (Nat.le_of_ble_eq_true rfl) ?_
  refine ar_aload_n (i := 0) (pc := 0) dX6_ifStood_0 rfl rfl ?_
  refine ar_getf (pc := 1) dX6_ifStood_1 fX6_10 rfl rfl ?_
  refine ar_iload_n (i := 1) (pc := 4) dX6_ifStood_4 rfl rfl ?_
  refine ar_mc (pc := 5) (l := [0, 1, 3, 4, 5, 6, 7, 8, 9, 10]) (ar_rV dX6_ifStood_5 cal_X3_isBooth kX6_85 rfl (sX3_isBooth (pN z) n hn h8 _) rfl rfl rfl rfl rfl okp_N rfl rfl) okp_N rfl rfl rfl rfl (fun r h1 hp => ?_)
  obtain ⟨⟨h5, rfl⟩ | ⟨h5, rfl⟩, rfl⟩ := hp
  · refine ⟨rfl, ?_⟩
    refine ar_hp (mP_Ni w0 ff w1 gg z) ?_
    refine ar_if_eq (pc := 8) (tgt := 18) dX6_ifStood_8 (by decide) (fun c8 => absurd c8 (by decide)) (fun c8 => ?_)
    obtain ⟨j, hj, rfl⟩ : ∃ j, j < n ∧ b = nI j := ⟨ix b, by have := h5; unfold ix; omega, ix_eq h5.1⟩
    rw [show ix (nI j) = j from ix_nI (by omega)]
    refine ar_iload_n (i := 2) (pc := 11) dX6_ifStood_11 rfl rfl ?_
    refine ar_idS (pc := 12) dX6_ifStood_12 cal_X6_isPitch kX6_60 rfl (sX6_isPitchB (ppH w0 ff w1 gg z) p) rfl rfl rfl rfl rfl (fun r h1 hp => ?_)
    obtain ⟨⟨h12, rfl⟩ | ⟨h12, rfl⟩, rfl⟩ := hp
    · refine ⟨rfl, ?_⟩
      refine ar_if_ne (pc := 15) (tgt := 20) dX6_ifStood_15 (by decide) (fun c15 => ?_) (fun c15 => absurd c15 (by decide))
      refine ar_aload_n (i := 0) (pc := 20) dX6_ifStood_20 rfl rfl ?_
      refine ar_getf (pc := 21) dX6_ifStood_21 fX6_10 rfl rfl ?_
      refine ar_iload_n (i := 2) (pc := 24) dX6_ifStood_24 rfl rfl ?_
      refine ar_iload_n (i := 1) (pc := 25) dX6_ifStood_25 rfl rfl ?_
      refine ar_mc (pc := 26) (l := [0, 1, 3, 4, 5, 6, 7, 8, 9, 10]) (ar_rV dX6_ifStood_26 cal_X3_isTakenByOther kX6_98 rfl (sX3_isTakenByOther (pN z) n hn h8 p (show j < 8 by omega)) rfl rfl rfl rfl rfl okp_N rfl rfl) okp_N rfl rfl rfl rfl (fun r h1 hp => ?_)
      obtain ⟨⟨h26, rfl⟩ | ⟨h26, rfl⟩, rfl⟩ := hp
      · refine ⟨rfl, ?_⟩
        refine ar_hp (mP_Ni w0 ff w1 gg z) ?_
        refine ar_if_eq (pc := 29) (tgt := 35) dX6_ifStood_29 (by decide) (fun c29 => absurd c29 (by decide)) (fun c29 => ?_)
        refine ar_bipush (pc := 32) dX6_ifStood_32 q_bipush_m5 ?_
        exact ar_iret (pc := 34) dX6_ifStood_34 rfl rfl rfl (Or.inr (Or.inl ⟨⟨h5, h12⟩, h26, rfl, rfl⟩))
      · refine ⟨rfl, ?_⟩
        refine ar_hp (mP_Ni w0 ff w1 gg z) ?_
        refine ar_if_eq (pc := 29) (tgt := 35) dX6_ifStood_29 (by decide) (fun c29 => ?_) (fun c29 => absurd c29 (by decide))
        refine ar_aload_n (i := 0) (pc := 35) dX6_ifStood_35 rfl rfl ?_
        refine ar_getf (pc := 36) dX6_ifStood_36 fX6_22 rfl rfl ?_
        refine ar_aload_n (i := 0) (pc := 39) dX6_ifStood_39 rfl rfl ?_
        refine ar_getf (pc := 40) dX6_ifStood_40 fX6_10 rfl rfl ?_
        refine ar_iload_n (i := 1) (pc := 43) dX6_ifStood_43 rfl rfl ?_
        refine ar_mc (pc := 44) (l := [0, 1, 19, 20, 21, 22, 23, 24, 25, 26, 3, 4, 5, 6, 7, 8, 9, 10]) (ar_rV dX6_ifStood_44 cal_X5_look kX6_137 rfl (sX5_look (pW z).1 (pW z).2.1 (pW z).2.2.1 (pW z).2.2.2.1 (pW z).2.2.2.2.1 (pW z).2.2.2.2.2.1 (pW z).2.2.2.2.2.2.1 (pW z).2.2.2.2.2.2.2.1 (pW z).2.2.2.2.2.2.2.2 (pN z) n hn h8 (nI j)) rfl rfl rfl rfl rfl okp_WN rfl rfl) okp_WN rfl rfl rfl rfl (fun r h1 hp => ?_)
        obtain ⟨rfl, rfl⟩ := hp
        refine ⟨rfl, ?_⟩
        refine ar_hp (mP_L w0 ff w1 gg z (lkT (pN z) n ((nI j)) 8)) ?_
        refine ar_aload_n (i := 0) (pc := 47) dX6_ifStood_47 rfl rfl ?_
        refine ar_getf (pc := 48) dX6_ifStood_48 fX6_22 rfl rfl ?_
        refine ar_iload_n (i := 2) (pc := 51) dX6_ifStood_51 rfl rfl ?_
        refine ar_aload_n (i := 0) (pc := 52) dX6_ifStood_52 rfl rfl ?_
        refine ar_getf (pc := 53) dX6_ifStood_53 fX6_10 rfl rfl ?_
        refine ar_getf (pc := 56) dX6_ifStood_56 fX6_95 rfl rfl ?_
        refine ar_iload_n (i := 1) (pc := 59) dX6_ifStood_59 rfl rfl ?_
        refine ar_iald (pc := 60) dX6_ifStood_60 rfl (show j < 8 by omega) rfl ?_
        refine ar_mc (pc := 61) (l := [0, 1, 19, 20, 21, 22, 23, 24, 25, 26]) (ar_rV dX6_ifStood_61 cal_X5_crowdAt kX6_141 rfl (sX5_crowdAt (lkT (pN z) n (nI j) 8) (arF 1 (lkT (pN z) n (nI j) 8) (vS (pN z) 0) (vS (pN z) 2)) (taF 1 (lkT (pN z) n (nI j) 8) (vS (pN z) 0) (vS (pN z) 2)) (vS (pN z) 2) (paF 1 (lkT (pN z) n (nI j) 8) (vS (pN z) 0) (vS (pN z) 2)) (arF 0 (lkT (pN z) n (nI j) 8) (vS (pN z) 1) (vS (pN z) 2)) (taF 0 (lkT (pN z) n (nI j) 8) (vS (pN z) 1) (vS (pN z) 2)) (vS (pN z) 2) (paF 0 (lkT (pN z) n (nI j) 8) (vS (pN z) 1) (vS (pN z) 2)) p (vH (pN z) j)) rfl rfl rfl rfl rfl okp_W rfl rfl) okp_W rfl rfl rfl rfl (fun r h1 hp => ?_)
        obtain ⟨rfl, rfl⟩ := hp
        refine ⟨rfl, ?_⟩
        refine ar_hp (mP_Wi w0 ff w1 gg z (vwOf (lkT (pN z) n (nI j) 8) (pN z))) ?_
        exact ar_iret (pc := 64) dX6_ifStood_64 rfl rfl rfl (Or.inr (Or.inr ⟨⟨h5, h12⟩, h26, rfl, _, rfl⟩))
    · refine ⟨rfl, ?_⟩
      refine ar_if_ne (pc := 15) (tgt := 20) dX6_ifStood_15 (by decide) (fun c15 => absurd c15 (by decide)) (fun c15 => ?_)
      refine ar_iconst (pc := 18) dX6_ifStood_18 q_iconst_m1 ?_
      exact ar_iret (pc := 19) dX6_ifStood_19 rfl rfl rfl (Or.inl ⟨fun hz => h12 hz.2, rfl, rfl⟩)
  · refine ⟨rfl, ?_⟩
    refine ar_hp (mP_Ni w0 ff w1 gg z) ?_
    refine ar_if_eq (pc := 8) (tgt := 18) dX6_ifStood_8 (by decide) (fun c8 => ?_) (fun c8 => absurd c8 (by decide))
    refine ar_iconst (pc := 18) dX6_ifStood_18 q_iconst_m1 ?_
    exact ar_iret (pc := 19) dX6_ifStood_19 rfl rfl rfl (Or.inl ⟨fun hz => h5 hz.1, rfl, rfl⟩)
