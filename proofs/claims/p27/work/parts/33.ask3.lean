/-! the whole asked: of a booth, of a pitch -/
theorem okp_SL : am_okmu [0, 1, 21, 22, 23] [none, none, some true, some true, some true] = true := by decide +kernel
theorem mP_SL (w0 : Bool) (ff : Nat → Int32) (w1 : Bool) (gg : Nat → Int32) (z : PV) (x : VWt) : am_mrg (am_mu [0, 1, 21, 22, 23]) 0 (smH 1 x.2.1 x.2.2.1 x.2.2.2.1 x.2.2.2.2.1) (ppH w0 ff w1 gg (sW z x)) = ppH w0 ff w1 gg (sW z x) := by
  show (((ppH w0 ff w1 gg (sW z x)).set 21 (some (am_oj 3 [.int 1, .ref 22, .ref 23, .int x.2.2.2.1, .int x.2.2.2.2.1]))).set 22 (some (am_ia 12 x.2.1))).set 23 (some (am_ia 12 x.2.2.1)) = _
  simp only [ppH, stB, vwT, vwB, smB, pdB, hyA, slA, slB, List.cons_append, List.nil_append, List.set_cons_zero, List.set_cons_succ, pN_sN, pN_sU, pN_sW, pN_sD, pN_sY, pN_sL, pU_sN, pU_sU, pU_sW, pU_sD, pU_sY, pU_sL, pW_sN, pW_sU, pW_sW, pW_sD, pW_sY, pW_sL, pD_sN, pD_sU, pD_sW, pD_sD, pD_sY, pD_sL, pY_sN, pY_sU, pY_sW, pY_sD, pY_sY, pY_sL, pL_sN, pL_sU, pL_sW, pL_sD, pL_sY, pL_sL]
theorem okp_SR : am_okmu [0, 1, 24, 25, 26] [none, none, some true, some true, some true] = true := by decide +kernel
theorem mP_SR (w0 : Bool) (ff : Nat → Int32) (w1 : Bool) (gg : Nat → Int32) (z : PV) (x : VWt) : am_mrg (am_mu [0, 1, 24, 25, 26]) 0 (smH 0 x.2.2.2.2.2.1 x.2.2.2.2.2.2.1 x.2.2.2.2.2.2.2.1 x.2.2.2.2.2.2.2.2) (ppH w0 ff w1 gg (sW z x)) = ppH w0 ff w1 gg (sW z x) := by
  show (((ppH w0 ff w1 gg (sW z x)).set 24 (some (am_oj 3 [.int 0, .ref 25, .ref 26, .int x.2.2.2.2.2.2.2.1, .int x.2.2.2.2.2.2.2.2]))).set 25 (some (am_ia 12 x.2.2.2.2.2.1))).set 26 (some (am_ia 12 x.2.2.2.2.2.2.1)) = _
  simp only [ppH, stB, vwT, vwB, smB, pdB, hyA, slA, slB, List.cons_append, List.nil_append, List.set_cons_zero, List.set_cons_succ, pN_sN, pN_sU, pN_sW, pN_sD, pN_sY, pN_sL, pU_sN, pU_sU, pU_sW, pU_sD, pU_sY, pU_sL, pW_sN, pW_sU, pW_sW, pW_sD, pW_sY, pW_sL, pD_sN, pD_sU, pD_sW, pD_sD, pD_sY, pD_sL, pY_sN, pY_sU, pY_sW, pY_sD, pY_sY, pY_sL, pL_sN, pL_sU, pL_sW, pL_sD, pL_sY, pL_sL]
/-- who stop at the booth at the place j, from one side -/
def sfV (l : Int32) (v : SV) (n j : Nat) : Int32 := stpV (arF l (lkT v n (-6) 8) (vS v (if l = 0 then 1 else 0)) (vS v 2)) (taF l (lkT v n (-6) 8) (vS v (if l = 0 then 1 else 0)) (vS v 2)) (vS v 2) (vP v j) (vH v j)
set_option maxHeartbeats 4000000 in
set_option maxRecDepth 100000 in
theorem sX6_stoppingFrom1 (w0 : Bool) (ff : Nat → Int32) (w1 : Bool) (gg : Nat → Int32) (z : PV) (n : Nat) (hn : vBo (pN z) = nI n) (h8 : n ≤ 8) {j : Nat} (hj : j < n) : am_Sp mX6_stoppingFrom [.ref 2, .int 1, .int (nI j)] (ppH w0 ff w1 gg z) (rpW (sfV 1 (pN z) n j) w0 ff w1 gg z) := by
  refine am_intro (by decide) (Nat.le_of_ble_eq_true rfl) ?_
  refine ar_aload_n (i := 0) (pc := 0) dX6_stoppingFrom_0 rfl rfl ?_
  refine ar_getf (pc := 1) dX6_stoppingFrom_1 fX6_22 rfl rfl ?_
  refine ar_aload_n (i := 0) (pc := 4) dX6_stoppingFrom_4 rfl rfl ?_
  refine ar_getf (pc := 5) dX6_stoppingFrom_5 fX6_10 rfl rfl ?_
  refine ar_bipush (pc := 8) dX6_stoppingFrom_8 q_bipush_m6 ?_
  refine ar_mc (pc := 10) (l := [0, 1, 19, 20, 21, 22, 23, 24, 25, 26, 3, 4, 5, 6, 7, 8, 9, 10]) (ar_rV dX6_stoppingFrom_10 cal_X5_look kX6_137 rfl (sX5_look (pW z).1 (pW z).2.1 (pW z).2.2.1 (pW z).2.2.2.1 (pW z).2.2.2.2.1 (pW z).2.2.2.2.2.1 (pW z).2.2.2.2.2.2.1 (pW z).2.2.2.2.2.2.2.1 (pW z).2.2.2.2.2.2.2.2 (pN z) n hn h8 (-6)) rfl rfl rfl rfl rfl okp_WN rfl rfl) okp_WN rfl rfl rfl rfl (fun r h1 hp => ?_)
  obtain ⟨rfl, rfl⟩ := hp
  refine ⟨rfl, ?_⟩
  refine ar_hp (mP_L w0 ff w1 gg z (lkT (pN z) n ((-6)) 8)) ?_
  refine ar_aload_n (i := 0) (pc := 13) dX6_stoppingFrom_13 rfl rfl ?_
  refine ar_getf (pc := 14) dX6_stoppingFrom_14 fX6_22 rfl rfl ?_
  refine ar_iload_n (i := 1) (pc := 17) dX6_stoppingFrom_17 rfl rfl ?_
  refine ar_mc (pc := 18) (l := [0, 1, 19, 20, 21, 22, 23, 24, 25, 26]) (ar_rV dX6_stoppingFrom_18 cal_X5_streamFrom kX6_168 rfl (sX5_streamFrom (lkT (pN z) n (-6) 8) (arF 1 (lkT (pN z) n (-6) 8) (vS (pN z) 0) (vS (pN z) 2)) (taF 1 (lkT (pN z) n (-6) 8) (vS (pN z) 0) (vS (pN z) 2)) (vS (pN z) 2) (paF 1 (lkT (pN z) n (-6) 8) (vS (pN z) 0) (vS (pN z) 2)) (arF 0 (lkT (pN z) n (-6) 8) (vS (pN z) 1) (vS (pN z) 2)) (taF 0 (lkT (pN z) n (-6) 8) (vS (pN z) 1) (vS (pN z) 2)) (vS (pN z) 2) (paF 0 (lkT (pN z) n (-6) 8) (vS (pN z) 1) (vS (pN z) 2)) 1) rfl rfl rfl rfl rfl okp_W rfl rfl) okp_W rfl rfl rfl rfl (fun r h1 hp => ?_)
  obtain ⟨rfl, rfl⟩ := hp
  refine ⟨rfl, ?_⟩
  refine ar_hp (mP_Wi w0 ff w1 gg z (vwOf (lkT (pN z) n (-6) 8) (pN z))) ?_
  rw [show (if (1 : Int32) = 0 then 7 else 4) = 4 by decide +kernel]
  refine ar_aload_n (i := 0) (pc := 21) dX6_stoppingFrom_21 rfl rfl ?_
  refine ar_getf (pc := 22) dX6_stoppingFrom_22 fX6_10 rfl rfl ?_
  refine ar_getf (pc := 25) dX6_stoppingFrom_25 fX6_102 rfl rfl ?_
  refine ar_iload_n (i := 2) (pc := 28) dX6_stoppingFrom_28 rfl rfl ?_
  refine ar_iald (pc := 29) dX6_stoppingFrom_29 rfl (show j < 8 by omega) rfl ?_
  refine ar_aload_n (i := 0) (pc := 30) dX6_stoppingFrom_30 rfl rfl ?_
  refine ar_getf (pc := 31) dX6_stoppingFrom_31 fX6_10 rfl rfl ?_
  refine ar_getf (pc := 34) dX6_stoppingFrom_34 fX6_95 rfl rfl ?_
  refine ar_iload_n (i := 2) (pc := 37) dX6_stoppingFrom_37 rfl rfl ?_
  refine ar_iald (pc := 38) dX6_stoppingFrom_38 rfl (show j < 8 by omega) rfl ?_
  refine ar_mc (pc := 39) (l := [0, 1, 21, 22, 23]) (ar_rV dX6_stoppingFrom_39 cal_X4_stopping kX6_215 rfl (sX4_stopping 1 (arF 1 (lkT (pN z) n (-6) 8) (vS (pN z) 0) (vS (pN z) 2)) (taF 1 (lkT (pN z) n (-6) 8) (vS (pN z) 0) (vS (pN z) 2)) (vS (pN z) 2) (paF 1 (lkT (pN z) n (-6) 8) (vS (pN z) 0) (vS (pN z) 2)) (vP (pN z) j) (vH (pN z) j)) rfl rfl rfl rfl rfl okp_SL rfl rfl) okp_SL rfl rfl rfl rfl (fun r h1 hp => ?_)
  obtain ⟨rfl, rfl⟩ := hp
  refine ⟨rfl, ?_⟩
  refine ar_hp (mP_SL w0 ff w1 gg z (vwOf (lkT (pN z) n (-6) 8) (pN z))) ?_
  exact ar_iret (pc := 42) dX6_stoppingFrom_42 rfl rfl rfl ⟨rfl, _, rfl⟩

set_option maxHeartbeats 4000000 in
set_option maxRecDepth 100000 in
theorem sX6_stoppingFrom0 (w0 : Bool) (ff : Nat → Int32) (w1 : Bool) (gg : Nat → Int32) (z : PV) (n : Nat) (hn : vBo (pN z) = nI n) (h8 : n ≤ 8) {j : Nat} (hj : j < n) : am_Sp mX6_stoppingFrom [.ref 2, .int 0, .int (nI j)] (ppH w0 ff w1 gg z) (rpW (sfV 0 (pN z) n j) w0 ff w1 gg z) := by
  refine am_intro (by decide) (Nat.le_of_ble_eq_true rfl) ?_
  refine ar_aload_n (i := 0) (pc := 0) dX6_stoppingFrom_0 rfl rfl ?_
  refine ar_getf (pc := 1) dX6_stoppingFrom_1 fX6_22 rfl rfl ?_
  refine ar_aload_n (i := 0) (pc := 4) dX6_stoppingFrom_4 rfl rfl ?_
  refine ar_getf (pc := 5) dX6_stoppingFrom_5 fX6_10 rfl rfl ?_
  refine ar_bipush (pc := 8) dX6_stoppingFrom_8 q_bipush_m6 ?_
  refine ar_mc (pc := 10) (l := [0, 1, 19, 20, 21, 22, 23, 24, 25, 26, 3, 4, 5, 6, 7, 8, 9, 10]) (ar_rV dX6_stoppingFrom_10 cal_X5_look kX6_137 rfl (sX5_look (pW z).1 (pW z).2.1 (pW z).2.2.1 (pW z).2.2.2.1 (pW z).2.2.2.2.1 (pW z).2.2.2.2.2.1 (pW z).2.2.2.2.2.2.1 (pW z).2.2.2.2.2.2.2.1 (pW z).2.2.2.2.2.2.2.2 (pN z) n hn h8 (-6)) rfl rfl rfl rfl rfl okp_WN rfl rfl) okp_WN rfl rfl rfl rfl (fun r h1 hp => ?_)
  obtain ⟨rfl, rfl⟩ := hp
  refine ⟨rfl, ?_⟩
  refine ar_hp (mP_L w0 ff w1 gg z (lkT (pN z) n ((-6)) 8)) ?_
  refine ar_aload_n (i := 0) (pc := 13) dX6_stoppingFrom_13 rfl rfl ?_
  refine ar_getf (pc := 14) dX6_stoppingFrom_14 fX6_22 rfl rfl ?_
  refine ar_iload_n (i := 1) (pc := 17) dX6_stoppingFrom_17 rfl rfl ?_
  refine ar_mc (pc := 18) (l := [0, 1, 19, 20, 21, 22, 23, 24, 25, 26]) (ar_rV dX6_stoppingFrom_18 cal_X5_streamFrom kX6_168 rfl (sX5_streamFrom (lkT (pN z) n (-6) 8) (arF 1 (lkT (pN z) n (-6) 8) (vS (pN z) 0) (vS (pN z) 2)) (taF 1 (lkT (pN z) n (-6) 8) (vS (pN z) 0) (vS (pN z) 2)) (vS (pN z) 2) (paF 1 (lkT (pN z) n (-6) 8) (vS (pN z) 0) (vS (pN z) 2)) (arF 0 (lkT (pN z) n (-6) 8) (vS (pN z) 1) (vS (pN z) 2)) (taF 0 (lkT (pN z) n (-6) 8) (vS (pN z) 1) (vS (pN z) 2)) (vS (pN z) 2) (paF 0 (lkT (pN z) n (-6) 8) (vS (pN z) 1) (vS (pN z) 2)) 0) rfl rfl rfl rfl rfl okp_W rfl rfl) okp_W rfl rfl rfl rfl (fun r h1 hp => ?_)
  obtain ⟨rfl, rfl⟩ := hp
  refine ⟨rfl, ?_⟩
  refine ar_hp (mP_Wi w0 ff w1 gg z (vwOf (lkT (pN z) n (-6) 8) (pN z))) ?_
  rw [show (if (0 : Int32) = 0 then 7 else 4) = 7 by decide +kernel]
  refine ar_aload_n (i := 0) (pc := 21) dX6_stoppingFrom_21 rfl rfl ?_
  refine ar_getf (pc := 22) dX6_stoppingFrom_22 fX6_10 rfl rfl ?_
  refine ar_getf (pc := 25) dX6_stoppingFrom_25 fX6_102 rfl rfl ?_
  refine ar_iload_n (i := 2) (pc := 28) dX6_stoppingFrom_28 rfl rfl ?_
  refine ar_iald (pc := 29) dX6_stoppingFrom_29 rfl (show j < 8 by omega) rfl ?_
  refine ar_aload_n (i := 0) (pc := 30) dX6_stoppingFrom_30 rfl rfl ?_
  refine ar_getf (pc := 31) dX6_stoppingFrom_31 fX6_10 rfl rfl ?_
  refine ar_getf (pc := 34) dX6_stoppingFrom_34 fX6_95 rfl rfl ?_
  refine ar_iload_n (i := 2) (pc := 37) dX6_stoppingFrom_37 rfl rfl ?_
  refine ar_iald (pc := 38) dX6_stoppingFrom_38 rfl (show j < 8 by omega) rfl ?_
  refine ar_mc (pc := 39) (l := [0, 1, 24, 25, 26]) (ar_rV dX6_stoppingFrom_39 cal_X4_stopping kX6_215 rfl (sX4_stopping 0 (arF 0 (lkT (pN z) n (-6) 8) (vS (pN z) 1) (vS (pN z) 2)) (taF 0 (lkT (pN z) n (-6) 8) (vS (pN z) 1) (vS (pN z) 2)) (vS (pN z) 2) (paF 0 (lkT (pN z) n (-6) 8) (vS (pN z) 1) (vS (pN z) 2)) (vP (pN z) j) (vH (pN z) j)) rfl rfl rfl rfl rfl okp_SR rfl rfl) okp_SR rfl rfl rfl rfl (fun r h1 hp => ?_)
  obtain ⟨rfl, rfl⟩ := hp
  refine ⟨rfl, ?_⟩
  refine ar_hp (mP_SR w0 ff w1 gg z (vwOf (lkT (pN z) n (-6) 8) (pN z))) ?_
  exact ar_iret (pc := 42) dX6_stoppingFrom_42 rfl rfl rfl ⟨rfl, _, rfl⟩
