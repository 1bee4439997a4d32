/-! the whole asked -/
/-- the View at the tops t, with the settings of v -/
def vwOf (t : Nat → Int32) (v : SV) : VWt := (t, arF 1 t (vS v 0) (vS v 2), taF 1 t (vS v 0) (vS v 2), vS v 2, paF 1 t (vS v 0) (vS v 2), arF 0 t (vS v 1) (vS v 2), taF 0 t (vS v 1) (vS v 2), vS v 2, paF 0 t (vS v 1) (vS v 2))
theorem mP_L (w0 : Bool) (ff : Nat → Int32) (w1 : Bool) (gg : Nat → Int32) (z : PV) (t : Nat → Int32) : am_mrg (am_mu [0, 1, 19, 20, 21, 22, 23, 24, 25, 26, 3, 4, 5, 6, 7, 8, 9, 10]) 0 (vsS t (pN z)) (ppH w0 ff w1 gg z) = ppH w0 ff w1 gg (sW z (vwOf t (pN z))) := (mP_WN w0 ff w1 gg z (vwOf t (pN z)) (pN z)).trans rfl
theorem mP_Wi (w0 : Bool) (ff : Nat → Int32) (w1 : Bool) (gg : Nat → Int32) (z : PV) (x : VWt) : am_mrg (am_mu [0, 1, 19, 20, 21, 22, 23, 24, 25, 26]) 0 (none :: none :: vwT 2 x) (ppH w0 ff w1 gg (sW z x)) = ppH w0 ff w1 gg (sW z x) := by rw [mP_W, sW_sW]
theorem mP_Ni (w0 : Bool) (ff : Nat → Int32) (w1 : Bool) (gg : Nat → Int32) (z : PV) : am_mrg (am_mu [0, 1, 3, 4, 5, 6, 7, 8, 9, 10]) 0 (stH (pN z)) (ppH w0 ff w1 gg z) = ppH w0 ff w1 gg z := by rw [mP_N, sN_self]
theorem mP_Niw (w0 : Bool) (ff : Nat → Int32) (w1 : Bool) (gg : Nat → Int32) (z : PV) (x : VWt) : am_mrg (am_mu [0, 1, 3, 4, 5, 6, 7, 8, 9, 10]) 0 (stH (pN z)) (ppH w0 ff w1 gg (sW z x)) = ppH w0 ff w1 gg (sW z x) := (mP_N w0 ff w1 gg (sW z x) (pN z)).trans rfl
def lotV (v : SV) (p : Int32) : Int32 := if 0 ≤ p.toInt ∧ p.toInt < 8 then vL v (ix p) else -1
set_option maxHeartbeats 4000000 in
set_option maxRecDepth 100000 in
theorem sX6_lot (w0 : Bool) (ff : Nat → Int32) (w1 : Bool) (gg : Nat → Int32) (z : PV) (p : Int32) : am_Sp mX6_lot [.ref 2, .int p] (ppH w0 ff w1 gg z) (am_rp (lotV (pN z) p) (ppH w0 ff w1 gg z)) := by
  refine am_intro (by decide) (Nat.le_of_ble_eq_true rfl) ?_
  refine ar_iload_n (i := 1) (pc := 0) dX6_lot_0 rfl rfl ?_
  refine ar_if_lt (pc := 1) (tgt := 10) dX6_lot_1 (by decide) (fun c1 => ?_) (fun c1 => ?_)
  · refine ar_iconst (pc := 10) dX6_lot_10 q_iconst_m1 ?_
    refine ar_goto (tgt := 23) (pc := 11) dX6_lot_11 (by decide) ?_
    exact ar_iret (pc := 23) dX6_lot_23 rfl rfl rfl ⟨by rw [lotV, if_neg (fun hz => by (simp (disch := omega) only [Int32.lt_iff_toInt_lt, Int32.le_iff_toInt_le, ← Int32.toInt_inj, ti_m6, ti_m1, ti_0, ti_1, ti_2, ti_3, ti_4, ti_5, ti_6, ti_7, ti_8, ti_9, ti_12, ti_100, ti_9999, ti_60, nI_toInt] at c1); omega)], rfl⟩
  · refine ar_iload_n (i := 1) (pc := 4) dX6_lot_4 rfl rfl ?_
    refine ar_bipush (pc := 5) dX6_lot_5 q_bipush_8 ?_
    refine ar_icmp_lt (pc := 7) (tgt := 14) dX6_lot_7 (by decide) (fun c7 => ?_) (fun c7 => ?_)
    · refine ar_aload_n (i := 0) (pc := 14) dX6_lot_14 rfl rfl ?_
      refine ar_getf (pc := 15) dX6_lot_15 fX6_10 rfl rfl ?_
      refine ar_getf (pc := 18) dX6_lot_18 fX6_195 rfl rfl ?_
      refine ar_iload_n (i := 1) (pc := 21) dX6_lot_21 rfl rfl ?_
      refine ar_iald (pc := 22) dX6_lot_22 rfl (show ix p < 8 by (simp (disch := omega) only [Int32.lt_iff_toInt_lt, Int32.le_iff_toInt_le, ← Int32.toInt_inj, ti_m6, ti_m1, ti_0, ti_1, ti_2, ti_3, ti_4, ti_5, ti_6, ti_7, ti_8, ti_9, ti_12, ti_100, ti_9999, ti_60, nI_toInt] at c1); (simp (disch := omega) only [Int32.lt_iff_toInt_lt, Int32.le_iff_toInt_le, ← Int32.toInt_inj, ti_m6, ti_m1, ti_0, ti_1, ti_2, ti_3, ti_4, ti_5, ti_6, ti_7, ti_8, ti_9, ti_12, ti_100, ti_9999, ti_60, nI_toInt] at c7); unfold ix; omega) (ix_eq (by (simp (disch := omega) only [Int32.lt_iff_toInt_lt, Int32.le_iff_toInt_le, ← Int32.toInt_inj, ti_m6, ti_m1, ti_0, ti_1, ti_2, ti_3, ti_4, ti_5, ti_6, ti_7, ti_8, ti_9, ti_12, ti_100, ti_9999, ti_60, nI_toInt] at c1); omega)) ?_
      exact ar_iret (pc := 23) dX6_lot_23 rfl rfl rfl ⟨by rw [lotV, if_pos (by (simp (disch := omega) only [Int32.lt_iff_toInt_lt, Int32.le_iff_toInt_le, ← Int32.toInt_inj, ti_m6, ti_m1, ti_0, ti_1, ti_2, ti_3, ti_4, ti_5, ti_6, ti_7, ti_8, ti_9, ti_12, ti_100, ti_9999, ti_60, nI_toInt] at c1); (simp (disch := omega) only [Int32.lt_iff_toInt_lt, Int32.le_iff_toInt_le, ← Int32.toInt_inj, ti_m6, ti_m1, ti_0, ti_1, ti_2, ti_3, ti_4, ti_5, ti_6, ti_7, ti_8, ti_9, ti_12, ti_100, ti_9999, ti_60, nI_toInt] at c7); omega)], rfl⟩
    · refine ar_iconst (pc := 10) dX6_lot_10 q_iconst_m1 ?_
      refine ar_goto (tgt := 23) (pc := 11) dX6_lot_11 (by decide) ?_
      exact ar_iret (pc := 23) dX6_lot_23 rfl rfl rfl ⟨by rw [lotV, if_neg (fun hz => by (simp (disch := omega) only [Int32.lt_iff_toInt_lt, Int32.le_iff_toInt_le, ← Int32.toInt_inj, ti_m6, ti_m1, ti_0, ti_1, ti_2, ti_3, ti_4, ti_5, ti_6, ti_7, ti_8, ti_9, ti_12, ti_100, ti_9999, ti_60, nI_toInt] at c7); omega)], rfl⟩

noncomputable def bpV (v : SV) (n : Nat) (b : Int32) : Int32 := (bopC (crV (arF 1 (lkT v n b 8) (vS v 0) (vS v 2)) (taF 1 (lkT v n b 8) (vS v 0) (vS v 2)) (vS v 2) (arF 0 (lkT v n b 8) (vS v 1) (vS v 2)) (taF 0 (lkT v n b 8) (vS v 1) (vS v 2)) (vS v 2) (vH v (ix b))) (fun k => opP (lkT v n b 8) k 0) 12).1
/-- asked in vain -/
def rpW (x : Int32) (w0 : Bool) (ff : Nat → Int32) (w1 : Bool) (gg : Nat → Int32) (z : PV) : Option Value → am_H → Prop := fun r h1 => r = some (.int x) ∧ ∃ x', h1 = ppH w0 ff w1 gg (sW z x')
set_option maxHeartbeats 4000000 in
set_option maxRecDepth 100000 in
theorem sX6_bestPitch (w0 : Bool) (ff : Nat → Int32) (w1 : Bool) (gg : Nat → Int32) (z : PV) (n : Nat) (hn : vBo (pN z) = nI n) (h8 : n ≤ 8) (b : Int32) : am_Sp mX6_bestPitch [.ref 2, .int b] (ppH w0 ff w1 gg z) (fun r h1 => (bkP n b ∧ rpW (bpV (pN z) n b) w0 ff w1 gg z r h1) ∨ (¬ bkP n b ∧ r = some (.int (-1)) ∧ h1 = ppH w0 ff w1 gg z)) := by
  refine am_intro (by decide) (Nat.le_of_ble_eq_true rfl) ?_
  refine ar_aload_n (i := 0) (pc := 0) dX6_bestPitch_0 rfl rfl ?_
  refine ar_getf (pc := 1) dX6_bestPitch_1 fX6_10 rfl rfl ?_
  refine ar_iload_n (i := 1) (pc := 4) dX6_bestPitch_4 rfl rfl ?_
  refine ar_mc (pc := 5) (l := [0, 1, 3, 4, 5, 6, 7, 8, 9, 10]) (ar_rV dX6_bestPitch_5 cal_X3_isBooth kX6_85 rfl (sX3_isBooth (pN z) n hn h8 _) rfl rfl rfl rfl rfl okp_N rfl rfl) okp_N rfl rfl rfl rfl (fun r h1 hp => ?_)
  obtain ⟨⟨h5, rfl⟩ | ⟨h5, rfl⟩, rfl⟩ := hp
  · refine ⟨rfl, ?_⟩
    refine ar_hp (mP_Ni w0 ff w1 gg z) ?_
    refine ar_if_ne (pc := 8) (tgt := 13) dX6_bestPitch_8 (by decide) (fun c8 => ?_) (fun c8 => absurd c8 (by decide))
    refine ar_aload_n (i := 0) (pc := 13) dX6_bestPitch_13 rfl rfl ?_
    refine ar_getf (pc := 14) dX6_bestPitch_14 fX6_22 rfl rfl ?_
    refine ar_aload_n (i := 0) (pc := 17) dX6_bestPitch_17 rfl rfl ?_
    refine ar_getf (pc := 18) dX6_bestPitch_18 fX6_10 rfl rfl ?_
    refine ar_iload_n (i := 1) (pc := 21) dX6_bestPitch_21 rfl rfl ?_
    refine ar_mc (pc := 22) (l := [0, 1, 19, 20, 21, 22, 23, 24, 25, 26, 3, 4, 5, 6, 7, 8, 9, 10]) (ar_rV dX6_bestPitch_22 cal_X5_look kX6_137 rfl (sX5_look (pW z).1 (pW z).2.1 (pW z).2.2.1 (pW z).2.2.2.1 (pW z).2.2.2.2.1 (pW z).2.2.2.2.2.1 (pW z).2.2.2.2.2.2.1 (pW z).2.2.2.2.2.2.2.1 (pW z).2.2.2.2.2.2.2.2 (pN z) n hn h8 b) rfl rfl rfl rfl rfl okp_WN rfl rfl) okp_WN rfl rfl rfl rfl (fun r h1 hp => ?_)
    obtain ⟨rfl, rfl⟩ := hp
    refine ⟨rfl, ?_⟩
    refine ar_hp (mP_L w0 ff w1 gg z (lkT (pN z) n (b) 8)) ?_
    refine ar_aload_n (i := 0) (pc := 25) dX6_bestPitch_25 rfl rfl ?_
    refine ar_getf (pc := 26) dX6_bestPitch_26 fX6_22 rfl rfl ?_
    refine ar_aload_n (i := 0) (pc := 29) dX6_bestPitch_29 rfl rfl ?_
    refine ar_getf (pc := 30) dX6_bestPitch_30 fX6_10 rfl rfl ?_
    refine ar_getf (pc := 33) dX6_bestPitch_33 fX6_95 rfl rfl ?_
    refine ar_iload_n (i := 1) (pc := 36) dX6_bestPitch_36 rfl rfl ?_
    refine ar_iald (pc := 37) dX6_bestPitch_37 rfl (show ix b < 8 by have := h5; unfold ix; omega) (ix_eq h5.1) ?_
    refine ar_iconst (pc := 38) dX6_bestPitch_38 q_iconst_0 ?_
    refine ar_mc (pc := 39) (l := [0, 1, 19, 20, 21, 22, 23, 24, 25, 26]) (ar_rV dX6_bestPitch_39 cal_X5_bestOpenPitch kX6_198 rfl (sX5_bestOpenPitch (lkT (pN z) n b 8) (arF 1 (lkT (pN z) n b 8) (vS (pN z) 0) (vS (pN z) 2)) (taF 1 (lkT (pN z) n b 8) (vS (pN z) 0) (vS (pN z) 2)) (vS (pN z) 2) (paF 1 (lkT (pN z) n b 8) (vS (pN z) 0) (vS (pN z) 2)) (arF 0 (lkT (pN z) n b 8) (vS (pN z) 1) (vS (pN z) 2)) (taF 0 (lkT (pN z) n b 8) (vS (pN z) 1) (vS (pN z) 2)) (vS (pN z) 2) (paF 0 (lkT (pN z) n b 8) (vS (pN z) 1) (vS (pN z) 2)) (vH (pN z) (ix b)) 0) rfl rfl rfl rfl rfl okp_W rfl rfl) okp_W rfl rfl rfl rfl (fun r h1 hp => ?_)
    obtain ⟨rfl, rfl⟩ := hp
    refine ⟨rfl, ?_⟩
    refine ar_hp (mP_Wi w0 ff w1 gg z (vwOf (lkT (pN z) n b 8) (pN z))) ?_
    exact ar_iret (pc := 42) dX6_bestPitch_42 rfl rfl rfl (Or.inl ⟨h5, rfl, _, rfl⟩)
  · refine ⟨rfl, ?_⟩
    refine ar_hp (mP_Ni w0 ff w1 gg z) ?_
    refine ar_if_ne (pc := 8) (tgt := 13) dX6_bestPitch_8 (by decide) (fun c8 => absurd c8 (by decide)) (fun c8 => ?_)
    refine ar_iconst (pc := 11) dX6_bestPitch_11 q_iconst_m1 ?_
    exact ar_iret (pc := 12) dX6_bestPitch_12 rfl rfl rfl (Or.inr ⟨h5, rfl, rfl⟩)
