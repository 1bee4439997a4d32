/-! the class History: taking back -/
theorem oktb_0 : am_okmu [0, 1, 52, 53, 54, 55, 56, 57, 58, 59, 4, 5, 6, 7, 8, 9, 10, 11] [none, none, some true, some true, some true, some true, some true, some true, some true, some true, some true, some true, some true, some true, some true, some true, some true, some true] = true := by decide +kernel
theorem mrgt_0 (w : Bool) (ff : Nat → Int32) (o1 o2 o3 o4 o5 : Option SV) (u v : SV) (nx kp : Int32) : am_mrg (am_mu [0, 1, 52, 53, 54, 55, 56, 57, 58, 59, 4, 5, 6, 7, 8, 9, 10, 11]) 0 (st2 u u) (hy6 w ff (some u) o1 o2 o3 o4 o5 nx kp v) = hy6 w ff (some u) o1 o2 o3 o4 o5 nx kp u := by
  rw [mrgst2]
  show ((((((((((((((((hy6 w ff (some u) o1 o2 o3 o4 o5 nx kp v).set 52 (some (stO 53 u))).set 53 (some (am_ia 6 (vS u)))).set 54 (some (am_ia 8 (vH u)))).set 55 (some (am_ia 8 (vP u)))).set 56 (some (am_ia 8 (vT u)))).set 57 (some (am_ia 8 (vF u)))).set 58 (some (am_ia 8 (vI u)))).set 59 (some (am_ia 8 (vL u)))).set 4 (some (stO 5 u))).set 5 (some (am_ia 6 (vS u)))).set 6 (some (am_ia 8 (vH u)))).set 7 (some (am_ia 8 (vP u)))).set 8 (some (am_ia 8 (vT u)))).set 9 (some (am_ia 8 (vF u)))).set 10 (some (am_ia 8 (vI u)))).set 11 (some (am_ia 8 (vL u))) = _
  simp only [hy6, slB, stB, List.cons_append, List.nil_append, Option.map_some, List.set_cons_zero, List.set_cons_succ]
theorem oktb_1 : am_okmu [0, 1, 52, 53, 54, 55, 56, 57, 58, 59, 12, 13, 14, 15, 16, 17, 18, 19] [none, none, some true, some true, some true, some true, some true, some true, some true, some true, some true, some true, some true, some true, some true, some true, some true, some true] = true := by decide +kernel
theorem mrgt_1 (w : Bool) (ff : Nat → Int32) (o0 o2 o3 o4 o5 : Option SV) (u v : SV) (nx kp : Int32) : am_mrg (am_mu [0, 1, 52, 53, 54, 55, 56, 57, 58, 59, 12, 13, 14, 15, 16, 17, 18, 19]) 0 (st2 u u) (hy6 w ff o0 (some u) o2 o3 o4 o5 nx kp v) = hy6 w ff o0 (some u) o2 o3 o4 o5 nx kp u := by
  rw [mrgst2]
  show ((((((((((((((((hy6 w ff o0 (some u) o2 o3 o4 o5 nx kp v).set 52 (some (stO 53 u))).set 53 (some (am_ia 6 (vS u)))).set 54 (some (am_ia 8 (vH u)))).set 55 (some (am_ia 8 (vP u)))).set 56 (some (am_ia 8 (vT u)))).set 57 (some (am_ia 8 (vF u)))).set 58 (some (am_ia 8 (vI u)))).set 59 (some (am_ia 8 (vL u)))).set 12 (some (stO 13 u))).set 13 (some (am_ia 6 (vS u)))).set 14 (some (am_ia 8 (vH u)))).set 15 (some (am_ia 8 (vP u)))).set 16 (some (am_ia 8 (vT u)))).set 17 (some (am_ia 8 (vF u)))).set 18 (some (am_ia 8 (vI u)))).set 19 (some (am_ia 8 (vL u))) = _
  simp only [hy6, slB, stB, List.cons_append, List.nil_append, Option.map_some, List.set_cons_zero, List.set_cons_succ]
theorem oktb_2 : am_okmu [0, 1, 52, 53, 54, 55, 56, 57, 58, 59, 20, 21, 22, 23, 24, 25, 26, 27] [none, none, some true, some true, some true, some true, some true, some true, some true, some true, some true, some true, some true, some true, some true, some true, some true, some true] = true := by decide +kernel
theorem mrgt_2 (w : Bool) (ff : Nat → Int32) (o0 o1 o3 o4 o5 : Option SV) (u v : SV) (nx kp : Int32) : am_mrg (am_mu [0, 1, 52, 53, 54, 55, 56, 57, 58, 59, 20, 21, 22, 23, 24, 25, 26, 27]) 0 (st2 u u) (hy6 w ff o0 o1 (some u) o3 o4 o5 nx kp v) = hy6 w ff o0 o1 (some u) o3 o4 o5 nx kp u := by
  rw [mrgst2]
  show ((((((((((((((((hy6 w ff o0 o1 (some u) o3 o4 o5 nx kp v).set 52 (some (stO 53 u))).set 53 (some (am_ia 6 (vS u)))).set 54 (some (am_ia 8 (vH u)))).set 55 (some (am_ia 8 (vP u)))).set 56 (some (am_ia 8 (vT u)))).set 57 (some (am_ia 8 (vF u)))).set 58 (some (am_ia 8 (vI u)))).set 59 (some (am_ia 8 (vL u)))).set 20 (some (stO 21 u))).set 21 (some (am_ia 6 (vS u)))).set 22 (some (am_ia 8 (vH u)))).set 23 (some (am_ia 8 (vP u)))).set 24 (some (am_ia 8 (vT u)))).set 25 (some (am_ia 8 (vF u)))).set 26 (some (am_ia 8 (vI u)))).set 27 (some (am_ia 8 (vL u))) = _
  simp only [hy6, slB, stB, List.cons_append, List.nil_append, Option.map_some, List.set_cons_zero, List.set_cons_succ]
theorem oktb_3 : am_okmu [0, 1, 52, 53, 54, 55, 56, 57, 58, 59, 28, 29, 30, 31, 32, 33, 34, 35] [none, none, some true, some true, some true, some true, some true, some true, some true, some true, some true, some true, some true, some true, some true, some true, some true, some true] = true := by decide +kernel
theorem mrgt_3 (w : Bool) (ff : Nat → Int32) (o0 o1 o2 o4 o5 : Option SV) (u v : SV) (nx kp : Int32) : am_mrg (am_mu [0, 1, 52, 53, 54, 55, 56, 57, 58, 59, 28, 29, 30, 31, 32, 33, 34, 35]) 0 (st2 u u) (hy6 w ff o0 o1 o2 (some u) o4 o5 nx kp v) = hy6 w ff o0 o1 o2 (some u) o4 o5 nx kp u := by
  rw [mrgst2]
  show ((((((((((((((((hy6 w ff o0 o1 o2 (some u) o4 o5 nx kp v).set 52 (some (stO 53 u))).set 53 (some (am_ia 6 (vS u)))).set 54 (some (am_ia 8 (vH u)))).set 55 (some (am_ia 8 (vP u)))).set 56 (some (am_ia 8 (vT u)))).set 57 (some (am_ia 8 (vF u)))).set 58 (some (am_ia 8 (vI u)))).set 59 (some (am_ia 8 (vL u)))).set 28 (some (stO 29 u))).set 29 (some (am_ia 6 (vS u)))).set 30 (some (am_ia 8 (vH u)))).set 31 (some (am_ia 8 (vP u)))).set 32 (some (am_ia 8 (vT u)))).set 33 (some (am_ia 8 (vF u)))).set 34 (some (am_ia 8 (vI u)))).set 35 (some (am_ia 8 (vL u))) = _
  simp only [hy6, slB, stB, List.cons_append, List.nil_append, Option.map_some, List.set_cons_zero, List.set_cons_succ]
theorem oktb_4 : am_okmu [0, 1, 52, 53, 54, 55, 56, 57, 58, 59, 36, 37, 38, 39, 40, 41, 42, 43] [none, none, some true, some true, some true, some true, some true, some true, some true, some true, some true, some true, some true, some true, some true, some true, some true, some true] = true := by decide +kernel
theorem mrgt_4 (w : Bool) (ff : Nat → Int32) (o0 o1 o2 o3 o5 : Option SV) (u v : SV) (nx kp : Int32) : am_mrg (am_mu [0, 1, 52, 53, 54, 55, 56, 57, 58, 59, 36, 37, 38, 39, 40, 41, 42, 43]) 0 (st2 u u) (hy6 w ff o0 o1 o2 o3 (some u) o5 nx kp v) = hy6 w ff o0 o1 o2 o3 (some u) o5 nx kp u := by
  rw [mrgst2]
  show ((((((((((((((((hy6 w ff o0 o1 o2 o3 (some u) o5 nx kp v).set 52 (some (stO 53 u))).set 53 (some (am_ia 6 (vS u)))).set 54 (some (am_ia 8 (vH u)))).set 55 (some (am_ia 8 (vP u)))).set 56 (some (am_ia 8 (vT u)))).set 57 (some (am_ia 8 (vF u)))).set 58 (some (am_ia 8 (vI u)))).set 59 (some (am_ia 8 (vL u)))).set 36 (some (stO 37 u))).set 37 (some (am_ia 6 (vS u)))).set 38 (some (am_ia 8 (vH u)))).set 39 (some (am_ia 8 (vP u)))).set 40 (some (am_ia 8 (vT u)))).set 41 (some (am_ia 8 (vF u)))).set 42 (some (am_ia 8 (vI u)))).set 43 (some (am_ia 8 (vL u))) = _
  simp only [hy6, slB, stB, List.cons_append, List.nil_append, Option.map_some, List.set_cons_zero, List.set_cons_succ]
theorem oktb_5 : am_okmu [0, 1, 52, 53, 54, 55, 56, 57, 58, 59, 44, 45, 46, 47, 48, 49, 50, 51] [none, none, some true, some true, some true, some true, some true, some true, some true, some true, some true, some true, some true, some true, some true, some true, some true, some true] = true := by decide +kernel
theorem mrgt_5 (w : Bool) (ff : Nat → Int32) (o0 o1 o2 o3 o4 : Option SV) (u v : SV) (nx kp : Int32) : am_mrg (am_mu [0, 1, 52, 53, 54, 55, 56, 57, 58, 59, 44, 45, 46, 47, 48, 49, 50, 51]) 0 (st2 u u) (hy6 w ff o0 o1 o2 o3 o4 (some u) nx kp v) = hy6 w ff o0 o1 o2 o3 o4 (some u) nx kp u := by
  rw [mrgst2]
  show ((((((((((((((((hy6 w ff o0 o1 o2 o3 o4 (some u) nx kp v).set 52 (some (stO 53 u))).set 53 (some (am_ia 6 (vS u)))).set 54 (some (am_ia 8 (vH u)))).set 55 (some (am_ia 8 (vP u)))).set 56 (some (am_ia 8 (vT u)))).set 57 (some (am_ia 8 (vF u)))).set 58 (some (am_ia 8 (vI u)))).set 59 (some (am_ia 8 (vL u)))).set 44 (some (stO 45 u))).set 45 (some (am_ia 6 (vS u)))).set 46 (some (am_ia 8 (vH u)))).set 47 (some (am_ia 8 (vP u)))).set 48 (some (am_ia 8 (vT u)))).set 49 (some (am_ia 8 (vF u)))).set 50 (some (am_ia 8 (vI u)))).set 51 (some (am_ia 8 (vL u))) = _
  simp only [hy6, slB, stB, List.cons_append, List.nil_append, Option.map_some, List.set_cons_zero, List.set_cons_succ]
set_option maxHeartbeats 4000000 in
set_option maxRecDepth 100000 in
theorem sX1_takeBack_0 (w : Bool) (ff : Nat → Int32) (o0 o1 o2 o3 o4 : Option SV) (u : SV) (m : Nat) (hm : m < 6) (v : SV) : am_Sp mX1_takeBack [.ref 2, .ref 52] (hy6 w ff o0 o1 o2 o3 o4 (some u) (nI 0) (nI (m + 1)) v) (am_vp (hy6 w ff o0 o1 o2 o3 o4 (some u) (nI 5) (nI m) u)) := by
  refine am_intro (by decide) (Nat.le_of_ble_eq_true rfl) ?_
  refine ar_aload_n (i := 0) (pc := 0) dX1_takeBack_0 rfl rfl ?_
  refine ar_getf (pc := 1) dX1_takeBack_1 fX1_17 rfl rfl ?_
  refine ar_if_le (pc := 4) (tgt := 16) dX1_takeBack_4 (by decide) (fun c4 => ?_) (fun c4 => False.elim (by (simp (disch := omega) only [Int32.lt_iff_toInt_lt, Int32.le_iff_toInt_le, ← Int32.toInt_inj, ti_m6, ti_m1, ti_0, ti_1, ti_2, ti_3, ti_4, ti_5, ti_6, ti_7, ti_8, ti_9, ti_12, ti_100, ti_9999, ti_60, nI_toInt] at c4) <;> omega))
  refine ar_aload_n (i := 0) (pc := 16) dX1_takeBack_16 rfl rfl ?_
  refine ar_getf (pc := 17) dX1_takeBack_17 fX1_11 rfl rfl ?_
  refine ar_alenq (pc := 20) dX1_takeBack_20 rfl ?_
  rw [len6]
  refine ar_iconst (pc := 21) dX1_takeBack_21 q_iconst_1 ?_
  refine ar_isub (pc := 22) dX1_takeBack_22 ?_
  rw [show nI 6 - 1 = nI 5 from nI_pred 5]
  refine ar_istore_n (i := 2) (pc := 23) dX1_takeBack_23 rfl (Nat.le_of_ble_eq_true rfl) rfl ?_
  refine ar_aload_n (i := 0) (pc := 24) dX1_takeBack_24 rfl rfl ?_
  refine ar_getf (pc := 25) dX1_takeBack_25 fX1_26 rfl rfl ?_
  refine ar_iconst (pc := 28) dX1_takeBack_28 q_iconst_1 ?_
  refine ar_icmp_lt (pc := 29) (tgt := 50) dX1_takeBack_29 (by decide) (fun c29 => False.elim (by (simp (disch := omega) only [Int32.lt_iff_toInt_lt, Int32.le_iff_toInt_le, ← Int32.toInt_inj, ti_m6, ti_m1, ti_0, ti_1, ti_2, ti_3, ti_4, ti_5, ti_6, ti_7, ti_8, ti_9, ti_12, ti_100, ti_9999, ti_60, nI_toInt] at c29) <;> omega)) (fun c29 => ?_)
  refine ar_iload_n (i := 2) (pc := 32) dX1_takeBack_32 rfl rfl ?_
  refine ar_aload_n (i := 0) (pc := 33) dX1_takeBack_33 rfl rfl ?_
  refine ar_getf (pc := 34) dX1_takeBack_34 fX1_11 rfl rfl ?_
  refine ar_alenq (pc := 37) dX1_takeBack_37 rfl ?_
  rw [len6]
  refine ar_icmp_ge (pc := 38) (tgt := 50) dX1_takeBack_38 (by decide) (fun c38 => False.elim (by (simp (disch := omega) only [Int32.lt_iff_toInt_lt, Int32.le_iff_toInt_le, ← Int32.toInt_inj, ti_m6, ti_m1, ti_0, ti_1, ti_2, ti_3, ti_4, ti_5, ti_6, ti_7, ti_8, ti_9, ti_12, ti_100, ti_9999, ti_60, nI_toInt] at c38) <;> omega)) (fun c38 => ?_)
  refine ar_aload_n (i := 0) (pc := 41) dX1_takeBack_41 rfl rfl ?_
  refine ar_getf (pc := 42) dX1_takeBack_42 fX1_11 rfl rfl ?_
  refine ar_iload_n (i := 2) (pc := 45) dX1_takeBack_45 rfl rfl ?_
  refine ar_aald (pc := 46) dX1_takeBack_46 rfl rfl rfl ?_
  refine ar_ifnonnull (pc := 47) (tgt := 51) dX1_takeBack_47 (by decide) ?_
  refine ar_aload_n (i := 1) (pc := 51) dX1_takeBack_51 rfl rfl ?_
  refine ar_aload_n (i := 0) (pc := 52) dX1_takeBack_52 rfl rfl ?_
  refine ar_getf (pc := 53) dX1_takeBack_53 fX1_11 rfl rfl ?_
  refine ar_iload_n (i := 2) (pc := 56) dX1_takeBack_56 rfl rfl ?_
  refine ar_aald (pc := 57) dX1_takeBack_57 rfl rfl rfl ?_
  refine ar_mc (pc := 58) (l := [0, 1, 52, 53, 54, 55, 56, 57, 58, 59, 44, 45, 46, 47, 48, 49, 50, 51]) (ar_rV dX1_takeBack_58 cal_X3_copyFrom kX1_22 rfl (sX3_copyFrom v u) rfl rfl rfl rfl rfl oktb_5 rfl rfl) oktb_5 rfl rfl rfl rfl (fun r h1 hp => ?_)
  obtain ⟨rfl, rfl⟩ := hp
  refine ⟨rfl, ?_⟩
  rw [mrgt_5]
  refine ar_aload_n (i := 0) (pc := 61) dX1_takeBack_61 rfl rfl ?_
  refine ar_iload_n (i := 2) (pc := 62) dX1_takeBack_62 rfl rfl ?_
  refine ar_putf (pc := 63) dX1_takeBack_63 fX1_17 rfl (Nat.le_of_ble_eq_true rfl) (fun _ => ⟨rfl, rfl⟩) ?_
  refine ar_aload_n (i := 0) (pc := 66) dX1_takeBack_66 rfl rfl ?_
  refine ar_dup (pc := 67) dX1_takeBack_67 rfl ?_
  refine ar_getf (pc := 68) dX1_takeBack_68 fX1_26 rfl rfl ?_
  refine ar_iconst (pc := 71) dX1_takeBack_71 q_iconst_1 ?_
  refine ar_isub (pc := 72) dX1_takeBack_72 ?_
  rw [nI_pred]
  refine ar_putf (pc := 73) dX1_takeBack_73 fX1_26 rfl (Nat.le_of_ble_eq_true rfl) (fun _ => ⟨rfl, rfl⟩) ?_
  exact ar_vret (pc := 76) dX1_takeBack_76 rfl rfl rfl ⟨rfl, rfl⟩

set_option maxHeartbeats 4000000 in
set_option maxRecDepth 100000 in
theorem sX1_takeBack_1 (w : Bool) (ff : Nat → Int32) (o1 o2 o3 o4 o5 : Option SV) (u : SV) (m : Nat) (hm : m < 6) (v : SV) : am_Sp mX1_takeBack [.ref 2, .ref 52] (hy6 w ff (some u) o1 o2 o3 o4 o5 (nI 1) (nI (m + 1)) v) (am_vp (hy6 w ff (some u) o1 o2 o3 o4 o5 (nI 0) (nI m) u)) := by
  refine am_intro (by decide) (Nat.le_of_ble_eq_true rfl) ?_
  refine ar_aload_n (i := 0) (pc := 0) dX1_takeBack_0 rfl rfl ?_
  refine ar_getf (pc := 1) dX1_takeBack_1 fX1_17 rfl rfl ?_
  refine ar_if_le (pc := 4) (tgt := 16) dX1_takeBack_4 (by decide) (fun c4 => False.elim (by (simp (disch := omega) only [Int32.lt_iff_toInt_lt, Int32.le_iff_toInt_le, ← Int32.toInt_inj, ti_m6, ti_m1, ti_0, ti_1, ti_2, ti_3, ti_4, ti_5, ti_6, ti_7, ti_8, ti_9, ti_12, ti_100, ti_9999, ti_60, nI_toInt] at c4) <;> omega)) (fun c4 => ?_)
  refine ar_aload_n (i := 0) (pc := 7) dX1_takeBack_7 rfl rfl ?_
  refine ar_getf (pc := 8) dX1_takeBack_8 fX1_17 rfl rfl ?_
  refine ar_iconst (pc := 11) dX1_takeBack_11 q_iconst_1 ?_
  refine ar_isub (pc := 12) dX1_takeBack_12 ?_
  rw [show nI 1 - 1 = nI 0 from nI_pred 0]
  refine ar_goto (tgt := 23) (pc := 13) dX1_takeBack_13 (by decide) ?_
  refine ar_istore_n (i := 2) (pc := 23) dX1_takeBack_23 rfl (Nat.le_of_ble_eq_true rfl) rfl ?_
  refine ar_aload_n (i := 0) (pc := 24) dX1_takeBack_24 rfl rfl ?_
  refine ar_getf (pc := 25) dX1_takeBack_25 fX1_26 rfl rfl ?_
  refine ar_iconst (pc := 28) dX1_takeBack_28 q_iconst_1 ?_
  refine ar_icmp_lt (pc := 29) (tgt := 50) dX1_takeBack_29 (by decide) (fun c29 => False.elim (by (simp (disch := omega) only [Int32.lt_iff_toInt_lt, Int32.le_iff_toInt_le, ← Int32.toInt_inj, ti_m6, ti_m1, ti_0, ti_1, ti_2, ti_3, ti_4, ti_5, ti_6, ti_7, ti_8, ti_9, ti_12, ti_100, ti_9999, ti_60, nI_toInt] at c29) <;> omega)) (fun c29 => ?_)
  refine ar_iload_n (i := 2) (pc := 32) dX1_takeBack_32 rfl rfl ?_
  refine ar_aload_n (i := 0) (pc := 33) dX1_takeBack_33 rfl rfl ?_
  refine ar_getf (pc := 34) dX1_takeBack_34 fX1_11 rfl rfl ?_
  refine ar_alenq (pc := 37) dX1_takeBack_37 rfl ?_
  rw [len6]
  refine ar_icmp_ge (pc := 38) (tgt := 50) dX1_takeBack_38 (by decide) (fun c38 => False.elim (by (simp (disch := omega) only [Int32.lt_iff_toInt_lt, Int32.le_iff_toInt_le, ← Int32.toInt_inj, ti_m6, ti_m1, ti_0, ti_1, ti_2, ti_3, ti_4, ti_5, ti_6, ti_7, ti_8, ti_9, ti_12, ti_100, ti_9999, ti_60, nI_toInt] at c38) <;> omega)) (fun c38 => ?_)
  refine ar_aload_n (i := 0) (pc := 41) dX1_takeBack_41 rfl rfl ?_
  refine ar_getf (pc := 42) dX1_takeBack_42 fX1_11 rfl rfl ?_
  refine ar_iload_n (i := 2) (pc := 45) dX1_takeBack_45 rfl rfl ?_
  refine ar_aald (pc := 46) dX1_takeBack_46 rfl rfl rfl ?_
  refine ar_ifnonnull (pc := 47) (tgt := 51) dX1_takeBack_47 (by decide) ?_
  refine ar_aload_n (i := 1) (pc := 51) dX1_takeBack_51 rfl rfl ?_
  refine ar_aload_n (i := 0) (pc := 52) dX1_takeBack_52 rfl rfl ?_
  refine ar_getf (pc := 53) dX1_takeBack_53 fX1_11 rfl rfl ?_
  refine ar_iload_n (i := 2) (pc := 56) dX1_takeBack_56 rfl rfl ?_
  refine ar_aald (pc := 57) dX1_takeBack_57 rfl rfl rfl ?_
  refine ar_mc (pc := 58) (l := [0, 1, 52, 53, 54, 55, 56, 57, 58, 59, 4, 5, 6, 7, 8, 9, 10, 11]) (ar_rV dX1_takeBack_58 cal_X3_copyFrom kX1_22 rfl (sX3_copyFrom v u) rfl rfl rfl rfl rfl oktb_0 rfl rfl) oktb_0 rfl rfl rfl rfl (fun r h1 hp => ?_)
  obtain ⟨rfl, rfl⟩ := hp
  refine ⟨rfl, ?_⟩
  rw [mrgt_0]
  refine ar_aload_n (i := 0) (pc := 61) dX1_takeBack_61 rfl rfl ?_
  refine ar_iload_n (i := 2) (pc := 62) dX1_takeBack_62 rfl rfl ?_
  refine ar_putf (pc := 63) dX1_takeBack_63 fX1_17 rfl (Nat.le_of_ble_eq_true rfl) (fun _ => ⟨rfl, rfl⟩) ?_
  refine ar_aload_n (i := 0) (pc := 66) dX1_takeBack_66 rfl rfl ?_
  refine ar_dup (pc := 67) dX1_takeBack_67 rfl ?_
  refine ar_getf (pc := 68) dX1_takeBack_68 fX1_26 rfl rfl ?_
  refine ar_iconst (pc := 71) dX1_takeBack_71 q_iconst_1 ?_
  refine ar_isub (pc := 72) dX1_takeBack_72 ?_
  rw [nI_pred]
  refine ar_putf (pc := 73) dX1_takeBack_73 fX1_26 rfl (Nat.le_of_ble_eq_true rfl) (fun _ => ⟨rfl, rfl⟩) ?_
  exact ar_vret (pc := 76) dX1_takeBack_76 rfl rfl rfl ⟨rfl, rfl⟩

set_option maxHeartbeats 4000000 in
set_option maxRecDepth 100000 in
theorem sX1_takeBack_2 (w : Bool) (ff : Nat → Int32) (o0 o2 o3 o4 o5 : Option SV) (u : SV) (m : Nat) (hm : m < 6) (v : SV) : am_Sp mX1_takeBack [.ref 2, .ref 52] (hy6 w ff o0 (some u) o2 o3 o4 o5 (nI 2) (nI (m + 1)) v) (am_vp (hy6 w ff o0 (some u) o2 o3 o4 o5 (nI 1) (nI m) u)) := by
  refine am_intro (by decide) (Nat.le_of_ble_eq_true rfl) ?_
  refine ar_aload_n (i := 0) (pc := 0) dX1_takeBack_0 rfl rfl ?_
  refine ar_getf (pc := 1) dX1_takeBack_1 fX1_17 rfl rfl ?_
  refine ar_if_le (pc := 4) (tgt := 16) dX1_takeBack_4 (by decide) (fun c4 => False.elim (by (simp (disch := omega) only [Int32.lt_iff_toInt_lt, Int32.le_iff_toInt_le, ← Int32.toInt_inj, ti_m6, ti_m1, ti_0, ti_1, ti_2, ti_3, ti_4, ti_5, ti_6, ti_7, ti_8, ti_9, ti_12, ti_100, ti_9999, ti_60, nI_toInt] at c4) <;> omega)) (fun c4 => ?_)
  refine ar_aload_n (i := 0) (pc := 7) dX1_takeBack_7 rfl rfl ?_
  refine ar_getf (pc := 8) dX1_takeBack_8 fX1_17 rfl rfl ?_
  refine ar_iconst (pc := 11) dX1_takeBack_11 q_iconst_1 ?_
  refine ar_isub (pc := 12) dX1_takeBack_12 ?_
  rw [show nI 2 - 1 = nI 1 from nI_pred 1]
  refine ar_goto (tgt := 23) (pc := 13) dX1_takeBack_13 (by decide) ?_
  refine ar_istore_n (i := 2) (pc := 23) dX1_takeBack_23 rfl (Nat.le_of_ble_eq_true rfl) rfl ?_
  refine ar_aload_n (i := 0) (pc := 24) dX1_takeBack_24 rfl rfl ?_
  refine ar_getf (pc := 25) dX1_takeBack_25 fX1_26 rfl rfl ?_
  refine ar_iconst (pc := 28) dX1_takeBack_28 q_iconst_1 ?_
  refine ar_icmp_lt (pc := 29) (tgt := 50) dX1_takeBack_29 (by decide) (fun c29 => False.elim (by (simp (disch := omega) only [Int32.lt_iff_toInt_lt, Int32.le_iff_toInt_le, ← Int32.toInt_inj, ti_m6, ti_m1, ti_0, ti_1, ti_2, ti_3, ti_4, ti_5, ti_6, ti_7, ti_8, ti_9, ti_12, ti_100, ti_9999, ti_60, nI_toInt] at c29) <;> omega)) (fun c29 => ?_)
  refine ar_iload_n (i := 2) (pc := 32) dX1_takeBack_32 rfl rfl ?_
  refine ar_aload_n (i := 0) (pc := 33) dX1_takeBack_33 rfl rfl ?_
  refine ar_getf (pc := 34) dX1_takeBack_34 fX1_11 rfl rfl ?_
  refine ar_alenq (pc := 37) dX1_takeBack_37 rfl ?_
  rw [len6]
  refine ar_icmp_ge (pc := 38) (tgt := 50) dX1_takeBack_38 (by decide) (fun c38 => False.elim (by (simp (disch := omega) only [Int32.lt_iff_toInt_lt, Int32.le_iff_toInt_le, ← Int32.toInt_inj, ti_m6, ti_m1, ti_0, ti_1, ti_2, ti_3, ti_4, ti_5, ti_6, ti_7, ti_8, ti_9, ti_12, ti_100, ti_9999, ti_60, nI_toInt] at c38) <;> omega)) (fun c38 => ?_)
  refine ar_aload_n (i := 0) (pc := 41) dX1_takeBack_41 rfl rfl ?_
  refine ar_getf (pc := 42) dX1_takeBack_42 fX1_11 rfl rfl ?_
  refine ar_iload_n (i := 2) (pc := 45) dX1_takeBack_45 rfl rfl ?_
  refine ar_aald (pc := 46) dX1_takeBack_46 rfl rfl rfl ?_
  refine ar_ifnonnull (pc := 47) (tgt := 51) dX1_takeBack_47 (by decide) ?_
  refine ar_aload_n (i := 1) (pc := 51) dX1_takeBack_51 rfl rfl ?_
  refine ar_aload_n (i := 0) (pc := 52) dX1_takeBack_52 rfl rfl ?_
  refine ar_getf (pc := 53) dX1_takeBack_53 fX1_11 rfl rfl ?_
  refine ar_iload_n (i := 2) (pc := 56) dX1_takeBack_56 rfl rfl ?_
  refine ar_aald (pc := 57) dX1_takeBack_57 rfl rfl rfl ?_
  refine ar_mc (pc := 58) (l := [0, 1, 52, 53, 54, 55, 56, 57, 58, 59, 12, 13, 14, 15, 16, 17, 18, 19]) (ar_rV dX1_takeBack_58 cal_X3_copyFrom kX1_22 rfl (sX3_copyFrom v u) rfl rfl rfl rfl rfl oktb_1 rfl rfl) oktb_1 rfl rfl rfl rfl (fun r h1 hp => ?_)
  obtain ⟨rfl, rfl⟩ := hp
  refine ⟨rfl, ?_⟩
  rw [mrgt_1]
  refine ar_aload_n (i := 0) (pc := 61) dX1_takeBack_61 rfl rfl ?_
  refine ar_iload_n (i := 2) (pc := 62) dX1_takeBack_62 rfl rfl ?_
  refine ar_putf (pc := 63) dX1_takeBack_63 fX1_17 rfl (Nat.le_of_ble_eq_true rfl) (fun _ => ⟨rfl, rfl⟩) ?_
  refine ar_aload_n (i := 0) (pc := 66) dX1_takeBack_66 rfl rfl ?_
  refine ar_dup (pc := 67) dX1_takeBack_67 rfl ?_
  refine ar_getf (pc := 68) dX1_takeBack_68 fX1_26 rfl rfl ?_
  refine ar_iconst (pc := 71) dX1_takeBack_71 q_iconst_1 ?_
  refine ar_isub (pc := 72) dX1_takeBack_72 ?_
  rw [nI_pred]
  refine ar_putf (pc := 73) dX1_takeBack_73 fX1_26 rfl (Nat.le_of_ble_eq_true rfl) (fun _ => ⟨rfl, rfl⟩) ?_
  exact ar_vret (pc := 76) dX1_takeBack_76 rfl rfl rfl ⟨rfl, rfl⟩

set_option maxHeartbeats 4000000 in
set_option maxRecDepth 100000 in
theorem sX1_takeBack_3 (w : Bool) (ff : Nat → Int32) (o0 o1 o3 o4 o5 : Option SV) (u : SV) (m : Nat) (hm : m < 6) (v : SV) : am_Sp mX1_takeBack [.ref 2, .ref 52] (hy6 w ff o0 o1 (some u) o3 o4 o5 (nI 3) (nI (m + 1)) v) (am_vp (hy6 w ff o0 o1 (some u) o3 o4 o5 (nI 2) (nI m) u)) := by
  refine am_intro (by decide) (Nat.le_of_ble_eq_true rfl) ?_
  refine ar_aload_n (i := 0) (pc := 0) dX1_takeBack_0 rfl rfl ?_
  refine ar_getf (pc := 1) dX1_takeBack_1 fX1_17 rfl rfl ?_
  refine ar_if_le (pc := 4) (tgt := 16) dX1_takeBack_4 (by decide) (fun c4 => False.elim (by (simp (disch := omega) only [Int32.lt_iff_toInt_lt, Int32.le_iff_toInt_le, ← Int32.toInt_inj, ti_m6, ti_m1, ti_0, ti_1, ti_2, ti_3, ti_4, ti_5, ti_6, ti_7, ti_8, ti_9, ti_12, ti_100, ti_9999, ti_60, nI_toInt] at c4) <;> omega)) (fun c4 => ?_)
  refine ar_aload_n (i := 0) (pc := 7) dX1_takeBack_7 rfl rfl ?_
  refine ar_getf (pc := 8) dX1_takeBack_8 fX1_17 rfl rfl ?_
  refine ar_iconst (pc := 11) dX1_takeBack_11 q_iconst_1 ?_
  refine ar_isub (pc := 12) dX1_takeBack_12 ?_
  rw [show nI 3 - 1 = nI 2 from nI_pred 2]
  refine ar_goto (tgt := 23) (pc := 13) dX1_takeBack_13 (by decide) ?_
  refine ar_istore_n (i := 2) (pc := 23) dX1_takeBack_23 rfl (Nat.le_of_ble_eq_true rfl) rfl ?_
  refine ar_aload_n (i := 0) (pc := 24) dX1_takeBack_24 rfl rfl ?_
  refine ar_getf (pc := 25) dX1_takeBack_25 fX1_26 rfl rfl ?_
  refine ar_iconst (pc := 28) dX1_takeBack_28 q_iconst_1 ?_
  refine ar_icmp_lt (pc := 29) (tgt := 50) dX1_takeBack_29 (by decide) (fun c29 => False.elim (by (simp (disch := omega) only [Int32.lt_iff_toInt_lt, Int32.le_iff_toInt_le, ← Int32.toInt_inj, ti_m6, ti_m1, ti_0, ti_1, ti_2, ti_3, ti_4, ti_5, ti_6, ti_7, ti_8, ti_9, ti_12, ti_100, ti_9999, ti_60, nI_toInt] at c29) <;> omega)) (fun c29 => ?_)
  refine ar_iload_n (i := 2) (pc := 32) dX1_takeBack_32 rfl rfl ?_
  refine ar_aload_n (i := 0) (pc := 33) dX1_takeBack_33 rfl rfl ?_
  refine ar_getf (pc := 34) dX1_takeBack_34 fX1_11 rfl rfl ?_
  refine ar_alenq (pc := 37) dX1_takeBack_37 rfl ?_
  rw [len6]
  refine ar_icmp_ge (pc := 38) (tgt := 50) dX1_takeBack_38 (by decide) (fun c38 => False.elim (by (simp (disch := omega) only [Int32.lt_iff_toInt_lt, Int32.le_iff_toInt_le, ← Int32.toInt_inj, ti_m6, ti_m1, ti_0, ti_1, ti_2, ti_3, ti_4, ti_5, ti_6, ti_7, ti_8, ti_9, ti_12, ti_100, ti_9999, ti_60, nI_toInt] at c38) <;> omega)) (fun c38 => ?_)
  refine ar_aload_n (i := 0) (pc := 41) dX1_takeBack_41 rfl rfl ?_
  refine ar_getf (pc := 42) dX1_takeBack_42 fX1_11 rfl rfl ?_
  refine ar_iload_n (i := 2) (pc := 45) dX1_takeBack_45 rfl rfl ?_
  refine ar_aald (pc := 46) dX1_takeBack_46 rfl rfl rfl ?_
  refine ar_ifnonnull (pc := 47) (tgt := 51) dX1_takeBack_47 (by decide) ?_
  refine ar_aload_n (i := 1) (pc := 51) dX1_takeBack_51 rfl rfl ?_
  refine ar_aload_n (i := 0) (pc := 52) dX1_takeBack_52 rfl rfl ?_
  refine ar_getf (pc := 53) dX1_takeBack_53 fX1_11 rfl rfl ?_
  refine ar_iload_n (i := 2) (pc := 56) dX1_takeBack_56 rfl rfl ?_
  refine ar_aald (pc := 57) dX1_takeBack_57 rfl rfl rfl ?_
  refine ar_mc (pc := 58) (l := [0, 1, 52, 53, 54, 55, 56, 57, 58, 59, 20, 21, 22, 23, 24, 25, 26, 27]) (ar_rV dX1_takeBack_58 cal_X3_copyFrom kX1_22 rfl (sX3_copyFrom v u) rfl rfl rfl rfl rfl oktb_2 rfl rfl) oktb_2 rfl rfl rfl rfl (fun r h1 hp => ?_)
  obtain ⟨rfl, rfl⟩ := hp
  refine ⟨rfl, ?_⟩
  rw [mrgt_2]
  refine ar_aload_n (i := 0) (pc := 61) dX1_takeBack_61 rfl rfl ?_
  refine ar_iload_n (i := 2) (pc := 62) dX1_takeBack_62 rfl rfl ?_
  refine ar_putf (pc := 63) dX1_takeBack_63 fX1_17 rfl (Nat.le_of_ble_eq_true rfl) (fun _ => ⟨rfl, rfl⟩) ?_
  refine ar_aload_n (i := 0) (pc := 66) dX1_takeBack_66 rfl rfl ?_
  refine ar_dup (pc := 67) dX1_takeBack_67 rfl ?_
  refine ar_getf (pc := 68) dX1_takeBack_68 fX1_26 rfl rfl ?_
  refine ar_iconst (pc := 71) dX1_takeBack_71 q_iconst_1 ?_
  refine ar_isub (pc := 72) dX1_takeBack_72 ?_
  rw [nI_pred]
  refine ar_putf (pc := 73) dX1_takeBack_73 fX1_26 rfl (Nat.le_of_ble_eq_true rfl) (fun _ => ⟨rfl, rfl⟩) ?_
  exact ar_vret (pc := 76) dX1_takeBack_76 rfl rfl rfl ⟨rfl, rfl⟩

set_option maxHeartbeats 4000000 in
set_option maxRecDepth 100000 in
theorem sX1_takeBack_4 (w : Bool) (ff : Nat → Int32) (o0 o1 o2 o4 o5 : Option SV) (u : SV) (m : Nat) (hm : m < 6) (v : SV) : am_Sp mX1_takeBack [.ref 2, .ref 52] (hy6 w ff o0 o1 o2 (some u) o4 o5 (nI 4) (nI (m + 1)) v) (am_vp (hy6 w ff o0 o1 o2 (some u) o4 o5 (nI 3) (nI m) u)) := by
  refine am_intro (by decide) (Nat.le_of_ble_eq_true rfl) ?_
  refine ar_aload_n (i := 0) (pc := 0) dX1_takeBack_0 rfl rfl ?_
  refine ar_getf (pc := 1) dX1_takeBack_1 fX1_17 rfl rfl ?_
  refine ar_if_le (pc := 4) (tgt := 16) dX1_takeBack_4 (by decide) (fun c4 => False.elim (by (simp (disch := omega) only [Int32.lt_iff_toInt_lt, Int32.le_iff_toInt_le, ← Int32.toInt_inj, ti_m6, ti_m1, ti_0, ti_1, ti_2, ti_3, ti_4, ti_5, ti_6, ti_7, ti_8, ti_9, ti_12, ti_100, ti_9999, ti_60, nI_toInt] at c4) <;> omega)) (fun c4 => ?_)
  refine ar_aload_n (i := 0) (pc := 7) dX1_takeBack_7 rfl rfl ?_
  refine ar_getf (pc := 8) dX1_takeBack_8 fX1_17 rfl rfl ?_
  refine ar_iconst (pc := 11) dX1_takeBack_11 q_iconst_1 ?_
  refine ar_isub (pc := 12) dX1_takeBack_12 ?_
  rw [show nI 4 - 1 = nI 3 from nI_pred 3]
  refine ar_goto (tgt := 23) (pc := 13) dX1_takeBack_13 (by decide) ?_
  refine ar_istore_n (i := 2) (pc := 23) dX1_takeBack_23 rfl (Nat.le_of_ble_eq_true rfl) rfl ?_
  refine ar_aload_n (i := 0) (pc := 24) dX1_takeBack_24 rfl rfl ?_
  refine ar_getf (pc := 25) dX1_takeBack_25 fX1_26 rfl rfl ?_
  refine ar_iconst (pc := 28) dX1_takeBack_28 q_iconst_1 ?_
  refine ar_icmp_lt (pc := 29) (tgt := 50) dX1_takeBack_29 (by decide) (fun c29 => False.elim (by (simp (disch := omega) only [Int32.lt_iff_toInt_lt, Int32.le_iff_toInt_le, ← Int32.toInt_inj, ti_m6, ti_m1, ti_0, ti_1, ti_2, ti_3, ti_4, ti_5, ti_6, ti_7, ti_8, ti_9, ti_12, ti_100, ti_9999, ti_60, nI_toInt] at c29) <;> omega)) (fun c29 => ?_)
  refine ar_iload_n (i := 2) (pc := 32) dX1_takeBack_32 rfl rfl ?_
  refine ar_aload_n (i := 0) (pc := 33) dX1_takeBack_33 rfl rfl ?_
  refine ar_getf (pc := 34) dX1_takeBack_34 fX1_11 rfl rfl ?_
  refine ar_alenq (pc := 37) dX1_takeBack_37 rfl ?_
  rw [len6]
  refine ar_icmp_ge (pc := 38) (tgt := 50) dX1_takeBack_38 (by decide) (fun c38 => False.elim (by (simp (disch := omega) only [Int32.lt_iff_toInt_lt, Int32.le_iff_toInt_le, ← Int32.toInt_inj, ti_m6, ti_m1, ti_0, ti_1, ti_2, ti_3, ti_4, ti_5, ti_6, ti_7, ti_8, ti_9, ti_12, ti_100, ti_9999, ti_60, nI_toInt] at c38) <;> omega)) (fun c38 => ?_)
  refine ar_aload_n (i := 0) (pc := 41) dX1_takeBack_41 rfl rfl ?_
  refine ar_getf (pc := 42) dX1_takeBack_42 fX1_11 rfl rfl ?_
  refine ar_iload_n (i := 2) (pc := 45) dX1_takeBack_45 rfl rfl ?_
  refine ar_aald (pc := 46) dX1_takeBack_46 rfl rfl rfl ?_
  refine ar_ifnonnull (pc := 47) (tgt := 51) dX1_takeBack_47 (by decide) ?_
  refine ar_aload_n (i := 1) (pc := 51) dX1_takeBack_51 rfl rfl ?_
  refine ar_aload_n (i := 0) (pc := 52) dX1_takeBack_52 rfl rfl ?_
  refine ar_getf (pc := 53) dX1_takeBack_53 fX1_11 rfl rfl ?_
  refine ar_iload_n (i := 2) (pc := 56) dX1_takeBack_56 rfl rfl ?_
  refine ar_aald (pc := 57) dX1_takeBack_57 rfl rfl rfl ?_
  refine ar_mc (pc := 58) (l := [0, 1, 52, 53, 54, 55, 56, 57, 58, 59, 28, 29, 30, 31, 32, 33, 34, 35]) (ar_rV dX1_takeBack_58 cal_X3_copyFrom kX1_22 rfl (sX3_copyFrom v u) rfl rfl rfl rfl rfl oktb_3 rfl rfl) oktb_3 rfl rfl rfl rfl (fun r h1 hp => ?_)
  obtain ⟨rfl, rfl⟩ := hp
  refine ⟨rfl, ?_⟩
  rw [mrgt_3]
  refine ar_aload_n (i := 0) (pc := 61) dX1_takeBack_61 rfl rfl ?_
  refine ar_iload_n (i := 2) (pc := 62) dX1_takeBack_62 rfl rfl ?_
  refine ar_putf (pc := 63) dX1_takeBack_63 fX1_17 rfl (Nat.le_of_ble_eq_true rfl) (fun _ => ⟨rfl, rfl⟩) ?_
  refine ar_aload_n (i := 0) (pc := 66) dX1_takeBack_66 rfl rfl ?_
  refine ar_dup (pc := 67) dX1_takeBack_67 rfl ?_
  refine ar_getf (pc := 68) dX1_takeBack_68 fX1_26 rfl rfl ?_
  refine ar_iconst (pc := 71) dX1_takeBack_71 q_iconst_1 ?_
  refine ar_isub (pc := 72) dX1_takeBack_72 ?_
  rw [nI_pred]
  refine ar_putf (pc := 73) dX1_takeBack_73 fX1_26 rfl (Nat.le_of_ble_eq_true rfl) (fun _ => ⟨rfl, rfl⟩) ?_
  exact ar_vret (pc := 76) dX1_takeBack_76 rfl rfl rfl ⟨rfl, rfl⟩

set_option maxHeartbeats 4000000 in
set_option maxRecDepth 100000 in
theorem sX1_takeBack_5 (w : Bool) (ff : Nat → Int32) (o0 o1 o2 o3 o5 : Option SV) (u : SV) (m : Nat) (hm : m < 6) (v : SV) : am_Sp mX1_takeBack [.ref 2, .ref 52] (hy6 w ff o0 o1 o2 o3 (some u) o5 (nI 5) (nI (m + 1)) v) (am_vp (hy6 w ff o0 o1 o2 o3 (some u) o5 (nI 4) (nI m) u)) := by
  refine am_intro (by decide) (Nat.le_of_ble_eq_true rfl) ?_
  refine ar_aload_n (i := 0) (pc := 0) dX1_takeBack_0 rfl rfl ?_
  refine ar_getf (pc := 1) dX1_takeBack_1 fX1_17 rfl rfl ?_
  refine ar_if_le (pc := 4) (tgt := 16) dX1_takeBack_4 (by decide) (fun c4 => False.elim (by (simp (disch := omega) only [Int32.lt_iff_toInt_lt, Int32.le_iff_toInt_le, ← Int32.toInt_inj, ti_m6, ti_m1, ti_0, ti_1, ti_2, ti_3, ti_4, ti_5, ti_6, ti_7, ti_8, ti_9, ti_12, ti_100, ti_9999, ti_60, nI_toInt] at c4) <;> omega)) (fun c4 => ?_)
  refine ar_aload_n (i := 0) (pc := 7) dX1_takeBack_7 rfl rfl ?_
  refine ar_getf (pc := 8) dX1_takeBack_8 fX1_17 rfl rfl ?_
  refine ar_iconst (pc := 11) dX1_takeBack_11 q_iconst_1 ?_
  refine ar_isub (pc := 12) dX1_takeBack_12 ?_
  rw [show nI 5 - 1 = nI 4 from nI_pred 4]
  refine ar_goto (tgt := 23) (pc := 13) dX1_takeBack_13 (by decide) ?_
  refine ar_istore_n (i := 2) (pc := 23) dX1_takeBack_23 rfl (Nat.le_of_ble_eq_true rfl) rfl ?_
  refine ar_aload_n (i := 0) (pc := 24) dX1_takeBack_24 rfl rfl ?_
  refine ar_getf (pc := 25) dX1_takeBack_25 fX1_26 rfl rfl ?_
  refine ar_iconst (pc := 28) dX1_takeBack_28 q_iconst_1 ?_
  refine ar_icmp_lt (pc := 29) (tgt := 50) dX1_takeBack_29 (by decide) (fun c29 => False.elim (by (simp (disch := omega) only [Int32.lt_iff_toInt_lt, Int32.le_iff_toInt_le, ← Int32.toInt_inj, ti_m6, ti_m1, ti_0, ti_1, ti_2, ti_3, ti_4, ti_5, ti_6, ti_7, ti_8, ti_9, ti_12, ti_100, ti_9999, ti_60, nI_toInt] at c29) <;> omega)) (fun c29 => ?_)
  refine ar_iload_n (i := 2) (pc := 32) dX1_takeBack_32 rfl rfl ?_
  refine ar_aload_n (i := 0) (pc := 33) dX1_takeBack_33 rfl rfl ?_
  refine ar_getf (pc := 34) dX1_takeBack_34 fX1_11 rfl rfl ?_
  refine ar_alenq (pc := 37) dX1_takeBack_37 rfl ?_
  rw [len6]
  refine ar_icmp_ge (pc := 38) (tgt := 50) dX1_takeBack_38 (by decide) (fun c38 => False.elim (by (simp (disch := omega) only [Int32.lt_iff_toInt_lt, Int32.le_iff_toInt_le, ← Int32.toInt_inj, ti_m6, ti_m1, ti_0, ti_1, ti_2, ti_3, ti_4, ti_5, ti_6, ti_7, ti_8, ti_9, ti_12, ti_100, ti_9999, ti_60, nI_toInt] at c38) <;> omega)) (fun c38 => ?_)
  refine ar_aload_n (i := 0) (pc := 41) dX1_takeBack_41 rfl rfl ?_
  refine ar_getf (pc := 42) dX1_takeBack_42 fX1_11 rfl rfl ?_
  refine ar_iload_n (i := 2) (pc := 45) dX1_takeBack_45 rfl rfl ?_
  refine ar_aald (pc := 46) dX1_takeBack_46 rfl rfl rfl ?_
  refine ar_ifnonnull (pc := 47) (tgt := 51) dX1_takeBack_47 (by decide) ?_
  refine ar_aload_n (i := 1) (pc := 51) dX1_takeBack_51 rfl rfl ?_
  refine ar_aload_n (i := 0) (pc := 52) dX1_takeBack_52 rfl rfl ?_
  refine ar_getf (pc := 53) dX1_takeBack_53 fX1_11 rfl rfl ?_
  refine ar_iload_n (i := 2) (pc := 56) dX1_takeBack_56 rfl rfl ?_
  refine ar_aald (pc := 57) dX1_takeBack_57 rfl rfl rfl ?_
  refine ar_mc (pc := 58) (l := [0, 1, 52, 53, 54, 55, 56, 57, 58, 59, 36, 37, 38, 39, 40, 41, 42, 43]) (ar_rV dX1_takeBack_58 cal_X3_copyFrom kX1_22 rfl (sX3_copyFrom v u) rfl rfl rfl rfl rfl oktb_4 rfl rfl) oktb_4 rfl rfl rfl rfl (fun r h1 hp => ?_)
  obtain ⟨rfl, rfl⟩ := hp
  refine ⟨rfl, ?_⟩
  rw [mrgt_4]
  refine ar_aload_n (i := 0) (pc := 61) dX1_takeBack_61 rfl rfl ?_
  refine ar_iload_n (i := 2) (pc := 62) dX1_takeBack_62 rfl rfl ?_
  refine ar_putf (pc := 63) dX1_takeBack_63 fX1_17 rfl (Nat.le_of_ble_eq_true rfl) (fun _ => ⟨rfl, rfl⟩) ?_
  refine ar_aload_n (i := 0) (pc := 66) dX1_takeBack_66 rfl rfl ?_
  refine ar_dup (pc := 67) dX1_takeBack_67 rfl ?_
  refine ar_getf (pc := 68) dX1_takeBack_68 fX1_26 rfl rfl ?_
  refine ar_iconst (pc := 71) dX1_takeBack_71 q_iconst_1 ?_
  refine ar_isub (pc := 72) dX1_takeBack_72 ?_
  rw [nI_pred]
  refine ar_putf (pc := 73) dX1_takeBack_73 fX1_26 rfl (Nat.le_of_ble_eq_true rfl) (fun _ => ⟨rfl, rfl⟩) ?_
  exact ar_vret (pc := 76) dX1_takeBack_76 rfl rfl rfl ⟨rfl, rfl⟩
