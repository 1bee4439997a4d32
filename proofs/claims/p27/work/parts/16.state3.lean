/-! the class State: methods that write; rows that are copied -/
set_option maxHeartbeats 4000000 in
set_option maxRecDepth 100000 in
theorem sX6_isPitchB (h : am_H) (b : Int32) : am_Sp mX6_isPitch [.int b] (h) (am_bp (0 ≤ b.toInt ∧ b.toInt < 12) h) := by
  refine am_intro (by decide) (Nat.le_of_ble_eq_true rfl) ?_
  refine ar_iload_n (i := 0) (pc := 0) dX6_isPitch_0 rfl rfl ?_
  refine ar_if_lt (pc := 1) (tgt := 14) dX6_isPitch_1 (by decide) (fun c1 => ?_) (fun c1 => ?_)
  · refine ar_iconst (pc := 14) dX6_isPitch_14 q_iconst_0 ?_
    first
      | exact ar_zret (pc := 15) dX6_isPitch_15 rfl (Or.inr rfl) rfl rfl ⟨Or.inl ⟨by (simp (disch := omega) only [Int32.lt_iff_toInt_lt, Int32.le_iff_toInt_le, ← Int32.toInt_inj, ti_m6, ti_m1, ti_0, ti_1, ti_2, ti_3, ti_4, ti_5, ti_6, ti_7, ti_8, ti_9, ti_12, ti_100, ti_9999, ti_60, nI_toInt] at *) <;> omega, rfl⟩, rfl⟩
      | exact ar_zret (pc := 15) dX6_isPitch_15 rfl (Or.inl rfl) rfl rfl ⟨Or.inr ⟨by (simp (disch := omega) only [Int32.lt_iff_toInt_lt, Int32.le_iff_toInt_le, ← Int32.toInt_inj, ti_m6, ti_m1, ti_0, ti_1, ti_2, ti_3, ti_4, ti_5, ti_6, ti_7, ti_8, ti_9, ti_12, ti_100, ti_9999, ti_60, nI_toInt] at *) <;> omega, rfl⟩, rfl⟩
  · refine ar_iload_n (i := 0) (pc := 4) dX6_isPitch_4 rfl rfl ?_
    refine ar_bipush (pc := 5) dX6_isPitch_5 q_bipush_12 ?_
    refine ar_icmp_ge (pc := 7) (tgt := 14) dX6_isPitch_7 (by decide) (fun c7 => ?_) (fun c7 => ?_)
    · refine ar_iconst (pc := 14) dX6_isPitch_14 q_iconst_0 ?_
      first
        | exact ar_zret (pc := 15) dX6_isPitch_15 rfl (Or.inr rfl) rfl rfl ⟨Or.inl ⟨by (simp (disch := omega) only [Int32.lt_iff_toInt_lt, Int32.le_iff_toInt_le, ← Int32.toInt_inj, ti_m6, ti_m1, ti_0, ti_1, ti_2, ti_3, ti_4, ti_5, ti_6, ti_7, ti_8, ti_9, ti_12, ti_100, ti_9999, ti_60, nI_toInt] at *) <;> omega, rfl⟩, rfl⟩
        | exact ar_zret (pc := 15) dX6_isPitch_15 rfl (Or.inl rfl) rfl rfl ⟨Or.inr ⟨by (simp (disch := omega) only [Int32.lt_iff_toInt_lt, Int32.le_iff_toInt_le, ← Int32.toInt_inj, ti_m6, ti_m1, ti_0, ti_1, ti_2, ti_3, ti_4, ti_5, ti_6, ti_7, ti_8, ti_9, ti_12, ti_100, ti_9999, ti_60, nI_toInt] at *) <;> omega, rfl⟩, rfl⟩
    · refine ar_iconst (pc := 10) dX6_isPitch_10 q_iconst_1 ?_
      refine ar_goto (tgt := 15) (pc := 11) dX6_isPitch_11 (by decide) ?_
      first
        | exact ar_zret (pc := 15) dX6_isPitch_15 rfl (Or.inr rfl) rfl rfl ⟨Or.inl ⟨by (simp (disch := omega) only [Int32.lt_iff_toInt_lt, Int32.le_iff_toInt_le, ← Int32.toInt_inj, ti_m6, ti_m1, ti_0, ti_1, ti_2, ti_3, ti_4, ti_5, ti_6, ti_7, ti_8, ti_9, ti_12, ti_100, ti_9999, ti_60, nI_toInt] at *) <;> omega, rfl⟩, rfl⟩
        | exact ar_zret (pc := 15) dX6_isPitch_15 rfl (Or.inl rfl) rfl rfl ⟨Or.inr ⟨by (simp (disch := omega) only [Int32.lt_iff_toInt_lt, Int32.le_iff_toInt_le, ← Int32.toInt_inj, ti_m6, ti_m1, ti_0, ti_1, ti_2, ti_3, ti_4, ti_5, ti_6, ti_7, ti_8, ti_9, ti_12, ti_100, ti_9999, ti_60, nI_toInt] at *) <;> omega, rfl⟩, rfl⟩

set_option maxHeartbeats 4000000 in
set_option maxRecDepth 100000 in
theorem sX6_isHeightB (h : am_H) (b : Int32) : am_Sp mX6_isHeight [.int b] (h) (am_bp (1 ≤ b.toInt ∧ b.toInt ≤ 9) h) := by
  refine am_intro (by decide) (Nat.le_of_ble_eq_true rfl) ?_
  refine ar_iload_n (i := 0) (pc := 0) dX6_isHeight_0 rfl rfl ?_
  refine ar_iconst (pc := 1) dX6_isHeight_1 q_iconst_1 ?_
  refine ar_icmp_lt (pc := 2) (tgt := 15) dX6_isHeight_2 (by decide) (fun c2 => ?_) (fun c2 => ?_)
  · refine ar_iconst (pc := 15) dX6_isHeight_15 q_iconst_0 ?_
    first
      | exact ar_zret (pc := 16) dX6_isHeight_16 rfl (Or.inr rfl) rfl rfl ⟨Or.inl ⟨by (simp (disch := omega) only [Int32.lt_iff_toInt_lt, Int32.le_iff_toInt_le, ← Int32.toInt_inj, ti_m6, ti_m1, ti_0, ti_1, ti_2, ti_3, ti_4, ti_5, ti_6, ti_7, ti_8, ti_9, ti_12, ti_100, ti_9999, ti_60, nI_toInt] at *) <;> omega, rfl⟩, rfl⟩
      | exact ar_zret (pc := 16) dX6_isHeight_16 rfl (Or.inl rfl) rfl rfl ⟨Or.inr ⟨by (simp (disch := omega) only [Int32.lt_iff_toInt_lt, Int32.le_iff_toInt_le, ← Int32.toInt_inj, ti_m6, ti_m1, ti_0, ti_1, ti_2, ti_3, ti_4, ti_5, ti_6, ti_7, ti_8, ti_9, ti_12, ti_100, ti_9999, ti_60, nI_toInt] at *) <;> omega, rfl⟩, rfl⟩
  · refine ar_iload_n (i := 0) (pc := 5) dX6_isHeight_5 rfl rfl ?_
    refine ar_bipush (pc := 6) dX6_isHeight_6 q_bipush_9 ?_
    refine ar_icmp_gt (pc := 8) (tgt := 15) dX6_isHeight_8 (by decide) (fun c8 => ?_) (fun c8 => ?_)
    · refine ar_iconst (pc := 15) dX6_isHeight_15 q_iconst_0 ?_
      first
        | exact ar_zret (pc := 16) dX6_isHeight_16 rfl (Or.inr rfl) rfl rfl ⟨Or.inl ⟨by (simp (disch := omega) only [Int32.lt_iff_toInt_lt, Int32.le_iff_toInt_le, ← Int32.toInt_inj, ti_m6, ti_m1, ti_0, ti_1, ti_2, ti_3, ti_4, ti_5, ti_6, ti_7, ti_8, ti_9, ti_12, ti_100, ti_9999, ti_60, nI_toInt] at *) <;> omega, rfl⟩, rfl⟩
        | exact ar_zret (pc := 16) dX6_isHeight_16 rfl (Or.inl rfl) rfl rfl ⟨Or.inr ⟨by (simp (disch := omega) only [Int32.lt_iff_toInt_lt, Int32.le_iff_toInt_le, ← Int32.toInt_inj, ti_m6, ti_m1, ti_0, ti_1, ti_2, ti_3, ti_4, ti_5, ti_6, ti_7, ti_8, ti_9, ti_12, ti_100, ti_9999, ti_60, nI_toInt] at *) <;> omega, rfl⟩, rfl⟩
    · refine ar_iconst (pc := 11) dX6_isHeight_11 q_iconst_1 ?_
      refine ar_goto (tgt := 16) (pc := 12) dX6_isHeight_12 (by decide) ?_
      first
        | exact ar_zret (pc := 16) dX6_isHeight_16 rfl (Or.inr rfl) rfl rfl ⟨Or.inl ⟨by (simp (disch := omega) only [Int32.lt_iff_toInt_lt, Int32.le_iff_toInt_le, ← Int32.toInt_inj, ti_m6, ti_m1, ti_0, ti_1, ti_2, ti_3, ti_4, ti_5, ti_6, ti_7, ti_8, ti_9, ti_12, ti_100, ti_9999, ti_60, nI_toInt] at *) <;> omega, rfl⟩, rfl⟩
        | exact ar_zret (pc := 16) dX6_isHeight_16 rfl (Or.inl rfl) rfl rfl ⟨Or.inr ⟨by (simp (disch := omega) only [Int32.lt_iff_toInt_lt, Int32.le_iff_toInt_le, ← Int32.toInt_inj, ti_m6, ti_m1, ti_0, ti_1, ti_2, ti_3, ti_4, ti_5, ti_6, ti_7, ti_8, ti_9, ti_12, ti_100, ti_9999, ti_60, nI_toInt] at *) <;> omega, rfl⟩, rfl⟩

theorem st_H (v : SV) (f : Nat → Int32) : (stH v).set 4 (some (am_ia 8 f)) = stH (uH v f) := by simp only [stH, stB, stO, am_oj, List.set_cons_succ, List.set_cons_zero, uS, uX, uRo, uDa, uRa, uTa, uBo, uH, uP, uT, uF, uI, uL, vS, vX, vRo, vDa, vRa, vTa, vBo, vH, vP, vT, vF, vI, vL]
theorem st_P (v : SV) (f : Nat → Int32) : (stH v).set 5 (some (am_ia 8 f)) = stH (uP v f) := by simp only [stH, stB, stO, am_oj, List.set_cons_succ, List.set_cons_zero, uS, uX, uRo, uDa, uRa, uTa, uBo, uH, uP, uT, uF, uI, uL, vS, vX, vRo, vDa, vRa, vTa, vBo, vH, vP, vT, vF, vI, vL]
theorem st_T (v : SV) (f : Nat → Int32) : (stH v).set 6 (some (am_ia 8 f)) = stH (uT v f) := by simp only [stH, stB, stO, am_oj, List.set_cons_succ, List.set_cons_zero, uS, uX, uRo, uDa, uRa, uTa, uBo, uH, uP, uT, uF, uI, uL, vS, vX, vRo, vDa, vRa, vTa, vBo, vH, vP, vT, vF, vI, vL]
theorem st_F (v : SV) (f : Nat → Int32) : (stH v).set 7 (some (am_ia 8 f)) = stH (uF v f) := by simp only [stH, stB, stO, am_oj, List.set_cons_succ, List.set_cons_zero, uS, uX, uRo, uDa, uRa, uTa, uBo, uH, uP, uT, uF, uI, uL, vS, vX, vRo, vDa, vRa, vTa, vBo, vH, vP, vT, vF, vI, vL]
theorem st_I (v : SV) (f : Nat → Int32) : (stH v).set 8 (some (am_ia 8 f)) = stH (uI v f) := by simp only [stH, stB, stO, am_oj, List.set_cons_succ, List.set_cons_zero, uS, uX, uRo, uDa, uRa, uTa, uBo, uH, uP, uT, uF, uI, uL, vS, vX, vRo, vDa, vRa, vTa, vBo, vH, vP, vT, vF, vI, vL]
theorem st_L (v : SV) (f : Nat → Int32) : (stH v).set 9 (some (am_ia 8 f)) = stH (uL v f) := by simp only [stH, stB, stO, am_oj, List.set_cons_succ, List.set_cons_zero, uS, uX, uRo, uDa, uRa, uTa, uBo, uH, uP, uT, uF, uI, uL, vS, vX, vRo, vDa, vRa, vTa, vBo, vH, vP, vT, vF, vI, vL]
theorem st_Bo (v : SV) (a : Int32) : (stH v).set 2 (some (.inl (2, ([.ref 3, .long (vX v), .int (vRo v), .int (vDa v), .int (vRa v), .int (vTa v), .int (vBo v), .ref 4, .ref 5, .ref 6, .ref 7, .ref 8, .ref 9] : List Value).set 6 (.int a)))) = stH (uBo v a) := by simp only [stH, stB, stO, am_oj, List.set_cons_succ, List.set_cons_zero, uS, uX, uRo, uDa, uRa, uTa, uBo, uH, uP, uT, uF, uI, uL, vS, vX, vRo, vDa, vRa, vTa, vBo, vH, vP, vT, vF, vI, vL]
theorem vu_S (v : SV) (a) : vS (uS v a) = a := rfl
theorem vu_X (v : SV) (a) : vX (uX v a) = a := rfl
theorem vu_Ro (v : SV) (a) : vRo (uRo v a) = a := rfl
theorem vu_Da (v : SV) (a) : vDa (uDa v a) = a := rfl
theorem vu_Ra (v : SV) (a) : vRa (uRa v a) = a := rfl
theorem vu_Ta (v : SV) (a) : vTa (uTa v a) = a := rfl
theorem vu_Bo (v : SV) (a) : vBo (uBo v a) = a := rfl
theorem vu_H (v : SV) (a) : vH (uH v a) = a := rfl
theorem uu_P (v : SV) (a b) : uP (uP v a) b = uP v b := rfl
theorem vu_P (v : SV) (a) : vP (uP v a) = a := rfl
theorem vu_T (v : SV) (a) : vT (uT v a) = a := rfl
theorem vu_F (v : SV) (a) : vF (uF v a) = a := rfl
theorem vu_I (v : SV) (a) : vI (uI v a) = a := rfl
theorem uu_L (v : SV) (a b) : uL (uL v a) b = uL v b := rfl
theorem vu_L (v : SV) (a) : vL (uL v a) = a := rfl
set_option maxHeartbeats 4000000 in
set_option maxRecDepth 100000 in
theorem sX3_setting (v : SV) {k : Nat} (hk : k < 6) : am_Sp mX3_setting [.ref 2, .int (nI k)] (stH v) (am_rp (vS v k) (stH v)) := by
  refine am_intro (by decide) (Nat.le_of_ble_eq_true rfl) ?_
  refine ar_iload_n (i := 1) (pc := 0) dX3_setting_0 rfl rfl ?_
  refine ar_if_lt (pc := 1) (tgt := 22) dX3_setting_1 (by decide) (fun c1 => False.elim (by (simp (disch := omega) only [Int32.lt_iff_toInt_lt, Int32.le_iff_toInt_le, ← Int32.toInt_inj, ti_m6, ti_m1, ti_0, ti_1, ti_2, ti_3, ti_4, ti_5, ti_6, ti_7, ti_8, ti_9, ti_12, ti_100, ti_9999, ti_60, nI_toInt] at c1) <;> omega)) (fun c1 => ?_)
  refine ar_iload_n (i := 1) (pc := 4) dX3_setting_4 rfl rfl ?_
  refine ar_aload_n (i := 0) (pc := 5) dX3_setting_5 rfl rfl ?_
  refine ar_getf (pc := 6) dX3_setting_6 fX3_13 rfl rfl ?_
  refine ar_alen (pc := 9) dX3_setting_9 rfl ?_
  refine ar_icmp_ge (pc := 10) (tgt := 22) dX3_setting_10 (by decide) (fun c10 => False.elim (by (simp (disch := omega) only [Int32.lt_iff_toInt_lt, Int32.le_iff_toInt_le, ← Int32.toInt_inj, ti_m6, ti_m1, ti_0, ti_1, ti_2, ti_3, ti_4, ti_5, ti_6, ti_7, ti_8, ti_9, ti_12, ti_100, ti_9999, ti_60, nI_toInt] at c10) <;> omega)) (fun c10 => ?_)
  refine ar_aload_n (i := 0) (pc := 13) dX3_setting_13 rfl rfl ?_
  refine ar_getf (pc := 14) dX3_setting_14 fX3_13 rfl rfl ?_
  refine ar_iload_n (i := 1) (pc := 17) dX3_setting_17 rfl rfl ?_
  refine ar_iald (pc := 18) dX3_setting_18 rfl hk rfl ?_
  refine ar_goto (tgt := 23) (pc := 19) dX3_setting_19 (by decide) ?_
  exact ar_iret (pc := 23) dX3_setting_23 rfl rfl rfl ⟨rfl, rfl⟩

set_option maxHeartbeats 4000000 in
set_option maxRecDepth 100000 in
theorem sX3_changeSetting (v : SV) {k : Nat} (hk : k < 6) (a : Int32) : am_Sp mX3_changeSetting [.ref 2, .int (nI k), .int a] (stH v) (am_vp (stH (uS v (upd (vS v) k a)))) := by
  refine am_intro (by decide) (Nat.le_of_ble_eq_true rfl) ?_
  refine ar_iload_n (i := 1) (pc := 0) dX3_changeSetting_0 rfl rfl ?_
  refine ar_if_lt (pc := 1) (tgt := 20) dX3_changeSetting_1 (by decide) (fun c1 => False.elim (by (simp (disch := omega) only [Int32.lt_iff_toInt_lt, Int32.le_iff_toInt_le, ← Int32.toInt_inj, ti_m6, ti_m1, ti_0, ti_1, ti_2, ti_3, ti_4, ti_5, ti_6, ti_7, ti_8, ti_9, ti_12, ti_100, ti_9999, ti_60, nI_toInt] at c1) <;> omega)) (fun c1 => ?_)
  refine ar_iload_n (i := 1) (pc := 4) dX3_changeSetting_4 rfl rfl ?_
  refine ar_aload_n (i := 0) (pc := 5) dX3_changeSetting_5 rfl rfl ?_
  refine ar_getf (pc := 6) dX3_changeSetting_6 fX3_13 rfl rfl ?_
  refine ar_alen (pc := 9) dX3_changeSetting_9 rfl ?_
  refine ar_icmp_ge (pc := 10) (tgt := 20) dX3_changeSetting_10 (by decide) (fun c10 => False.elim (by (simp (disch := omega) only [Int32.lt_iff_toInt_lt, Int32.le_iff_toInt_le, ← Int32.toInt_inj, ti_m6, ti_m1, ti_0, ti_1, ti_2, ti_3, ti_4, ti_5, ti_6, ti_7, ti_8, ti_9, ti_12, ti_100, ti_9999, ti_60, nI_toInt] at c10) <;> omega)) (fun c10 => ?_)
  refine ar_aload_n (i := 0) (pc := 13) dX3_changeSetting_13 rfl rfl ?_
  refine ar_getf (pc := 14) dX3_changeSetting_14 fX3_13 rfl rfl ?_
  refine ar_iload_n (i := 1) (pc := 17) dX3_changeSetting_17 rfl rfl ?_
  refine ar_iload_n (i := 2) (pc := 18) dX3_changeSetting_18 rfl rfl ?_
  refine ar_iast (pc := 19) dX3_changeSetting_19 rfl hk rfl ?_
  exact ar_vret (pc := 20) dX3_changeSetting_20 rfl rfl rfl ⟨rfl, rfl⟩

abbrev rfP (ro : Int32) (k : Nat) : Prop := (ro >>> (nI k &&& 31)) &&& 1 = 1
set_option maxHeartbeats 4000000 in
set_option maxRecDepth 100000 in
theorem sX3_isRoofed (v : SV) {k : Nat} (hk : k < 12) : am_Sp mX3_isRoofed [.ref 2, .int (nI k)] (stH v) (am_bp (rfP (vRo v) k) (stH v)) := by
  refine am_intro (by decide) (Nat.le_of_ble_eq_true rfl) ?_
  refine ar_iload_n (i := 1) (pc := 0) dX3_isRoofed_0 rfl rfl ?_
  refine ar_idSN (pc := 1) dX3_isRoofed_1 cal_X6_isPitch kX3_63 rfl (sX6_isPitchB (stH v) _) rfl rfl rfl rfl rfl (fun r h1 hp => ?_)
  obtain ⟨⟨h1, rfl⟩ | ⟨h1, rfl⟩, rfl⟩ := hp
  · refine ⟨rfl, ?_⟩
    refine ar_if_eq (pc := 4) (tgt := 23) dX3_isRoofed_4 (by decide) (fun c4 => absurd c4 (by decide)) (fun c4 => ?_)
    refine ar_aload_n (i := 0) (pc := 7) dX3_isRoofed_7 rfl rfl ?_
    refine ar_getf (pc := 8) dX3_isRoofed_8 fX3_22 rfl rfl ?_
    refine ar_iload_n (i := 1) (pc := 11) dX3_isRoofed_11 rfl rfl ?_
    refine ar_ishr (pc := 12) dX3_isRoofed_12 ?_
    refine ar_iconst (pc := 13) dX3_isRoofed_13 q_iconst_1 ?_
    refine ar_iand (pc := 14) dX3_isRoofed_14 ?_
    refine ar_iconst (pc := 15) dX3_isRoofed_15 q_iconst_1 ?_
    refine ar_icmp_ne (pc := 16) (tgt := 23) dX3_isRoofed_16 (by decide) (fun c16 => ?_) (fun c16 => ?_)
    · refine ar_iconst (pc := 23) dX3_isRoofed_23 q_iconst_0 ?_
      first
        | exact ar_zret (pc := 24) dX3_isRoofed_24 rfl (Or.inr rfl) rfl rfl ⟨Or.inl ⟨c16, rfl⟩, rfl⟩
        | exact ar_zret (pc := 24) dX3_isRoofed_24 rfl (Or.inl rfl) rfl rfl ⟨Or.inr ⟨(fun z => by first | exact c16 z | exact h1 (by (simp (disch := omega) only [Int32.lt_iff_toInt_lt, Int32.le_iff_toInt_le, ← Int32.toInt_inj, ti_m6, ti_m1, ti_0, ti_1, ti_2, ti_3, ti_4, ti_5, ti_6, ti_7, ti_8, ti_9, ti_12, ti_100, ti_9999, ti_60, nI_toInt] at ⊢); omega)), rfl⟩, rfl⟩
    · refine ar_iconst (pc := 19) dX3_isRoofed_19 q_iconst_1 ?_
      refine ar_goto (tgt := 24) (pc := 20) dX3_isRoofed_20 (by decide) ?_
      first
        | exact ar_zret (pc := 24) dX3_isRoofed_24 rfl (Or.inr rfl) rfl rfl ⟨Or.inl ⟨c16, rfl⟩, rfl⟩
        | exact ar_zret (pc := 24) dX3_isRoofed_24 rfl (Or.inl rfl) rfl rfl ⟨Or.inr ⟨(fun z => by first | exact c16 z | exact h1 (by (simp (disch := omega) only [Int32.lt_iff_toInt_lt, Int32.le_iff_toInt_le, ← Int32.toInt_inj, ti_m6, ti_m1, ti_0, ti_1, ti_2, ti_3, ti_4, ti_5, ti_6, ti_7, ti_8, ti_9, ti_12, ti_100, ti_9999, ti_60, nI_toInt] at ⊢); omega)), rfl⟩, rfl⟩
  · refine ⟨rfl, ?_⟩
    refine ar_if_eq (pc := 4) (tgt := 23) dX3_isRoofed_4 (by decide) (fun c4 => ?_) (fun c4 => absurd c4 (by decide))
    refine ar_iconst (pc := 23) dX3_isRoofed_23 q_iconst_0 ?_
    first
      | exact ar_zret (pc := 24) dX3_isRoofed_24 rfl (Or.inr rfl) rfl rfl ⟨Or.inl ⟨c16, rfl⟩, rfl⟩
      | exact ar_zret (pc := 24) dX3_isRoofed_24 rfl (Or.inl rfl) rfl rfl ⟨Or.inr ⟨(fun z => by first | exact c16 z | exact h1 (by (simp (disch := omega) only [Int32.lt_iff_toInt_lt, Int32.le_iff_toInt_le, ← Int32.toInt_inj, ti_m6, ti_m1, ti_0, ti_1, ti_2, ti_3, ti_4, ti_5, ti_6, ti_7, ti_8, ti_9, ti_12, ti_100, ti_9999, ti_60, nI_toInt] at ⊢); omega)), rfl⟩, rfl⟩

def adB (v : SV) (n : Nat) (a b : Int32) : SV := uBo (uI (uF (uT (uP (uH v (upd (vH v) n a)) (upd (vP v) n b)) (upd (vT v) n 0)) (upd (vF v) n 0)) (upd (vI v) n 0)) (nI (n + 1))
set_option maxHeartbeats 4000000 in
set_option maxRecDepth 100000 in
theorem sX3_addBooth (v : SV) (n : Nat) (hn : vBo v = nI n) (h8 : n < 8) (a b : Int32) : am_Sp mX3_addBooth [.ref 2, .int a, .int b] (stH v) (am_vp (stH (adB v n a b))) := by
  refine am_intro (by decide) (Nat.le_of_ble_eq_true rfl) ?_
  refine ar_aload_n (i := 0) (pc := 0) dX3_addBooth_0 rfl rfl ?_
  refine ar_getf (pc := 1) dX3_addBooth_1 fX3_60 rfl rfl ?_
  refine ar_if_lt (pc := 4) (tgt := 16) dX3_addBooth_4 (by decide) (fun c4 => False.elim (by (simp (disch := omega) only [Int32.lt_iff_toInt_lt, Int32.le_iff_toInt_le, ← Int32.toInt_inj, ti_m6, ti_m1, ti_0, ti_1, ti_2, ti_3, ti_4, ti_5, ti_6, ti_7, ti_8, ti_9, ti_12, ti_100, ti_9999, ti_60, nI_toInt, hn] at c4) <;> omega)) (fun c4 => ?_)
  refine ar_aload_n (i := 0) (pc := 7) dX3_addBooth_7 rfl rfl ?_
  refine ar_getf (pc := 8) dX3_addBooth_8 fX3_60 rfl rfl ?_
  refine ar_bipush (pc := 11) dX3_addBooth_11 q_bipush_8 ?_
  refine ar_icmp_lt (pc := 13) (tgt := 17) dX3_addBooth_13 (by decide) (fun c13 => ?_) (fun c13 => False.elim (by (simp (disch := omega) only [Int32.lt_iff_toInt_lt, Int32.le_iff_toInt_le, ← Int32.toInt_inj, ti_m6, ti_m1, ti_0, ti_1, ti_2, ti_3, ti_4, ti_5, ti_6, ti_7, ti_8, ti_9, ti_12, ti_100, ti_9999, ti_60, nI_toInt, hn] at c13) <;> omega))
  refine ar_aload_n (i := 0) (pc := 17) dX3_addBooth_17 rfl rfl ?_
  refine ar_getf (pc := 18) dX3_addBooth_18 fX3_26 rfl rfl ?_
  refine ar_aload_n (i := 0) (pc := 21) dX3_addBooth_21 rfl rfl ?_
  refine ar_getf (pc := 22) dX3_addBooth_22 fX3_60 rfl rfl ?_
  refine ar_iload_n (i := 1) (pc := 25) dX3_addBooth_25 rfl rfl ?_
  refine ar_iast (pc := 26) dX3_addBooth_26 rfl h8 hn ?_
  refine ar_aload_n (i := 0) (pc := 27) dX3_addBooth_27 rfl rfl ?_
  refine ar_getf (pc := 28) dX3_addBooth_28 fX3_29 rfl rfl ?_
  refine ar_aload_n (i := 0) (pc := 31) dX3_addBooth_31 rfl rfl ?_
  refine ar_getf (pc := 32) dX3_addBooth_32 fX3_60 rfl rfl ?_
  refine ar_iload_n (i := 2) (pc := 35) dX3_addBooth_35 rfl rfl ?_
  refine ar_iast (pc := 36) dX3_addBooth_36 rfl h8 hn ?_
  refine ar_aload_n (i := 0) (pc := 37) dX3_addBooth_37 rfl rfl ?_
  refine ar_getf (pc := 38) dX3_addBooth_38 fX3_32 rfl rfl ?_
  refine ar_aload_n (i := 0) (pc := 41) dX3_addBooth_41 rfl rfl ?_
  refine ar_getf (pc := 42) dX3_addBooth_42 fX3_60 rfl rfl ?_
  refine ar_iconst (pc := 45) dX3_addBooth_45 q_iconst_0 ?_
  refine ar_iast (pc := 46) dX3_addBooth_46 rfl h8 hn ?_
  refine ar_aload_n (i := 0) (pc := 47) dX3_addBooth_47 rfl rfl ?_
  refine ar_getf (pc := 48) dX3_addBooth_48 fX3_35 rfl rfl ?_
  refine ar_aload_n (i := 0) (pc := 51) dX3_addBooth_51 rfl rfl ?_
  refine ar_getf (pc := 52) dX3_addBooth_52 fX3_60 rfl rfl ?_
  refine ar_iconst (pc := 55) dX3_addBooth_55 q_iconst_0 ?_
  refine ar_iast (pc := 56) dX3_addBooth_56 rfl h8 hn ?_
  refine ar_aload_n (i := 0) (pc := 57) dX3_addBooth_57 rfl rfl ?_
  refine ar_getf (pc := 58) dX3_addBooth_58 fX3_38 rfl rfl ?_
  refine ar_aload_n (i := 0) (pc := 61) dX3_addBooth_61 rfl rfl ?_
  refine ar_getf (pc := 62) dX3_addBooth_62 fX3_60 rfl rfl ?_
  refine ar_iconst (pc := 65) dX3_addBooth_65 q_iconst_0 ?_
  refine ar_iast (pc := 66) dX3_addBooth_66 rfl h8 hn ?_
  refine ar_aload_n (i := 0) (pc := 67) dX3_addBooth_67 rfl rfl ?_
  refine ar_dup (pc := 68) dX3_addBooth_68 rfl ?_
  refine ar_getf (pc := 69) dX3_addBooth_69 fX3_60 rfl rfl ?_
  refine ar_iconst (pc := 72) dX3_addBooth_72 q_iconst_1 ?_
  refine ar_iadd (pc := 73) dX3_addBooth_73 ?_
  refine ar_putf (pc := 74) dX3_addBooth_74 fX3_60 rfl (Nat.le_of_ble_eq_true rfl) (fun _ => ⟨rfl, rfl⟩) ?_
  exact ar_vret (pc := 77) dX3_addBooth_77 rfl rfl rfl ⟨rfl, by rw [adB, ← nI_1, ← hn]; rfl⟩

def clF (f : Nat → Int32) (j i : Nat) : Nat → Int32 := fun k => if j ≤ k ∧ k < i then f (k + 1) else f k
theorem clF_0 (f : Nat → Int32) (j : Nat) : clF f j j = f := by
  funext k
  unfold clF
  rw [if_neg (by omega)]
theorem clF_s (f : Nat → Int32) {j i : Nat} (h : j ≤ i) : upd (clF f j i) i (clF f j i (i + 1)) = clF f j (i + 1) := by
  funext k
  unfold upd clF
  rw [if_neg (show ¬ (j ≤ i + 1 ∧ i + 1 < i) by omega)]
  by_cases e : k = i
  · subst e
    rw [if_pos rfl, if_pos (by omega)]
  · rw [if_neg e]
    by_cases e2 : j ≤ k ∧ k < i
    · rw [if_pos e2, if_pos (by omega)]
    · rw [if_neg e2, if_neg (by omega)]
def ar1 (f : Nat → Int32) : am_H := [none, none, some (am_ia 8 f)]
def clU (f : Nat → Int32) (j : Nat) : Nat → Int32 := clF f j 7
set_option maxHeartbeats 4000000 in
set_option maxRecDepth 100000 in
theorem lX3_closeUp (f : Nat → Int32) (j : Nat) : ∀ (d k : Nat), k + d = 7 → j ≤ k → am_RW mX3_closeUp (ar1 f) (am_vp (ar1 (clU f j))) 0 0 6 [some (.ref 2), some (.int (nI j)), some (.int (nI k))] [] (ar1 (clF f j k)) := by
  intro d
  induction d with
  | zero =>
    intro k hk hj
    have e : k = 7 := by omega
    subst e
    refine ar_iload_n (i := 2) (pc := 6) dX3_closeUp_6 rfl rfl ?_
    refine ar_aload_n (i := 0) (pc := 7) dX3_closeUp_7 rfl rfl ?_
    refine ar_alen (pc := 8) dX3_closeUp_8 rfl ?_
    refine ar_iconst (pc := 9) dX3_closeUp_9 q_iconst_1 ?_
    refine ar_isub (pc := 10) dX3_closeUp_10 ?_
    rw [show nI 8 - (1 : Int32) = 7 by decide +kernel]
    refine ar_icmp_ge (pc := 11) (tgt := 28) dX3_closeUp_11 (by decide) (fun c11 => ?_) (fun c11 => False.elim (by (simp (disch := omega) only [Int32.lt_iff_toInt_lt, Int32.le_iff_toInt_le, ← Int32.toInt_inj, ti_m6, ti_m1, ti_0, ti_1, ti_2, ti_3, ti_4, ti_5, ti_6, ti_7, ti_8, ti_9, ti_12, ti_100, ti_9999, ti_60, nI_toInt] at c11) <;> omega))
    exact ar_vret (pc := 28) dX3_closeUp_28 rfl rfl rfl ⟨rfl, rfl⟩
  | succ d ih =>
    intro k hk hj
    refine ar_iload_n (i := 2) (pc := 6) dX3_closeUp_6 rfl rfl ?_
    refine ar_aload_n (i := 0) (pc := 7) dX3_closeUp_7 rfl rfl ?_
    refine ar_alen (pc := 8) dX3_closeUp_8 rfl ?_
    refine ar_iconst (pc := 9) dX3_closeUp_9 q_iconst_1 ?_
    refine ar_isub (pc := 10) dX3_closeUp_10 ?_
    rw [show nI 8 - (1 : Int32) = 7 by decide +kernel]
    refine ar_icmp_ge (pc := 11) (tgt := 28) dX3_closeUp_11 (by decide) (fun c11 => False.elim (by (simp (disch := omega) only [Int32.lt_iff_toInt_lt, Int32.le_iff_toInt_le, ← Int32.toInt_inj, ti_m6, ti_m1, ti_0, ti_1, ti_2, ti_3, ti_4, ti_5, ti_6, ti_7, ti_8, ti_9, ti_12, ti_100, ti_9999, ti_60, nI_toInt] at c11) <;> omega)) (fun c11 => ?_)
    refine ar_aload_n (i := 0) (pc := 14) dX3_closeUp_14 rfl rfl ?_
    refine ar_iload_n (i := 2) (pc := 15) dX3_closeUp_15 rfl rfl ?_
    refine ar_aload_n (i := 0) (pc := 16) dX3_closeUp_16 rfl rfl ?_
    refine ar_iload_n (i := 2) (pc := 17) dX3_closeUp_17 rfl rfl ?_
    refine ar_iconst (pc := 18) dX3_closeUp_18 q_iconst_1 ?_
    refine ar_iadd (pc := 19) dX3_closeUp_19 ?_
    refine ar_iald (pc := 20) dX3_closeUp_20 rfl (show k + 1 < 8 by omega) (nI_1 k) ?_
    refine ar_iast (pc := 21) dX3_closeUp_21 rfl (by omega) rfl ?_
    refine ar_iinc (pc := 22) dX3_closeUp_22 rfl (ni_inc _) (Nat.le_of_ble_eq_true rfl) rfl ?_
    refine ar_goto (tgt := 6) (pc := 25) dX3_closeUp_25 (by decide) ?_
    have ih' := ih (k + 1) (by omega) (by omega)
    rw [← clF_s f hj] at ih'
    exact ih'

theorem lX3_closeUp' (f : Nat → Int32) {j : Nat} (hj : j < 8) : am_RW mX3_closeUp (ar1 f) (am_vp (ar1 (clU f j))) 0 0 6 [some (.ref 2), some (.int (nI j)), some (.int (nI j))] [] (ar1 f) := by
  by_cases e : j = 7
  · subst e
    refine ar_iload_n (i := 2) (pc := 6) dX3_closeUp_6 rfl rfl ?_
    refine ar_aload_n (i := 0) (pc := 7) dX3_closeUp_7 rfl rfl ?_
    refine ar_alen (pc := 8) dX3_closeUp_8 rfl ?_
    refine ar_iconst (pc := 9) dX3_closeUp_9 q_iconst_1 ?_
    refine ar_isub (pc := 10) dX3_closeUp_10 ?_
    rw [show nI 8 - (1 : Int32) = 7 by decide +kernel]
    refine ar_icmp_ge (pc := 11) (tgt := 28) dX3_closeUp_11 (by decide) (fun c11 => ?_) (fun c11 => False.elim (by (simp (disch := omega) only [Int32.lt_iff_toInt_lt, Int32.le_iff_toInt_le, ← Int32.toInt_inj, ti_m6, ti_m1, ti_0, ti_1, ti_2, ti_3, ti_4, ti_5, ti_6, ti_7, ti_8, ti_9, ti_12, ti_100, ti_9999, ti_60, nI_toInt] at c11) <;> omega))
    exact ar_vret (pc := 28) dX3_closeUp_28 rfl rfl rfl ⟨rfl, by rw [clU, clF_0]⟩
  · have := lX3_closeUp f j (7 - j) j (by omega) (Nat.le_refl _)
    rw [clF_0] at this
    exact this
set_option maxHeartbeats 4000000 in
set_option maxRecDepth 100000 in
theorem sX3_closeUp (f : Nat → Int32) {j : Nat} (hj : j < 8) : am_Sp mX3_closeUp [.ref 2, .int (nI j)] (ar1 f) (am_vp (ar1 (clU f j))) := by
  refine am_intro (by decide) (Nat.le_of_ble_eq_true rfl) ?_
  refine ar_iload_n (i := 1) (pc := 0) dX3_closeUp_0 rfl rfl ?_
  refine ar_iconst (pc := 1) dX3_closeUp_1 q_iconst_0 ?_
  refine ar_max (pc := 2) dX3_closeUp_2 kX3_85 rfl rfl rfl rfl ?_
  rw [if_neg (nI_pos (show j < 2 ^ 31 by omega))]
  refine ar_istore_n (i := 2) (pc := 5) dX3_closeUp_5 rfl (Nat.le_of_ble_eq_true rfl) rfl ?_
  exact lX3_closeUp' f hj

theorem mixF_c (c : Int32) (g : Nat → Int32) (k : Nat) : upd (mixF (fun _ => c) g k) k c = mixF (fun _ => c) g (k + 1) := mixF_s (fun _ => c) g k
set_option maxHeartbeats 4000000 in
set_option maxRecDepth 100000 in
theorem lX3_forgetLots (v : SV) : ∀ (d k : Nat), k + d = 8 → am_RW mX3_forgetLots (stH v) (am_vp (stH (uL v (fun _ => -6)))) 0 0 2 [some (.ref 2), some (.int (nI k))] [] (stH (uL v (mixF (fun _ => -6) (vL v) k))) := by
  intro d
  induction d with
  | zero =>
    intro k hk
    have e : k = 8 := by omega
    subst e
    refine ar_iload_n (i := 1) (pc := 2) dX3_forgetLots_2 rfl rfl ?_
    refine ar_aload_n (i := 0) (pc := 3) dX3_forgetLots_3 rfl rfl ?_
    refine ar_getf (pc := 4) dX3_forgetLots_4 fX3_41 rfl rfl ?_
    refine ar_alen (pc := 7) dX3_forgetLots_7 rfl ?_
    refine ar_icmp_ge (pc := 8) (tgt := 25) dX3_forgetLots_8 (by decide) (fun c8 => ?_) (fun c8 => False.elim (by (simp (disch := omega) only [Int32.lt_iff_toInt_lt, Int32.le_iff_toInt_le, ← Int32.toInt_inj, ti_m6, ti_m1, ti_0, ti_1, ti_2, ti_3, ti_4, ti_5, ti_6, ti_7, ti_8, ti_9, ti_12, ti_100, ti_9999, ti_60, nI_toInt] at c8) <;> omega))
    refine ar_cong (a := 9) (fun _ => -6) rfl (fun j hj => by rw [vu_L]; simp only [mixF, hj, if_true]) ?_
    exact ar_vret (pc := 25) dX3_forgetLots_25 rfl rfl rfl ⟨rfl, by rw [st_L, uu_L]⟩
  | succ d ih =>
    intro k hk
    refine ar_iload_n (i := 1) (pc := 2) dX3_forgetLots_2 rfl rfl ?_
    refine ar_aload_n (i := 0) (pc := 3) dX3_forgetLots_3 rfl rfl ?_
    refine ar_getf (pc := 4) dX3_forgetLots_4 fX3_41 rfl rfl ?_
    refine ar_alen (pc := 7) dX3_forgetLots_7 rfl ?_
    refine ar_icmp_ge (pc := 8) (tgt := 25) dX3_forgetLots_8 (by decide) (fun c8 => False.elim (by (simp (disch := omega) only [Int32.lt_iff_toInt_lt, Int32.le_iff_toInt_le, ← Int32.toInt_inj, ti_m6, ti_m1, ti_0, ti_1, ti_2, ti_3, ti_4, ti_5, ti_6, ti_7, ti_8, ti_9, ti_12, ti_100, ti_9999, ti_60, nI_toInt] at c8) <;> omega)) (fun c8 => ?_)
    refine ar_aload_n (i := 0) (pc := 11) dX3_forgetLots_11 rfl rfl ?_
    refine ar_getf (pc := 12) dX3_forgetLots_12 fX3_41 rfl rfl ?_
    refine ar_iload_n (i := 1) (pc := 15) dX3_forgetLots_15 rfl rfl ?_
    refine ar_bipush (pc := 16) dX3_forgetLots_16 q_bipush_m6 ?_
    refine ar_iast (pc := 18) dX3_forgetLots_18 rfl (by omega) rfl ?_
    refine ar_iinc (pc := 19) dX3_forgetLots_19 rfl (ni_inc _) (Nat.le_of_ble_eq_true rfl) rfl ?_
    refine ar_goto (tgt := 2) (pc := 22) dX3_forgetLots_22 (by decide) ?_
    have ih' := ih (k + 1) (by omega)
    rw [st_L, uu_L, vu_L, mixF_c]
    exact ih'

set_option maxHeartbeats 4000000 in
set_option maxRecDepth 100000 in
theorem sX3_forgetLots (v : SV) : am_Sp mX3_forgetLots [.ref 2] (stH v) (am_vp (stH (uL v (fun _ => -6)))) := by
  refine am_intro (by decide) (Nat.le_of_ble_eq_true rfl) ?_
  refine ar_iconst (pc := 0) dX3_forgetLots_0 q_iconst_0 ?_
  refine ar_istore_n (i := 1) (pc := 1) dX3_forgetLots_1 rfl (Nat.le_of_ble_eq_true rfl) rfl ?_
  have h := lX3_forgetLots v 8 0 (by omega)
  rw [mixF_0] at h
  exact h

def lcg (x : Int64) : Int64 := x * 1103515245 + 12345 - (x * 1103515245 + 12345) / 2147483648 * 2147483648
def drw (x : Int64) (m : Nat) : Int32 := (lcg x / 65536 - lcg x / 65536 / (nI m).toInt64 * (nI m).toInt64).toInt32
theorem nI64_ne {m : Nat} (h0 : 0 < m) (h : m < 2147483648) : ¬ (nI m).toInt64 = 0 := by
  rw [nI_l (by omega)]
  intro z
  have := congrArg Int64.toInt z
  rw [lN_toInt (by omega)] at this
  have e : (0 : Int64).toInt = 0 := by decide +kernel
  omega
set_option maxHeartbeats 4000000 in
set_option maxRecDepth 100000 in
theorem sX3_draw (v : SV) {m : Nat} (h0 : 0 < m) (hm : m < 2147483648) : am_Sp mX3_draw [.ref 2, .int (nI m)] (stH v) (am_rp (drw (vX v) m) (stH (uX v (lcg (vX v))))) := by
  refine am_intro (by decide) (Nat.le_of_ble_eq_true rfl) ?_
  refine ar_aload_n (i := 0) (pc := 0) dX3_draw_0 rfl rfl ?_
  refine ar_aload_n (i := 0) (pc := 1) dX3_draw_1 rfl rfl ?_
  refine ar_getf (pc := 2) dX3_draw_2 fX3_18 rfl rfl ?_
  refine ar_ldc2 (pc := 5) dX3_draw_5 cX3_91 ?_
  refine ar_lmul (pc := 8) dX3_draw_8 ?_
  refine ar_ldc2 (pc := 9) dX3_draw_9 cX3_93 ?_
  refine ar_ladd (pc := 12) dX3_draw_12 ?_
  refine ar_ldc2 (pc := 13) dX3_draw_13 cX3_95 ?_
  refine ar_lrem (pc := 16) dX3_draw_16 (by decide +kernel) ?_
  refine ar_topl (fun y16 e16 => ?_)
  refine ar_putf (pc := 17) dX3_draw_17 fX3_18 rfl (Nat.le_of_ble_eq_true rfl) (fun _ => ⟨rfl, rfl⟩) ?_
  refine ar_iload_n (i := 1) (pc := 20) dX3_draw_20 rfl rfl ?_
  refine ar_iconst (pc := 21) dX3_draw_21 q_iconst_1 ?_
  refine ar_icmp_ge (pc := 22) (tgt := 29) dX3_draw_22 (by decide) (fun c22 => ?_) (fun c22 => False.elim (by (simp (disch := omega) only [Int32.lt_iff_toInt_lt, Int32.le_iff_toInt_le, ← Int32.toInt_inj, ti_m6, ti_m1, ti_0, ti_1, ti_2, ti_3, ti_4, ti_5, ti_6, ti_7, ti_8, ti_9, ti_12, ti_100, ti_9999, ti_60, nI_toInt] at c22) <;> omega))
  refine ar_aload_n (i := 0) (pc := 29) dX3_draw_29 rfl rfl ?_
  refine ar_getf (pc := 30) dX3_draw_30 fX3_18 rfl rfl ?_
  refine ar_ldc2 (pc := 33) dX3_draw_33 cX3_97 ?_
  refine ar_ldiv (pc := 36) dX3_draw_36 (by decide +kernel) ?_
  refine ar_iload_n (i := 1) (pc := 37) dX3_draw_37 rfl rfl ?_
  refine ar_i2l (pc := 38) dX3_draw_38 ?_
  refine ar_lrem (pc := 39) dX3_draw_39 (nI64_ne h0 hm) ?_
  refine ar_l2i (pc := 40) dX3_draw_40 ?_
  refine ar_topi (fun y40 e40 => ?_)
  exact ar_iret (pc := 41) dX3_draw_41 rfl rfl rfl ⟨by rw [e40, e16]; rfl, by rw [show lcg (vX v) = y16 from e16.symm]; rfl⟩

def ar2 (w : Bool) (N : Nat) (f g : Nat → Int32) : am_H := [none, none, some (.inr (.inl (.int, w, N, f))), some (am_ia N g)]
set_option maxHeartbeats 4000000 in
set_option maxRecDepth 100000 in
theorem lX6_copyRow (w : Bool) (N : Nat) (hN : N < 2147483648) (f g : Nat → Int32) : ∀ (d k : Nat), k + d = N → am_RW mX6_copyRow (ar2 w N f g) (am_vp (ar2 w N f f)) 0 0 2 [some (.ref 2), some (.ref 3), some (.int (nI k))] [] (ar2 w N f (mixF f g k)) := by
  intro d
  induction d with
  | zero =>
    intro k hk
    have e : k = N := by omega
    subst e
    refine ar_iload_n (i := 2) (pc := 2) dX6_copyRow_2 rfl rfl ?_
    refine ar_aload_n (i := 0) (pc := 3) dX6_copyRow_3 rfl rfl ?_
    refine ar_alen (pc := 4) dX6_copyRow_4 rfl ?_
    refine ar_icmp_ge (pc := 5) (tgt := 26) dX6_copyRow_5 (by decide) (fun c5 => ?_) (fun c5 => False.elim (by (simp (disch := omega) only [Int32.lt_iff_toInt_lt, Int32.le_iff_toInt_le, ← Int32.toInt_inj, ti_m6, ti_m1, ti_0, ti_1, ti_2, ti_3, ti_4, ti_5, ti_6, ti_7, ti_8, ti_9, ti_12, ti_100, ti_9999, ti_60, nI_toInt] at c5) <;> omega))
    refine ar_cong (a := 3) f rfl (fun j hj => by simp [mixF, hj]) ?_
    exact ar_vret (pc := 26) dX6_copyRow_26 rfl rfl rfl ⟨rfl, rfl⟩
  | succ d ih =>
    intro k hk
    refine ar_iload_n (i := 2) (pc := 2) dX6_copyRow_2 rfl rfl ?_
    refine ar_aload_n (i := 0) (pc := 3) dX6_copyRow_3 rfl rfl ?_
    refine ar_alen (pc := 4) dX6_copyRow_4 rfl ?_
    refine ar_icmp_ge (pc := 5) (tgt := 26) dX6_copyRow_5 (by decide) (fun c5 => False.elim (by (simp (disch := omega) only [Int32.lt_iff_toInt_lt, Int32.le_iff_toInt_le, ← Int32.toInt_inj, ti_m6, ti_m1, ti_0, ti_1, ti_2, ti_3, ti_4, ti_5, ti_6, ti_7, ti_8, ti_9, ti_12, ti_100, ti_9999, ti_60, nI_toInt] at c5) <;> omega)) (fun c5 => ?_)
    refine ar_iload_n (i := 2) (pc := 8) dX6_copyRow_8 rfl rfl ?_
    refine ar_aload_n (i := 1) (pc := 9) dX6_copyRow_9 rfl rfl ?_
    refine ar_alen (pc := 10) dX6_copyRow_10 rfl ?_
    refine ar_icmp_ge (pc := 11) (tgt := 26) dX6_copyRow_11 (by decide) (fun c11 => False.elim (by (simp (disch := omega) only [Int32.lt_iff_toInt_lt, Int32.le_iff_toInt_le, ← Int32.toInt_inj, ti_m6, ti_m1, ti_0, ti_1, ti_2, ti_3, ti_4, ti_5, ti_6, ti_7, ti_8, ti_9, ti_12, ti_100, ti_9999, ti_60, nI_toInt] at c11) <;> omega)) (fun c11 => ?_)
    refine ar_aload_n (i := 1) (pc := 14) dX6_copyRow_14 rfl rfl ?_
    refine ar_iload_n (i := 2) (pc := 15) dX6_copyRow_15 rfl rfl ?_
    refine ar_aload_n (i := 0) (pc := 16) dX6_copyRow_16 rfl rfl ?_
    refine ar_iload_n (i := 2) (pc := 17) dX6_copyRow_17 rfl rfl ?_
    refine ar_iald (pc := 18) dX6_copyRow_18 rfl (show k < N by omega) rfl ?_
    refine ar_iast (pc := 19) dX6_copyRow_19 rfl (show k < N by omega) rfl ?_
    refine ar_iinc (pc := 20) dX6_copyRow_20 rfl (ni_inc _) (Nat.le_of_ble_eq_true rfl) rfl ?_
    refine ar_goto (tgt := 2) (pc := 23) dX6_copyRow_23 (by decide) ?_
    have ih' := ih (k + 1) (by omega)
    rw [← mixF_s] at ih'
    exact ih'

set_option maxHeartbeats 4000000 in
set_option maxRecDepth 100000 in
theorem sX6_copyRow (w : Bool) (N : Nat) (hN : N < 2147483648) (f g : Nat → Int32) : am_Sp mX6_copyRow [.ref 2, .ref 3] (ar2 w N f g) (am_vp (ar2 w N f f)) := by
  refine am_intro (by decide) (Nat.le_of_ble_eq_true rfl) ?_
  refine ar_iconst (pc := 0) dX6_copyRow_0 q_iconst_0 ?_
  refine ar_istore_n (i := 2) (pc := 1) dX6_copyRow_1 rfl (Nat.le_of_ble_eq_true rfl) rfl ?_
  have h := lX6_copyRow w N hN f g N 0 (by omega)
  rw [mixF_0] at h
  exact h
