/-! the whole changed: set, roof, come, go, height, stand, shuffle, play -/
theorem pp_Ro (w0 : Bool) (ff : Nat → Int32) (w1 : Bool) (gg : Nat → Int32) (z : PV) (a : Int32) : (ppH w0 ff w1 gg z).set 3 (some (.inl (2, ([.ref 4, .long (vX (pN z)), .int (vRo (pN z)), .int (vDa (pN z)), .int (vRa (pN z)), .int (vTa (pN z)), .int (vBo (pN z)), .ref 5, .ref 6, .ref 7, .ref 8, .ref 9, .ref 10] : List Value).set 2 (.int a)))) = ppH w0 ff w1 gg (sN z (uRo (pN z) a)) := rfl
theorem pp_X (w0 : Bool) (ff : Nat → Int32) (w1 : Bool) (gg : Nat → Int32) (z : PV) (a : Int64) : (ppH w0 ff w1 gg z).set 3 (some (.inl (2, ([.ref 4, .long (vX (pN z)), .int (vRo (pN z)), .int (vDa (pN z)), .int (vRa (pN z)), .int (vTa (pN z)), .int (vBo (pN z)), .ref 5, .ref 6, .ref 7, .ref 8, .ref 9, .ref 10] : List Value).set 1 (.long a)))) = ppH w0 ff w1 gg (sN z (uX (pN z) a)) := rfl
theorem pp_H (w0 : Bool) (ff : Nat → Int32) (w1 : Bool) (gg : Nat → Int32) (z : PV) (f : Nat → Int32) : (ppH w0 ff w1 gg z).set 5 (some (am_ia 8 f)) = ppH w0 ff w1 gg (sN z (uH (pN z) f)) := rfl
theorem pp_P (w0 : Bool) (ff : Nat → Int32) (w1 : Bool) (gg : Nat → Int32) (z : PV) (f : Nat → Int32) : (ppH w0 ff w1 gg z).set 6 (some (am_ia 8 f)) = ppH w0 ff w1 gg (sN z (uP (pN z) f)) := rfl
set_option maxHeartbeats 4000000 in
set_option maxRecDepth 100000 in
theorem sX6_set_s (w0 : Bool) (ff : Nat → Int32) (w1 : Bool) (gg : Nat → Int32) (z : PV) {k : Nat} (hk : k < 6) (a : Int32) (h0 : 0 ≤ a) (h1 : a ≤ gg k) (hyn : (pY z).2.1 < 6) (hyk : (pY z).2.2 ≤ 6) : am_Sp mX6_set [.ref 2, .int (nI k), .int a] (ppH w0 ff w1 gg z) (am_rp (vS (pN z) k) (ppH w0 ff w1 gg (sN (rcZ z) (uS (pN z) (upd (vS (pN z)) k a))))) := by
  refine am_intro (by decide) (Nat.le_of_ble_eq_true rfl) ?_
  refine ar_iload_n (i := 1) (pc := 0) dX6_set_0 rfl rfl ?_
  refine ar_if_lt (pc := 1) (tgt := 12) dX6_set_1 (by decide) (fun c1 => False.elim (by (simp (disch := omega) only [Int32.lt_iff_toInt_lt, Int32.le_iff_toInt_le, ← Int32.toInt_inj, ti_m6, ti_m1, ti_0, ti_1, ti_2, ti_3, ti_4, ti_5, ti_6, ti_7, ti_8, ti_9, ti_12, ti_100, ti_9999, ti_60, nI_toInt] at c1) <;> omega)) (fun c1 => ?_)
  refine ar_iload_n (i := 1) (pc := 4) dX6_set_4 rfl rfl ?_
  refine ar_gets1 (pc := 5) dX6_set_5 sX6_44 ?_
  refine ar_alen (pc := 8) dX6_set_8 rfl ?_
  refine ar_icmp_lt (pc := 9) (tgt := 15) dX6_set_9 (by decide) (fun c9 => ?_) (fun c9 => False.elim (by (simp (disch := omega) only [Int32.lt_iff_toInt_lt, Int32.le_iff_toInt_le, ← Int32.toInt_inj, ti_m6, ti_m1, ti_0, ti_1, ti_2, ti_3, ti_4, ti_5, ti_6, ti_7, ti_8, ti_9, ti_12, ti_100, ti_9999, ti_60, nI_toInt] at c9) <;> omega))
  refine ar_iload_n (i := 2) (pc := 15) dX6_set_15 rfl rfl ?_
  refine ar_if_lt (pc := 16) (tgt := 28) dX6_set_16 (by decide) (fun c16 => absurd c16 (Int32.not_lt.mpr h0)) (fun c16 => ?_)
  refine ar_iload_n (i := 2) (pc := 19) dX6_set_19 rfl rfl ?_
  refine ar_gets1 (pc := 20) dX6_set_20 sX6_44 ?_
  refine ar_iload_n (i := 1) (pc := 23) dX6_set_23 rfl rfl ?_
  refine ar_iald (pc := 24) dX6_set_24 rfl hk rfl ?_
  refine ar_icmp_le (pc := 25) (tgt := 31) dX6_set_25 (by decide) (fun c25 => ?_) (fun c25 => absurd h1 c25)
  refine ar_aload_n (i := 0) (pc := 31) dX6_set_31 rfl rfl ?_
  refine ar_getf (pc := 32) dX6_set_32 fX6_36 rfl rfl ?_
  refine ar_aload_n (i := 0) (pc := 35) dX6_set_35 rfl rfl ?_
  refine ar_getf (pc := 36) dX6_set_36 fX6_10 rfl rfl ?_
  refine ar_rec (pc := 39) dX6_set_39 kX6_48 rfl rfl rfl rfl rfl hyn hyk ?_
  refine ar_aload_n (i := 0) (pc := 42) dX6_set_42 rfl rfl ?_
  refine ar_getf (pc := 43) dX6_set_43 fX6_10 rfl rfl ?_
  refine ar_iload_n (i := 1) (pc := 46) dX6_set_46 rfl rfl ?_
  refine ar_mc (pc := 47) (l := [0, 1, 3, 4, 5, 6, 7, 8, 9, 10]) (ar_rV dX6_set_47 cal_X3_setting kX6_52 rfl (sX3_setting (pN (rcZ z)) hk) rfl rfl rfl rfl rfl okp_N rfl rfl) okp_N rfl rfl rfl rfl (fun r h1 hp => ?_)
  obtain ⟨rfl, rfl⟩ := hp
  refine ⟨rfl, ?_⟩
  refine ar_hp (mP_Ni w0 ff w1 gg (rcZ z)) ?_
  refine ar_istore_n (i := 3) (pc := 50) dX6_set_50 rfl (Nat.le_of_ble_eq_true rfl) rfl ?_
  refine ar_aload_n (i := 0) (pc := 51) dX6_set_51 rfl rfl ?_
  refine ar_getf (pc := 52) dX6_set_52 fX6_10 rfl rfl ?_
  refine ar_iload_n (i := 1) (pc := 55) dX6_set_55 rfl rfl ?_
  refine ar_iload_n (i := 2) (pc := 56) dX6_set_56 rfl rfl ?_
  refine ar_mc (pc := 57) (l := [0, 1, 3, 4, 5, 6, 7, 8, 9, 10]) (ar_rV dX6_set_57 cal_X3_changeSetting kX6_56 rfl (sX3_changeSetting (pN (rcZ z)) hk a) rfl rfl rfl rfl rfl okp_N rfl rfl) okp_N rfl rfl rfl rfl (fun r h1 hp => ?_)
  obtain ⟨rfl, rfl⟩ := hp
  refine ⟨rfl, ?_⟩
  refine ar_hp (mP_N w0 ff w1 gg (rcZ z) (uS (pN (rcZ z)) (upd (vS (pN (rcZ z))) k a))) ?_
  refine ar_iload_n (i := 3) (pc := 60) dX6_set_60 rfl rfl ?_
  exact ar_iret (pc := 61) dX6_set_61 rfl rfl rfl ⟨rfl, rfl⟩

set_option maxHeartbeats 4000000 in
set_option maxRecDepth 100000 in
theorem sX6_set_o (w0 : Bool) (ff : Nat → Int32) (w1 : Bool) (gg : Nat → Int32) (z : PV) (s a : Int32) (ho : s.toInt < 0 ∨ 5 < s.toInt) : am_Sp mX6_set [.ref 2, .int s, .int a] (ppH w0 ff w1 gg z) (am_rp (-2) (ppH w0 ff w1 gg z)) := by
  refine am_intro (by decide) (Nat.le_of_ble_eq_true rfl) ?_
  refine ar_iload_n (i := 1) (pc := 0) dX6_set_0 rfl rfl ?_
  refine ar_if_lt (pc := 1) (tgt := 12) dX6_set_1 (by decide) (fun c1 => ?_) (fun c1 => ?_)
  · refine ar_bipush (pc := 12) dX6_set_12 q_bipush_m2 ?_
    exact ar_iret (pc := 14) dX6_set_14 rfl rfl rfl ⟨rfl, rfl⟩
  · refine ar_iload_n (i := 1) (pc := 4) dX6_set_4 rfl rfl ?_
    refine ar_gets1 (pc := 5) dX6_set_5 sX6_44 ?_
    refine ar_alen (pc := 8) dX6_set_8 rfl ?_
    refine ar_icmp_lt (pc := 9) (tgt := 15) dX6_set_9 (by decide) (fun c9 => ?_) (fun c9 => ?_)
    · exact False.elim (by (simp (disch := omega) only [Int32.lt_iff_toInt_lt, Int32.le_iff_toInt_le, ← Int32.toInt_inj, ti_m6, ti_m1, ti_0, ti_1, ti_2, ti_3, ti_4, ti_5, ti_6, ti_7, ti_8, ti_9, ti_12, ti_100, ti_9999, ti_60, nI_toInt] at c1 c9); omega)
    · refine ar_bipush (pc := 12) dX6_set_12 q_bipush_m2 ?_
      exact ar_iret (pc := 14) dX6_set_14 rfl rfl rfl ⟨rfl, rfl⟩

set_option maxHeartbeats 4000000 in
set_option maxRecDepth 100000 in
theorem sX6_set_v (w0 : Bool) (ff : Nat → Int32) (w1 : Bool) (gg : Nat → Int32) (z : PV) {k : Nat} (hk : k < 6) (a : Int32) (ho : a < 0 ∨ gg k < a) : am_Sp mX6_set [.ref 2, .int (nI k), .int a] (ppH w0 ff w1 gg z) (am_rp (-2) (ppH w0 ff w1 gg z)) := by
  refine am_intro (by decide) (Nat.le_of_ble_eq_true rfl) ?_
  refine ar_iload_n (i := 1) (pc := 0) dX6_set_0 rfl rfl ?_
  refine ar_if_lt (pc := 1) (tgt := 12) dX6_set_1 (by decide) (fun c1 => False.elim (by (simp (disch := omega) only [Int32.lt_iff_toInt_lt, Int32.le_iff_toInt_le, ← Int32.toInt_inj, ti_m6, ti_m1, ti_0, ti_1, ti_2, ti_3, ti_4, ti_5, ti_6, ti_7, ti_8, ti_9, ti_12, ti_100, ti_9999, ti_60, nI_toInt] at c1) <;> omega)) (fun c1 => ?_)
  refine ar_iload_n (i := 1) (pc := 4) dX6_set_4 rfl rfl ?_
  refine ar_gets1 (pc := 5) dX6_set_5 sX6_44 ?_
  refine ar_alen (pc := 8) dX6_set_8 rfl ?_
  refine ar_icmp_lt (pc := 9) (tgt := 15) dX6_set_9 (by decide) (fun c9 => ?_) (fun c9 => False.elim (by (simp (disch := omega) only [Int32.lt_iff_toInt_lt, Int32.le_iff_toInt_le, ← Int32.toInt_inj, ti_m6, ti_m1, ti_0, ti_1, ti_2, ti_3, ti_4, ti_5, ti_6, ti_7, ti_8, ti_9, ti_12, ti_100, ti_9999, ti_60, nI_toInt] at c9) <;> omega))
  refine ar_iload_n (i := 2) (pc := 15) dX6_set_15 rfl rfl ?_
  refine ar_if_lt (pc := 16) (tgt := 28) dX6_set_16 (by decide) (fun c16 => ?_) (fun c16 => ?_)
  · refine ar_bipush (pc := 28) dX6_set_28 q_bipush_m2 ?_
    exact ar_iret (pc := 30) dX6_set_30 rfl rfl rfl ⟨rfl, rfl⟩
  · refine ar_iload_n (i := 2) (pc := 19) dX6_set_19 rfl rfl ?_
    refine ar_gets1 (pc := 20) dX6_set_20 sX6_44 ?_
    refine ar_iload_n (i := 1) (pc := 23) dX6_set_23 rfl rfl ?_
    refine ar_iald (pc := 24) dX6_set_24 rfl hk rfl ?_
    refine ar_icmp_le (pc := 25) (tgt := 31) dX6_set_25 (by decide) (fun c25 => ?_) (fun c25 => ?_)
    · exact ho.elim (fun q => absurd q c16) (fun q => absurd c25 (Int32.not_le.mpr q))
    · refine ar_bipush (pc := 28) dX6_set_28 q_bipush_m2 ?_
      exact ar_iret (pc := 30) dX6_set_30 rfl rfl rfl ⟨rfl, rfl⟩

set_option maxHeartbeats 4000000 in
set_option maxRecDepth 100000 in
theorem sX6_roof_n (w0 : Bool) (ff : Nat → Int32) (w1 : Bool) (gg : Nat → Int32) (z : PV) (b r : Int32) (hb : ¬ inP b) : am_Sp mX6_roof [.ref 2, .int b, .int r] (ppH w0 ff w1 gg z) (am_rp (-1) (ppH w0 ff w1 gg z)) := by
  refine am_intro (by decide) (Nat.le_of_ble_eq_true rfl) ?_
  refine ar_iload_n (i := 1) (pc := 0) dX6_roof_0 rfl rfl ?_
  refine ar_idS (pc := 1) dX6_roof_1 cal_X6_isPitch kX6_60 rfl (sX6_isPitchB (ppH w0 ff w1 gg z) _) rfl rfl rfl rfl rfl (fun r h1 hp => ?_)
  obtain ⟨⟨h1, rfl⟩ | ⟨h1, rfl⟩, rfl⟩ := hp
  · refine ⟨rfl, ?_⟩
    refine ar_if_ne (pc := 4) (tgt := 9) dX6_roof_4 (by decide) (fun c4 => ?_) (fun c4 => absurd c4 (by decide))
    exact absurd h1 hb
  · refine ⟨rfl, ?_⟩
    refine ar_if_ne (pc := 4) (tgt := 9) dX6_roof_4 (by decide) (fun c4 => absurd c4 (by decide)) (fun c4 => ?_)
    refine ar_iconst (pc := 7) dX6_roof_7 q_iconst_m1 ?_
    exact ar_iret (pc := 8) dX6_roof_8 rfl rfl rfl ⟨rfl, rfl⟩

set_option maxHeartbeats 4000000 in
set_option maxRecDepth 100000 in
theorem sX6_roof_t (w0 : Bool) (ff : Nat → Int32) (w1 : Bool) (gg : Nat → Int32) (z : PV) {p : Nat} (hp12 : p < 12) (r : Int32) (ht : (rfP (vRo (pN z)) p ∧ r = 1) ∨ (¬ rfP (vRo (pN z)) p ∧ r = 0)) : am_Sp mX6_roof [.ref 2, .int (nI p), .int r] (ppH w0 ff w1 gg z) (am_rp (-5) (ppH w0 ff w1 gg z)) := by
  refine am_intro (by decide) (Nat.le_of_ble_eq_true rfl) ?_
  refine ar_iload_n (i := 1) (pc := 0) dX6_roof_0 rfl rfl ?_
  refine ar_idS (pc := 1) dX6_roof_1 cal_X6_isPitch kX6_60 rfl (sX6_isPitchB (ppH w0 ff w1 gg z) _) rfl rfl rfl rfl rfl (fun r h1 hp => ?_)
  obtain ⟨⟨h1, rfl⟩ | ⟨h1, rfl⟩, rfl⟩ := hp
  · refine ⟨rfl, ?_⟩
    refine ar_if_ne (pc := 4) (tgt := 9) dX6_roof_4 (by decide) (fun c4 => ?_) (fun c4 => absurd c4 (by decide))
    refine ar_aload_n (i := 0) (pc := 9) dX6_roof_9 rfl rfl ?_
    refine ar_getf (pc := 10) dX6_roof_10 fX6_10 rfl rfl ?_
    refine ar_iload_n (i := 1) (pc := 13) dX6_roof_13 rfl rfl ?_
    refine ar_mc (pc := 14) (l := [0, 1, 3, 4, 5, 6, 7, 8, 9, 10]) (ar_rV dX6_roof_14 cal_X3_isRoofed kX6_64 rfl (sX3_isRoofed (pN z) hp12) rfl rfl rfl rfl rfl okp_N rfl rfl) okp_N rfl rfl rfl rfl (fun r h1 hp => ?_)
    obtain ⟨⟨h14, rfl⟩ | ⟨h14, rfl⟩, rfl⟩ := hp
    · refine ⟨rfl, ?_⟩
      refine ar_hp (mP_Ni w0 ff w1 gg z) ?_
      refine ar_iload_n (i := 2) (pc := 17) dX6_roof_17 rfl rfl ?_
      refine ar_icmp_ne (pc := 18) (tgt := 24) dX6_roof_18 (by decide) (fun c18 => ?_) (fun c18 => ?_)
      · exact ht.elim (fun q => absurd q.2.symm c18) (fun q => absurd h14 q.1)
      · refine ar_bipush (pc := 21) dX6_roof_21 q_bipush_m5 ?_
        exact ar_iret (pc := 23) dX6_roof_23 rfl rfl rfl ⟨rfl, rfl⟩
    · refine ⟨rfl, ?_⟩
      refine ar_hp (mP_Ni w0 ff w1 gg z) ?_
      refine ar_iload_n (i := 2) (pc := 17) dX6_roof_17 rfl rfl ?_
      refine ar_icmp_ne (pc := 18) (tgt := 24) dX6_roof_18 (by decide) (fun c18 => ?_) (fun c18 => ?_)
      · exact ht.elim (fun q => absurd q.1 h14) (fun q => absurd q.2.symm c18)
      · refine ar_bipush (pc := 21) dX6_roof_21 q_bipush_m5 ?_
        exact ar_iret (pc := 23) dX6_roof_23 rfl rfl rfl ⟨rfl, rfl⟩
  · refine ⟨rfl, ?_⟩
    refine ar_if_ne (pc := 4) (tgt := 9) dX6_roof_4 (by decide) (fun c4 => absurd c4 (by decide)) (fun c4 => ?_)
    refine ar_iconst (pc := 7) dX6_roof_7 q_iconst_m1 ?_
    exact absurd (in_p hp12) h1

set_option maxHeartbeats 4000000 in
set_option maxRecDepth 100000 in
theorem lX6_roof_24 (h0 : am_H) (w0 : Bool) (ff : Nat → Int32) (w1 : Bool) (gg : Nat → Int32) (z : PV) (p : Nat) (r : Int32) (hyn : (pY z).2.1 < 6) (hyk : (pY z).2.2 ≤ 6) : am_RW mX6_roof h0 (am_rp (bitc (vRo (pN z) ^^^ (1 <<< (nI p &&& 31)))) (ppH w0 ff w1 gg (sN (rcZ z) (uRo (pN z) (vRo (pN z) ^^^ (1 <<< (nI p &&& 31))))))) 0 0 24 [some (.ref 2), some (.int (nI p)), some (.int r)] [] (ppH w0 ff w1 gg z) := by
  refine ar_aload_n (i := 0) (pc := 24) dX6_roof_24 rfl rfl ?_
  refine ar_getf (pc := 25) dX6_roof_25 fX6_36 rfl rfl ?_
  refine ar_aload_n (i := 0) (pc := 28) dX6_roof_28 rfl rfl ?_
  refine ar_getf (pc := 29) dX6_roof_29 fX6_10 rfl rfl ?_
  refine ar_rec (pc := 32) dX6_roof_32 kX6_48 rfl rfl rfl rfl rfl hyn hyk ?_
  refine ar_aload_n (i := 0) (pc := 35) dX6_roof_35 rfl rfl ?_
  refine ar_getf (pc := 36) dX6_roof_36 fX6_10 rfl rfl ?_
  refine ar_dup (pc := 39) dX6_roof_39 rfl ?_
  refine ar_getf (pc := 40) dX6_roof_40 fX6_67 rfl rfl ?_
  refine ar_iconst (pc := 43) dX6_roof_43 q_iconst_1 ?_
  refine ar_iload_n (i := 1) (pc := 44) dX6_roof_44 rfl rfl ?_
  refine ar_ishl (pc := 45) dX6_roof_45 ?_
  refine ar_ixor (pc := 46) dX6_roof_46 ?_
  refine ar_putf (pc := 47) dX6_roof_47 fX6_67 rfl (Nat.le_of_ble_eq_true rfl) (fun _ => ⟨rfl, rfl⟩) ?_
  rw [pp_Ro]
  refine ar_aload_n (i := 0) (pc := 50) dX6_roof_50 rfl rfl ?_
  refine ar_getf (pc := 51) dX6_roof_51 fX6_10 rfl rfl ?_
  refine ar_getf (pc := 54) dX6_roof_54 fX6_67 rfl rfl ?_
  refine ar_idS (pc := 57) dX6_roof_57 cal_J6_bitCount_0f7a4 kX6_71 rfl (sJ6_bitCount _ _) rfl rfl rfl rfl rfl (fun r h1 hp => ?_)
  obtain ⟨rfl, rfl⟩ := hp
  refine ⟨rfl, ?_⟩
  exact ar_iret (pc := 60) dX6_roof_60 rfl rfl rfl ⟨rfl, rfl⟩
set_option maxHeartbeats 4000000 in
set_option maxRecDepth 100000 in
theorem sX6_roof_s (w0 : Bool) (ff : Nat → Int32) (w1 : Bool) (gg : Nat → Int32) (z : PV) {p : Nat} (hp12 : p < 12) (r : Int32) (ht : (rfP (vRo (pN z)) p ∧ r = 0) ∨ (¬ rfP (vRo (pN z)) p ∧ r = 1)) (hyn : (pY z).2.1 < 6) (hyk : (pY z).2.2 ≤ 6) : am_Sp mX6_roof [.ref 2, .int (nI p), .int r] (ppH w0 ff w1 gg z) (am_rp (bitc (vRo (pN z) ^^^ (1 <<< (nI p &&& 31)))) (ppH w0 ff w1 gg (sN (rcZ z) (uRo (pN z) (vRo (pN z) ^^^ (1 <<< (nI p &&& 31))))))) := by
  refine am_intro (by decide) (Nat.le_of_ble_eq_true rfl) ?_
  refine ar_iload_n (i := 1) (pc := 0) dX6_roof_0 rfl rfl ?_
  refine ar_idS (pc := 1) dX6_roof_1 cal_X6_isPitch kX6_60 rfl (sX6_isPitchB (ppH w0 ff w1 gg z) _) rfl rfl rfl rfl rfl (fun r h1 hp => ?_)
  obtain ⟨⟨h1, rfl⟩ | ⟨h1, rfl⟩, rfl⟩ := hp
  · refine ⟨rfl, ?_⟩
    refine ar_if_ne (pc := 4) (tgt := 9) dX6_roof_4 (by decide) (fun c4 => ?_) (fun c4 => absurd c4 (by decide))
    refine ar_aload_n (i := 0) (pc := 9) dX6_roof_9 rfl rfl ?_
    refine ar_getf (pc := 10) dX6_roof_10 fX6_10 rfl rfl ?_
    refine ar_iload_n (i := 1) (pc := 13) dX6_roof_13 rfl rfl ?_
    refine ar_mc (pc := 14) (l := [0, 1, 3, 4, 5, 6, 7, 8, 9, 10]) (ar_rV dX6_roof_14 cal_X3_isRoofed kX6_64 rfl (sX3_isRoofed (pN z) hp12) rfl rfl rfl rfl rfl okp_N rfl rfl) okp_N rfl rfl rfl rfl (fun r h1 hp => ?_)
    obtain ⟨⟨h14, rfl⟩ | ⟨h14, rfl⟩, rfl⟩ := hp
    · refine ⟨rfl, ?_⟩
      refine ar_hp (mP_Ni w0 ff w1 gg z) ?_
      refine ar_iload_n (i := 2) (pc := 17) dX6_roof_17 rfl rfl ?_
      refine ar_icmp_ne (pc := 18) (tgt := 24) dX6_roof_18 (by decide) (fun c18 => ?_) (fun c18 => ?_)
      · exact lX6_roof_24 _ w0 ff w1 gg z p r hyn hyk
      · refine ar_bipush (pc := 21) dX6_roof_21 q_bipush_m5 ?_
        exact False.elim (ht.elim (fun q => absurd (c18.trans q.2) (by decide)) (fun q => absurd h14 q.1))
    · refine ⟨rfl, ?_⟩
      refine ar_hp (mP_Ni w0 ff w1 gg z) ?_
      refine ar_iload_n (i := 2) (pc := 17) dX6_roof_17 rfl rfl ?_
      refine ar_icmp_ne (pc := 18) (tgt := 24) dX6_roof_18 (by decide) (fun c18 => ?_) (fun c18 => ?_)
      · exact lX6_roof_24 _ w0 ff w1 gg z p r hyn hyk
      · refine ar_bipush (pc := 21) dX6_roof_21 q_bipush_m5 ?_
        exact False.elim (ht.elim (fun q => absurd q.1 h14) (fun q => absurd (c18.trans q.2) (by decide)))
  · refine ⟨rfl, ?_⟩
    refine ar_if_ne (pc := 4) (tgt := 9) dX6_roof_4 (by decide) (fun c4 => absurd c4 (by decide)) (fun c4 => ?_)
    refine ar_iconst (pc := 7) dX6_roof_7 q_iconst_m1 ?_
    exact absurd (in_p hp12) h1

set_option maxHeartbeats 4000000 in
set_option maxRecDepth 100000 in
theorem sX6_come_o (w0 : Bool) (ff : Nat → Int32) (w1 : Bool) (gg : Nat → Int32) (z : PV) (a : Int32) (ha : ¬ (1 ≤ a.toInt ∧ a.toInt ≤ 9)) : am_Sp mX6_come [.ref 2, .int a] (ppH w0 ff w1 gg z) (am_rp (-2) (ppH w0 ff w1 gg z)) := by
  refine am_intro (by decide) (Nat.le_of_ble_eq_true rfl) ?_
  refine ar_iload_n (i := 1) (pc := 0) dX6_come_0 rfl rfl ?_
  refine ar_idS (pc := 1) dX6_come_1 cal_X6_isHeight kX6_76 rfl (sX6_isHeightB (ppH w0 ff w1 gg z) a) rfl rfl rfl rfl rfl (fun r h1 hp => ?_)
  obtain ⟨⟨h1, rfl⟩ | ⟨h1, rfl⟩, rfl⟩ := hp
  · refine ⟨rfl, ?_⟩
    refine ar_if_ne (pc := 4) (tgt := 10) dX6_come_4 (by decide) (fun c4 => ?_) (fun c4 => absurd c4 (by decide))
    exact absurd h1 ha
  · refine ⟨rfl, ?_⟩
    refine ar_if_ne (pc := 4) (tgt := 10) dX6_come_4 (by decide) (fun c4 => absurd c4 (by decide)) (fun c4 => ?_)
    refine ar_bipush (pc := 7) dX6_come_7 q_bipush_m2 ?_
    exact ar_iret (pc := 9) dX6_come_9 rfl rfl rfl ⟨rfl, rfl⟩

set_option maxHeartbeats 4000000 in
set_option maxRecDepth 100000 in
theorem sX6_come_f (w0 : Bool) (ff : Nat → Int32) (w1 : Bool) (gg : Nat → Int32) (z : PV) (a : Int32) (ha : 1 ≤ a.toInt ∧ a.toInt ≤ 9) (hn : vBo (pN z) = nI 8) : am_Sp mX6_come [.ref 2, .int a] (ppH w0 ff w1 gg z) (am_rp (-4) (ppH w0 ff w1 gg z)) := by
  refine am_intro (by decide) (Nat.le_of_ble_eq_true rfl) ?_
  refine ar_iload_n (i := 1) (pc := 0) dX6_come_0 rfl rfl ?_
  refine ar_idS (pc := 1) dX6_come_1 cal_X6_isHeight kX6_76 rfl (sX6_isHeightB (ppH w0 ff w1 gg z) a) rfl rfl rfl rfl rfl (fun r h1 hp => ?_)
  obtain ⟨⟨h1, rfl⟩ | ⟨h1, rfl⟩, rfl⟩ := hp
  · refine ⟨rfl, ?_⟩
    refine ar_if_ne (pc := 4) (tgt := 10) dX6_come_4 (by decide) (fun c4 => ?_) (fun c4 => absurd c4 (by decide))
    refine ar_aload_n (i := 0) (pc := 10) dX6_come_10 rfl rfl ?_
    refine ar_getf (pc := 11) dX6_come_11 fX6_10 rfl rfl ?_
    refine ar_getf (pc := 14) dX6_come_14 fX6_79 rfl rfl ?_
    refine ar_bipush (pc := 17) dX6_come_17 q_bipush_8 ?_
    refine ar_icmp_lt (pc := 19) (tgt := 25) dX6_come_19 (by decide) (fun c19 => False.elim (by (simp (disch := omega) only [Int32.lt_iff_toInt_lt, Int32.le_iff_toInt_le, ← Int32.toInt_inj, ti_m6, ti_m1, ti_0, ti_1, ti_2, ti_3, ti_4, ti_5, ti_6, ti_7, ti_8, ti_9, ti_12, ti_100, ti_9999, ti_60, nI_toInt, hn] at c19) <;> omega)) (fun c19 => ?_)
    refine ar_bipush (pc := 22) dX6_come_22 q_bipush_m4 ?_
    exact ar_iret (pc := 24) dX6_come_24 rfl rfl rfl ⟨rfl, rfl⟩
  · refine ⟨rfl, ?_⟩
    refine ar_if_ne (pc := 4) (tgt := 10) dX6_come_4 (by decide) (fun c4 => absurd c4 (by decide)) (fun c4 => ?_)
    refine ar_bipush (pc := 7) dX6_come_7 q_bipush_m2 ?_
    exact absurd ha h1

set_option maxHeartbeats 4000000 in
set_option maxRecDepth 100000 in
theorem sX6_come_s (w0 : Bool) (ff : Nat → Int32) (w1 : Bool) (gg : Nat → Int32) (z : PV) (a : Int32) (ha : 1 ≤ a.toInt ∧ a.toInt ≤ 9) (n : Nat) (hn : vBo (pN z) = nI n) (h8 : n < 8) (hyn : (pY z).2.1 < 6) (hyk : (pY z).2.2 ≤ 6) : am_Sp mX6_come [.ref 2, .int a] (ppH w0 ff w1 gg z) (am_rp (nI (n + 1) - 1) (ppH w0 ff w1 gg (sN (rcZ z) (adB (pN z) n a (-6))))) := by
  refine am_intro (by decide) (Nat.le_of_ble_eq_true rfl) ?_
  refine ar_iload_n (i := 1) (pc := 0) dX6_come_0 rfl rfl ?_
  refine ar_idS (pc := 1) dX6_come_1 cal_X6_isHeight kX6_76 rfl (sX6_isHeightB (ppH w0 ff w1 gg z) a) rfl rfl rfl rfl rfl (fun r h1 hp => ?_)
  obtain ⟨⟨h1, rfl⟩ | ⟨h1, rfl⟩, rfl⟩ := hp
  · refine ⟨rfl, ?_⟩
    refine ar_if_ne (pc := 4) (tgt := 10) dX6_come_4 (by decide) (fun c4 => ?_) (fun c4 => absurd c4 (by decide))
    refine ar_aload_n (i := 0) (pc := 10) dX6_come_10 rfl rfl ?_
    refine ar_getf (pc := 11) dX6_come_11 fX6_10 rfl rfl ?_
    refine ar_getf (pc := 14) dX6_come_14 fX6_79 rfl rfl ?_
    refine ar_bipush (pc := 17) dX6_come_17 q_bipush_8 ?_
    refine ar_icmp_lt (pc := 19) (tgt := 25) dX6_come_19 (by decide) (fun c19 => ?_) (fun c19 => False.elim (by (simp (disch := omega) only [Int32.lt_iff_toInt_lt, Int32.le_iff_toInt_le, ← Int32.toInt_inj, ti_m6, ti_m1, ti_0, ti_1, ti_2, ti_3, ti_4, ti_5, ti_6, ti_7, ti_8, ti_9, ti_12, ti_100, ti_9999, ti_60, nI_toInt, hn] at c19) <;> omega))
    refine ar_aload_n (i := 0) (pc := 25) dX6_come_25 rfl rfl ?_
    refine ar_getf (pc := 26) dX6_come_26 fX6_36 rfl rfl ?_
    refine ar_aload_n (i := 0) (pc := 29) dX6_come_29 rfl rfl ?_
    refine ar_getf (pc := 30) dX6_come_30 fX6_10 rfl rfl ?_
    refine ar_rec (pc := 33) dX6_come_33 kX6_48 rfl rfl rfl rfl rfl hyn hyk ?_
    refine ar_aload_n (i := 0) (pc := 36) dX6_come_36 rfl rfl ?_
    refine ar_getf (pc := 37) dX6_come_37 fX6_10 rfl rfl ?_
    refine ar_iload_n (i := 1) (pc := 40) dX6_come_40 rfl rfl ?_
    refine ar_bipush (pc := 41) dX6_come_41 q_bipush_m6 ?_
    refine ar_mc (pc := 43) (l := [0, 1, 3, 4, 5, 6, 7, 8, 9, 10]) (ar_rV dX6_come_43 cal_X3_addBooth kX6_82 rfl (sX3_addBooth (pN (rcZ z)) n hn h8 a (-6)) rfl rfl rfl rfl rfl okp_N rfl rfl) okp_N rfl rfl rfl rfl (fun r h1 hp => ?_)
    obtain ⟨rfl, rfl⟩ := hp
    refine ⟨rfl, ?_⟩
    refine ar_hp (mP_N w0 ff w1 gg (rcZ z) (adB (pN (rcZ z)) n a (-6))) ?_
    refine ar_aload_n (i := 0) (pc := 46) dX6_come_46 rfl rfl ?_
    refine ar_getf (pc := 47) dX6_come_47 fX6_10 rfl rfl ?_
    refine ar_getf (pc := 50) dX6_come_50 fX6_79 rfl rfl ?_
    refine ar_iconst (pc := 53) dX6_come_53 q_iconst_1 ?_
    refine ar_isub (pc := 54) dX6_come_54 ?_
    exact ar_iret (pc := 55) dX6_come_55 rfl rfl rfl ⟨rfl, rfl⟩
  · refine ⟨rfl, ?_⟩
    refine ar_if_ne (pc := 4) (tgt := 10) dX6_come_4 (by decide) (fun c4 => absurd c4 (by decide)) (fun c4 => ?_)
    refine ar_bipush (pc := 7) dX6_come_7 q_bipush_m2 ?_
    exact absurd ha h1

set_option maxHeartbeats 4000000 in
set_option maxRecDepth 100000 in
theorem sX6_go_n (w0 : Bool) (ff : Nat → Int32) (w1 : Bool) (gg : Nat → Int32) (z : PV) (n : Nat) (hn : vBo (pN z) = nI n) (h8 : n ≤ 8) (b : Int32) (hb : ¬ bkP n b) : am_Sp mX6_go [.ref 2, .int b] (ppH w0 ff w1 gg z) (am_rp (-1) (ppH w0 ff w1 gg z)) := by
  refine am_intro (by decide) (Nat.le_of_ble_eq_true rfl) ?_
  refine ar_aload_n (i := 0) (pc := 0) dX6_go_0 rfl rfl ?_
  refine ar_getf (pc := 1) dX6_go_1 fX6_10 rfl rfl ?_
  refine ar_iload_n (i := 1) (pc := 4) dX6_go_4 rfl rfl ?_
  refine ar_mc (pc := 5) (l := [0, 1, 3, 4, 5, 6, 7, 8, 9, 10]) (ar_rV dX6_go_5 cal_X3_isBooth kX6_85 rfl (sX3_isBooth (pN z) n hn h8 _) rfl rfl rfl rfl rfl okp_N rfl rfl) okp_N rfl rfl rfl rfl (fun r h1 hp => ?_)
  obtain ⟨⟨h5, rfl⟩ | ⟨h5, rfl⟩, rfl⟩ := hp
  · refine ⟨rfl, ?_⟩
    refine ar_hp (mP_Ni w0 ff w1 gg z) ?_
    refine ar_if_ne (pc := 8) (tgt := 13) dX6_go_8 (by decide) (fun c8 => ?_) (fun c8 => absurd c8 (by decide))
    exact absurd h5 hb
  · refine ⟨rfl, ?_⟩
    refine ar_hp (mP_Ni w0 ff w1 gg z) ?_
    refine ar_if_ne (pc := 8) (tgt := 13) dX6_go_8 (by decide) (fun c8 => absurd c8 (by decide)) (fun c8 => ?_)
    refine ar_iconst (pc := 11) dX6_go_11 q_iconst_m1 ?_
    exact ar_iret (pc := 12) dX6_go_12 rfl rfl rfl ⟨rfl, rfl⟩

set_option maxHeartbeats 4000000 in
set_option maxRecDepth 100000 in
theorem sX6_go_s (w0 : Bool) (ff : Nat → Int32) (w1 : Bool) (gg : Nat → Int32) (z : PV) (n : Nat) (hn : vBo (pN z) = nI n) (h8 : n ≤ 8) {j : Nat} (hj : j < n) (hyn : (pY z).2.1 < 6) (hyk : (pY z).2.2 ≤ 6) : am_Sp mX6_go [.ref 2, .int (nI j)] (ppH w0 ff w1 gg z) (am_rp (vT (pN z) j) (ppH w0 ff w1 gg (sN (rcZ z) (rmB (pN z) n j)))) := by
  refine am_intro (by decide) (Nat.le_of_ble_eq_true rfl) ?_
  refine ar_aload_n (i := 0) (pc := 0) dX6_go_0 rfl rfl ?_
  refine ar_getf (pc := 1) dX6_go_1 fX6_10 rfl rfl ?_
  refine ar_iload_n (i := 1) (pc := 4) dX6_go_4 rfl rfl ?_
  refine ar_mc (pc := 5) (l := [0, 1, 3, 4, 5, 6, 7, 8, 9, 10]) (ar_rV dX6_go_5 cal_X3_isBooth kX6_85 rfl (sX3_isBooth (pN z) n hn h8 _) rfl rfl rfl rfl rfl okp_N rfl rfl) okp_N rfl rfl rfl rfl (fun r h1 hp => ?_)
  obtain ⟨⟨h5, rfl⟩ | ⟨h5, rfl⟩, rfl⟩ := hp
  · refine ⟨rfl, ?_⟩
    refine ar_hp (mP_Ni w0 ff w1 gg z) ?_
    refine ar_if_ne (pc := 8) (tgt := 13) dX6_go_8 (by decide) (fun c8 => ?_) (fun c8 => absurd c8 (by decide))
    refine ar_aload_n (i := 0) (pc := 13) dX6_go_13 rfl rfl ?_
    refine ar_getf (pc := 14) dX6_go_14 fX6_36 rfl rfl ?_
    refine ar_aload_n (i := 0) (pc := 17) dX6_go_17 rfl rfl ?_
    refine ar_getf (pc := 18) dX6_go_18 fX6_10 rfl rfl ?_
    refine ar_rec (pc := 21) dX6_go_21 kX6_48 rfl rfl rfl rfl rfl hyn hyk ?_
    refine ar_aload_n (i := 0) (pc := 24) dX6_go_24 rfl rfl ?_
    refine ar_getf (pc := 25) dX6_go_25 fX6_10 rfl rfl ?_
    refine ar_getf (pc := 28) dX6_go_28 fX6_88 rfl rfl ?_
    refine ar_iload_n (i := 1) (pc := 31) dX6_go_31 rfl rfl ?_
    refine ar_iald (pc := 32) dX6_go_32 rfl (show j < 8 by omega) rfl ?_
    refine ar_istore_n (i := 2) (pc := 33) dX6_go_33 rfl (Nat.le_of_ble_eq_true rfl) rfl ?_
    refine ar_aload_n (i := 0) (pc := 34) dX6_go_34 rfl rfl ?_
    refine ar_getf (pc := 35) dX6_go_35 fX6_10 rfl rfl ?_
    refine ar_iload_n (i := 1) (pc := 38) dX6_go_38 rfl rfl ?_
    refine ar_mc (pc := 39) (l := [0, 1, 3, 4, 5, 6, 7, 8, 9, 10]) (ar_rV dX6_go_39 cal_X3_removeBooth kX6_91 rfl (sX3_removeBooth (pN (rcZ z)) n hn h8 hj) rfl rfl rfl rfl rfl okp_N rfl rfl) okp_N rfl rfl rfl rfl (fun r h1 hp => ?_)
    obtain ⟨rfl, rfl⟩ := hp
    refine ⟨rfl, ?_⟩
    refine ar_hp (mP_N w0 ff w1 gg (rcZ z) (rmB (pN (rcZ z)) n j)) ?_
    refine ar_iload_n (i := 2) (pc := 42) dX6_go_42 rfl rfl ?_
    exact ar_iret (pc := 43) dX6_go_43 rfl rfl rfl ⟨rfl, rfl⟩
  · refine ⟨rfl, ?_⟩
    refine ar_hp (mP_Ni w0 ff w1 gg z) ?_
    refine ar_if_ne (pc := 8) (tgt := 13) dX6_go_8 (by decide) (fun c8 => absurd c8 (by decide)) (fun c8 => ?_)
    refine ar_iconst (pc := 11) dX6_go_11 q_iconst_m1 ?_
    exact absurd (bk_j h8 hj) h5

set_option maxHeartbeats 4000000 in
set_option maxRecDepth 100000 in
theorem sX6_height_n (w0 : Bool) (ff : Nat → Int32) (w1 : Bool) (gg : Nat → Int32) (z : PV) (n : Nat) (hn : vBo (pN z) = nI n) (h8 : n ≤ 8) (b a : Int32) (hb : ¬ bkP n b) : am_Sp mX6_height [.ref 2, .int b, .int a] (ppH w0 ff w1 gg z) (am_rp (-1) (ppH w0 ff w1 gg z)) := by
  refine am_intro (by decide) (Nat.le_of_ble_eq_true rfl) ?_
  refine ar_aload_n (i := 0) (pc := 0) dX6_height_0 rfl rfl ?_
  refine ar_getf (pc := 1) dX6_height_1 fX6_10 rfl rfl ?_
  refine ar_iload_n (i := 1) (pc := 4) dX6_height_4 rfl rfl ?_
  refine ar_mc (pc := 5) (l := [0, 1, 3, 4, 5, 6, 7, 8, 9, 10]) (ar_rV dX6_height_5 cal_X3_isBooth kX6_85 rfl (sX3_isBooth (pN z) n hn h8 _) rfl rfl rfl rfl rfl okp_N rfl rfl) okp_N rfl rfl rfl rfl (fun r h1 hp => ?_)
  obtain ⟨⟨h5, rfl⟩ | ⟨h5, rfl⟩, rfl⟩ := hp
  · refine ⟨rfl, ?_⟩
    refine ar_hp (mP_Ni w0 ff w1 gg z) ?_
    refine ar_if_ne (pc := 8) (tgt := 13) dX6_height_8 (by decide) (fun c8 => ?_) (fun c8 => absurd c8 (by decide))
    exact absurd h5 hb
  · refine ⟨rfl, ?_⟩
    refine ar_hp (mP_Ni w0 ff w1 gg z) ?_
    refine ar_if_ne (pc := 8) (tgt := 13) dX6_height_8 (by decide) (fun c8 => absurd c8 (by decide)) (fun c8 => ?_)
    refine ar_iconst (pc := 11) dX6_height_11 q_iconst_m1 ?_
    exact ar_iret (pc := 12) dX6_height_12 rfl rfl rfl ⟨rfl, rfl⟩

set_option maxHeartbeats 4000000 in
set_option maxRecDepth 100000 in
theorem sX6_height_o (w0 : Bool) (ff : Nat → Int32) (w1 : Bool) (gg : Nat → Int32) (z : PV) (n : Nat) (hn : vBo (pN z) = nI n) (h8 : n ≤ 8) {j : Nat} (hj : j < n) (a : Int32) (ha : ¬ (1 ≤ a.toInt ∧ a.toInt ≤ 9)) : am_Sp mX6_height [.ref 2, .int (nI j), .int a] (ppH w0 ff w1 gg z) (am_rp (-2) (ppH w0 ff w1 gg z)) := by
  refine am_intro (by decide) (Nat.le_of_ble_eq_true rfl) ?_
  refine ar_aload_n (i := 0) (pc := 0) dX6_height_0 rfl rfl ?_
  refine ar_getf (pc := 1) dX6_height_1 fX6_10 rfl rfl ?_
  refine ar_iload_n (i := 1) (pc := 4) dX6_height_4 rfl rfl ?_
  refine ar_mc (pc := 5) (l := [0, 1, 3, 4, 5, 6, 7, 8, 9, 10]) (ar_rV dX6_height_5 cal_X3_isBooth kX6_85 rfl (sX3_isBooth (pN z) n hn h8 _) rfl rfl rfl rfl rfl okp_N rfl rfl) okp_N rfl rfl rfl rfl (fun r h1 hp => ?_)
  obtain ⟨⟨h5, rfl⟩ | ⟨h5, rfl⟩, rfl⟩ := hp
  · refine ⟨rfl, ?_⟩
    refine ar_hp (mP_Ni w0 ff w1 gg z) ?_
    refine ar_if_ne (pc := 8) (tgt := 13) dX6_height_8 (by decide) (fun c8 => ?_) (fun c8 => absurd c8 (by decide))
    refine ar_iload_n (i := 2) (pc := 13) dX6_height_13 rfl rfl ?_
    refine ar_idS (pc := 14) dX6_height_14 cal_X6_isHeight kX6_76 rfl (sX6_isHeightB (ppH w0 ff w1 gg z) a) rfl rfl rfl rfl rfl (fun r h1 hp => ?_)
    obtain ⟨⟨h14, rfl⟩ | ⟨h14, rfl⟩, rfl⟩ := hp
    · refine ⟨rfl, ?_⟩
      refine ar_if_ne (pc := 17) (tgt := 23) dX6_height_17 (by decide) (fun c17 => ?_) (fun c17 => absurd c17 (by decide))
      exact absurd h14 ha
    · refine ⟨rfl, ?_⟩
      refine ar_if_ne (pc := 17) (tgt := 23) dX6_height_17 (by decide) (fun c17 => absurd c17 (by decide)) (fun c17 => ?_)
      refine ar_bipush (pc := 20) dX6_height_20 q_bipush_m2 ?_
      exact ar_iret (pc := 22) dX6_height_22 rfl rfl rfl ⟨rfl, rfl⟩
  · refine ⟨rfl, ?_⟩
    refine ar_hp (mP_Ni w0 ff w1 gg z) ?_
    refine ar_if_ne (pc := 8) (tgt := 13) dX6_height_8 (by decide) (fun c8 => absurd c8 (by decide)) (fun c8 => ?_)
    refine ar_iconst (pc := 11) dX6_height_11 q_iconst_m1 ?_
    exact absurd (bk_j h8 hj) h5

set_option maxHeartbeats 4000000 in
set_option maxRecDepth 100000 in
theorem sX6_height_s (w0 : Bool) (ff : Nat → Int32) (w1 : Bool) (gg : Nat → Int32) (z : PV) (n : Nat) (hn : vBo (pN z) = nI n) (h8 : n ≤ 8) {j : Nat} (hj : j < n) (a : Int32) (ha : 1 ≤ a.toInt ∧ a.toInt ≤ 9) (hyn : (pY z).2.1 < 6) (hyk : (pY z).2.2 ≤ 6) : am_Sp mX6_height [.ref 2, .int (nI j), .int a] (ppH w0 ff w1 gg z) (am_rp (vH (pN z) j) (ppH w0 ff w1 gg (sN (rcZ z) (uH (pN z) (upd (vH (pN z)) j a))))) := by
  refine am_intro (by decide) (Nat.le_of_ble_eq_true rfl) ?_
  refine ar_aload_n (i := 0) (pc := 0) dX6_height_0 rfl rfl ?_
  refine ar_getf (pc := 1) dX6_height_1 fX6_10 rfl rfl ?_
  refine ar_iload_n (i := 1) (pc := 4) dX6_height_4 rfl rfl ?_
  refine ar_mc (pc := 5) (l := [0, 1, 3, 4, 5, 6, 7, 8, 9, 10]) (ar_rV dX6_height_5 cal_X3_isBooth kX6_85 rfl (sX3_isBooth (pN z) n hn h8 _) rfl rfl rfl rfl rfl okp_N rfl rfl) okp_N rfl rfl rfl rfl (fun r h1 hp => ?_)
  obtain ⟨⟨h5, rfl⟩ | ⟨h5, rfl⟩, rfl⟩ := hp
  · refine ⟨rfl, ?_⟩
    refine ar_hp (mP_Ni w0 ff w1 gg z) ?_
    refine ar_if_ne (pc := 8) (tgt := 13) dX6_height_8 (by decide) (fun c8 => ?_) (fun c8 => absurd c8 (by decide))
    refine ar_iload_n (i := 2) (pc := 13) dX6_height_13 rfl rfl ?_
    refine ar_idS (pc := 14) dX6_height_14 cal_X6_isHeight kX6_76 rfl (sX6_isHeightB (ppH w0 ff w1 gg z) a) rfl rfl rfl rfl rfl (fun r h1 hp => ?_)
    obtain ⟨⟨h14, rfl⟩ | ⟨h14, rfl⟩, rfl⟩ := hp
    · refine ⟨rfl, ?_⟩
      refine ar_if_ne (pc := 17) (tgt := 23) dX6_height_17 (by decide) (fun c17 => ?_) (fun c17 => absurd c17 (by decide))
      refine ar_aload_n (i := 0) (pc := 23) dX6_height_23 rfl rfl ?_
      refine ar_getf (pc := 24) dX6_height_24 fX6_36 rfl rfl ?_
      refine ar_aload_n (i := 0) (pc := 27) dX6_height_27 rfl rfl ?_
      refine ar_getf (pc := 28) dX6_height_28 fX6_10 rfl rfl ?_
      refine ar_rec (pc := 31) dX6_height_31 kX6_48 rfl rfl rfl rfl rfl hyn hyk ?_
      refine ar_aload_n (i := 0) (pc := 34) dX6_height_34 rfl rfl ?_
      refine ar_getf (pc := 35) dX6_height_35 fX6_10 rfl rfl ?_
      refine ar_getf (pc := 38) dX6_height_38 fX6_95 rfl rfl ?_
      refine ar_iload_n (i := 1) (pc := 41) dX6_height_41 rfl rfl ?_
      refine ar_iald (pc := 42) dX6_height_42 rfl (show j < 8 by omega) rfl ?_
      refine ar_istore_n (i := 3) (pc := 43) dX6_height_43 rfl (Nat.le_of_ble_eq_true rfl) rfl ?_
      refine ar_aload_n (i := 0) (pc := 44) dX6_height_44 rfl rfl ?_
      refine ar_getf (pc := 45) dX6_height_45 fX6_10 rfl rfl ?_
      refine ar_getf (pc := 48) dX6_height_48 fX6_95 rfl rfl ?_
      refine ar_iload_n (i := 1) (pc := 51) dX6_height_51 rfl rfl ?_
      refine ar_iload_n (i := 2) (pc := 52) dX6_height_52 rfl rfl ?_
      refine ar_iast (pc := 53) dX6_height_53 rfl (show j < 8 by omega) rfl ?_
      rw [pp_H]
      refine ar_iload_n (i := 3) (pc := 54) dX6_height_54 rfl rfl ?_
      exact ar_iret (pc := 55) dX6_height_55 rfl rfl rfl ⟨rfl, rfl⟩
    · refine ⟨rfl, ?_⟩
      refine ar_if_ne (pc := 17) (tgt := 23) dX6_height_17 (by decide) (fun c17 => absurd c17 (by decide)) (fun c17 => ?_)
      refine ar_bipush (pc := 20) dX6_height_20 q_bipush_m2 ?_
      exact absurd ha h14
  · refine ⟨rfl, ?_⟩
    refine ar_hp (mP_Ni w0 ff w1 gg z) ?_
    refine ar_if_ne (pc := 8) (tgt := 13) dX6_height_8 (by decide) (fun c8 => absurd c8 (by decide)) (fun c8 => ?_)
    refine ar_iconst (pc := 11) dX6_height_11 q_iconst_m1 ?_
    exact absurd (bk_j h8 hj) h5

set_option maxHeartbeats 4000000 in
set_option maxRecDepth 100000 in
theorem sX6_stand_n (w0 : Bool) (ff : Nat → Int32) (w1 : Bool) (gg : Nat → Int32) (z : PV) (n : Nat) (hn : vBo (pN z) = nI n) (h8 : n ≤ 8) (b q : Int32) (hb : ¬ bkP n b ∨ (¬ q = -6 ∧ ¬ inP q)) : am_Sp mX6_stand [.ref 2, .int b, .int q] (ppH w0 ff w1 gg z) (am_rp (-1) (ppH w0 ff w1 gg z)) := by
  refine am_intro (by decide) (Nat.le_of_ble_eq_true rfl) ?_
  refine ar_aload_n (i := 0) (pc := 0) dX6_stand_0 rfl rfl ?_
  refine ar_getf (pc := 1) dX6_stand_1 fX6_10 rfl rfl ?_
  refine ar_iload_n (i := 1) (pc := 4) dX6_stand_4 rfl rfl ?_
  refine ar_mc (pc := 5) (l := [0, 1, 3, 4, 5, 6, 7, 8, 9, 10]) (ar_rV dX6_stand_5 cal_X3_isBooth kX6_85 rfl (sX3_isBooth (pN z) n hn h8 _) rfl rfl rfl rfl rfl okp_N rfl rfl) okp_N rfl rfl rfl rfl (fun r h1 hp => ?_)
  obtain ⟨⟨h5, rfl⟩ | ⟨h5, rfl⟩, rfl⟩ := hp
  · refine ⟨rfl, ?_⟩
    refine ar_hp (mP_Ni w0 ff w1 gg z) ?_
    refine ar_if_eq (pc := 8) (tgt := 24) dX6_stand_8 (by decide) (fun c8 => absurd c8 (by decide)) (fun c8 => ?_)
    refine ar_iload_n (i := 2) (pc := 11) dX6_stand_11 rfl rfl ?_
    refine ar_bipush (pc := 12) dX6_stand_12 q_bipush_m6 ?_
    refine ar_icmp_eq (pc := 14) (tgt := 26) dX6_stand_14 (by decide) (fun c14 => ?_) (fun c14 => ?_)
    · exact hb.elim (fun e => absurd h5 e) (fun e => absurd c14 e.1)
    · refine ar_iload_n (i := 2) (pc := 17) dX6_stand_17 rfl rfl ?_
      refine ar_idS (pc := 18) dX6_stand_18 cal_X6_isPitch kX6_60 rfl (sX6_isPitchB (ppH w0 ff w1 gg z) _) rfl rfl rfl rfl rfl (fun r h1 hp => ?_)
      obtain ⟨⟨h18, rfl⟩ | ⟨h18, rfl⟩, rfl⟩ := hp
      · refine ⟨rfl, ?_⟩
        refine ar_if_ne (pc := 21) (tgt := 26) dX6_stand_21 (by decide) (fun c21 => ?_) (fun c21 => absurd c21 (by decide))
        exact hb.elim (fun e => absurd h5 e) (fun e => absurd h18 e.2)
      · refine ⟨rfl, ?_⟩
        refine ar_if_ne (pc := 21) (tgt := 26) dX6_stand_21 (by decide) (fun c21 => absurd c21 (by decide)) (fun c21 => ?_)
        refine ar_iconst (pc := 24) dX6_stand_24 q_iconst_m1 ?_
        exact ar_iret (pc := 25) dX6_stand_25 rfl rfl rfl ⟨rfl, rfl⟩
  · refine ⟨rfl, ?_⟩
    refine ar_hp (mP_Ni w0 ff w1 gg z) ?_
    refine ar_if_eq (pc := 8) (tgt := 24) dX6_stand_8 (by decide) (fun c8 => ?_) (fun c8 => absurd c8 (by decide))
    refine ar_iconst (pc := 24) dX6_stand_24 q_iconst_m1 ?_
    exact ar_iret (pc := 25) dX6_stand_25 rfl rfl rfl ⟨rfl, rfl⟩

set_option maxHeartbeats 4000000 in
set_option maxRecDepth 100000 in
theorem lX6_stand_26t (h0 : am_H) (w0 : Bool) (ff : Nat → Int32) (w1 : Bool) (gg : Nat → Int32) (z : PV) (n : Nat) (hn : vBo (pN z) = nI n) (h8 : n ≤ 8) {j : Nat} (hj : j < n) (q : Int32) (ht : tkP (pN z) n q j) : am_RW mX6_stand h0 (am_rp (-5) (ppH w0 ff w1 gg z)) 0 0 26 [some (.ref 2), some (.int (nI j)), some (.int q), none] [] (ppH w0 ff w1 gg z) := by
  refine ar_aload_n (i := 0) (pc := 26) dX6_stand_26 rfl rfl ?_
  refine ar_getf (pc := 27) dX6_stand_27 fX6_10 rfl rfl ?_
  refine ar_iload_n (i := 2) (pc := 30) dX6_stand_30 rfl rfl ?_
  refine ar_iload_n (i := 1) (pc := 31) dX6_stand_31 rfl rfl ?_
  refine ar_mc (pc := 32) (l := [0, 1, 3, 4, 5, 6, 7, 8, 9, 10]) (ar_rV dX6_stand_32 cal_X3_isTakenByOther kX6_98 rfl (sX3_isTakenByOther (pN z) n hn h8 q (show j < 8 by omega)) rfl rfl rfl rfl rfl okp_N rfl rfl) okp_N rfl rfl rfl rfl (fun r h1 hp => ?_)
  obtain ⟨⟨h32, rfl⟩ | ⟨h32, rfl⟩, rfl⟩ := hp
  · refine ⟨rfl, ?_⟩
    refine ar_hp (mP_Ni w0 ff w1 gg z) ?_
    refine ar_if_eq (pc := 35) (tgt := 41) dX6_stand_35 (by decide) (fun c35 => absurd c35 (by decide)) (fun c35 => ?_)
    refine ar_bipush (pc := 38) dX6_stand_38 q_bipush_m5 ?_
    exact ar_iret (pc := 40) dX6_stand_40 rfl rfl rfl ⟨rfl, rfl⟩
  · refine ⟨rfl, ?_⟩
    refine ar_hp (mP_Ni w0 ff w1 gg z) ?_
    refine ar_if_eq (pc := 35) (tgt := 41) dX6_stand_35 (by decide) (fun c35 => ?_) (fun c35 => absurd c35 (by decide))
    exact absurd ht h32
set_option maxHeartbeats 4000000 in
set_option maxRecDepth 100000 in
theorem lX6_stand_26s (h0 : am_H) (w0 : Bool) (ff : Nat → Int32) (w1 : Bool) (gg : Nat → Int32) (z : PV) (n : Nat) (hn : vBo (pN z) = nI n) (h8 : n ≤ 8) {j : Nat} (hj : j < n) (q : Int32) (ht : ¬ tkP (pN z) n q j) (hyn : (pY z).2.1 < 6) (hyk : (pY z).2.2 ≤ 6) : am_RW mX6_stand h0 (am_rp (vP (pN z) j) (ppH w0 ff w1 gg (sN (rcZ z) (uP (pN z) (upd (vP (pN z)) j q))))) 0 0 26 [some (.ref 2), some (.int (nI j)), some (.int q), none] [] (ppH w0 ff w1 gg z) := by
  refine ar_aload_n (i := 0) (pc := 26) dX6_stand_26 rfl rfl ?_
  refine ar_getf (pc := 27) dX6_stand_27 fX6_10 rfl rfl ?_
  refine ar_iload_n (i := 2) (pc := 30) dX6_stand_30 rfl rfl ?_
  refine ar_iload_n (i := 1) (pc := 31) dX6_stand_31 rfl rfl ?_
  refine ar_mc (pc := 32) (l := [0, 1, 3, 4, 5, 6, 7, 8, 9, 10]) (ar_rV dX6_stand_32 cal_X3_isTakenByOther kX6_98 rfl (sX3_isTakenByOther (pN z) n hn h8 q (show j < 8 by omega)) rfl rfl rfl rfl rfl okp_N rfl rfl) okp_N rfl rfl rfl rfl (fun r h1 hp => ?_)
  obtain ⟨⟨h32, rfl⟩ | ⟨h32, rfl⟩, rfl⟩ := hp
  · refine ⟨rfl, ?_⟩
    refine ar_hp (mP_Ni w0 ff w1 gg z) ?_
    refine ar_if_eq (pc := 35) (tgt := 41) dX6_stand_35 (by decide) (fun c35 => absurd c35 (by decide)) (fun c35 => ?_)
    refine ar_bipush (pc := 38) dX6_stand_38 q_bipush_m5 ?_
    exact absurd h32 ht
  · refine ⟨rfl, ?_⟩
    refine ar_hp (mP_Ni w0 ff w1 gg z) ?_
    refine ar_if_eq (pc := 35) (tgt := 41) dX6_stand_35 (by decide) (fun c35 => ?_) (fun c35 => absurd c35 (by decide))
    refine ar_aload_n (i := 0) (pc := 41) dX6_stand_41 rfl rfl ?_
    refine ar_getf (pc := 42) dX6_stand_42 fX6_36 rfl rfl ?_
    refine ar_aload_n (i := 0) (pc := 45) dX6_stand_45 rfl rfl ?_
    refine ar_getf (pc := 46) dX6_stand_46 fX6_10 rfl rfl ?_
    refine ar_rec (pc := 49) dX6_stand_49 kX6_48 rfl rfl rfl rfl rfl hyn hyk ?_
    refine ar_aload_n (i := 0) (pc := 52) dX6_stand_52 rfl rfl ?_
    refine ar_getf (pc := 53) dX6_stand_53 fX6_10 rfl rfl ?_
    refine ar_getf (pc := 56) dX6_stand_56 fX6_102 rfl rfl ?_
    refine ar_iload_n (i := 1) (pc := 59) dX6_stand_59 rfl rfl ?_
    refine ar_iald (pc := 60) dX6_stand_60 rfl (show j < 8 by omega) rfl ?_
    refine ar_istore_n (i := 3) (pc := 61) dX6_stand_61 rfl (Nat.le_of_ble_eq_true rfl) rfl ?_
    refine ar_aload_n (i := 0) (pc := 62) dX6_stand_62 rfl rfl ?_
    refine ar_getf (pc := 63) dX6_stand_63 fX6_10 rfl rfl ?_
    refine ar_getf (pc := 66) dX6_stand_66 fX6_102 rfl rfl ?_
    refine ar_iload_n (i := 1) (pc := 69) dX6_stand_69 rfl rfl ?_
    refine ar_iload_n (i := 2) (pc := 70) dX6_stand_70 rfl rfl ?_
    refine ar_iast (pc := 71) dX6_stand_71 rfl (show j < 8 by omega) rfl ?_
    rw [pp_P]
    refine ar_iload_n (i := 3) (pc := 72) dX6_stand_72 rfl rfl ?_
    exact ar_iret (pc := 73) dX6_stand_73 rfl rfl rfl ⟨rfl, rfl⟩
set_option maxHeartbeats 4000000 in
set_option maxRecDepth 100000 in
theorem sX6_stand_t (w0 : Bool) (ff : Nat → Int32) (w1 : Bool) (gg : Nat → Int32) (z : PV) (n : Nat) (hn : vBo (pN z) = nI n) (h8 : n ≤ 8) {j : Nat} (hj : j < n) (q : Int32) (hq : q = -6 ∨ inP q) (ht : tkP (pN z) n q j) : am_Sp mX6_stand [.ref 2, .int (nI j), .int q] (ppH w0 ff w1 gg z) (am_rp (-5) (ppH w0 ff w1 gg z)) := by
  refine am_intro (by decide) (Nat.le_of_ble_eq_true rfl) ?_
  refine ar_aload_n (i := 0) (pc := 0) dX6_stand_0 rfl rfl ?_
  refine ar_getf (pc := 1) dX6_stand_1 fX6_10 rfl rfl ?_
  refine ar_iload_n (i := 1) (pc := 4) dX6_stand_4 rfl rfl ?_
  refine ar_mc (pc := 5) (l := [0, 1, 3, 4, 5, 6, 7, 8, 9, 10]) (ar_rV dX6_stand_5 cal_X3_isBooth kX6_85 rfl (sX3_isBooth (pN z) n hn h8 _) rfl rfl rfl rfl rfl okp_N rfl rfl) okp_N rfl rfl rfl rfl (fun r h1 hp => ?_)
  obtain ⟨⟨h5, rfl⟩ | ⟨h5, rfl⟩, rfl⟩ := hp
  · refine ⟨rfl, ?_⟩
    refine ar_hp (mP_Ni w0 ff w1 gg z) ?_
    refine ar_if_eq (pc := 8) (tgt := 24) dX6_stand_8 (by decide) (fun c8 => absurd c8 (by decide)) (fun c8 => ?_)
    refine ar_iload_n (i := 2) (pc := 11) dX6_stand_11 rfl rfl ?_
    refine ar_bipush (pc := 12) dX6_stand_12 q_bipush_m6 ?_
    refine ar_icmp_eq (pc := 14) (tgt := 26) dX6_stand_14 (by decide) (fun c14 => ?_) (fun c14 => ?_)
    · exact lX6_stand_26t _ w0 ff w1 gg z n hn h8 hj q ht
    · refine ar_iload_n (i := 2) (pc := 17) dX6_stand_17 rfl rfl ?_
      refine ar_idS (pc := 18) dX6_stand_18 cal_X6_isPitch kX6_60 rfl (sX6_isPitchB (ppH w0 ff w1 gg z) _) rfl rfl rfl rfl rfl (fun r h1 hp => ?_)
      obtain ⟨⟨h18, rfl⟩ | ⟨h18, rfl⟩, rfl⟩ := hp
      · refine ⟨rfl, ?_⟩
        refine ar_if_ne (pc := 21) (tgt := 26) dX6_stand_21 (by decide) (fun c21 => ?_) (fun c21 => absurd c21 (by decide))
        exact lX6_stand_26t _ w0 ff w1 gg z n hn h8 hj q ht
      · refine ⟨rfl, ?_⟩
        refine ar_if_ne (pc := 21) (tgt := 26) dX6_stand_21 (by decide) (fun c21 => absurd c21 (by decide)) (fun c21 => ?_)
        refine ar_iconst (pc := 24) dX6_stand_24 q_iconst_m1 ?_
        exact hq.elim (fun e => absurd e c14) (fun e => absurd e h18)
  · refine ⟨rfl, ?_⟩
    refine ar_hp (mP_Ni w0 ff w1 gg z) ?_
    refine ar_if_eq (pc := 8) (tgt := 24) dX6_stand_8 (by decide) (fun c8 => ?_) (fun c8 => absurd c8 (by decide))
    refine ar_iconst (pc := 24) dX6_stand_24 q_iconst_m1 ?_
    exact absurd (bk_j h8 hj) h5

set_option maxHeartbeats 4000000 in
set_option maxRecDepth 100000 in
theorem sX6_stand_s (w0 : Bool) (ff : Nat → Int32) (w1 : Bool) (gg : Nat → Int32) (z : PV) (n : Nat) (hn : vBo (pN z) = nI n) (h8 : n ≤ 8) {j : Nat} (hj : j < n) (q : Int32) (hq : q = -6 ∨ inP q) (ht : ¬ tkP (pN z) n q j) (hyn : (pY z).2.1 < 6) (hyk : (pY z).2.2 ≤ 6) : am_Sp mX6_stand [.ref 2, .int (nI j), .int q] (ppH w0 ff w1 gg z) (am_rp (vP (pN z) j) (ppH w0 ff w1 gg (sN (rcZ z) (uP (pN z) (upd (vP (pN z)) j q))))) := by
  refine am_intro (by decide) (Nat.le_of_ble_eq_true rfl) ?_
  refine ar_aload_n (i := 0) (pc := 0) dX6_stand_0 rfl rfl ?_
  refine ar_getf (pc := 1) dX6_stand_1 fX6_10 rfl rfl ?_
  refine ar_iload_n (i := 1) (pc := 4) dX6_stand_4 rfl rfl ?_
  refine ar_mc (pc := 5) (l := [0, 1, 3, 4, 5, 6, 7, 8, 9, 10]) (ar_rV dX6_stand_5 cal_X3_isBooth kX6_85 rfl (sX3_isBooth (pN z) n hn h8 _) rfl rfl rfl rfl rfl okp_N rfl rfl) okp_N rfl rfl rfl rfl (fun r h1 hp => ?_)
  obtain ⟨⟨h5, rfl⟩ | ⟨h5, rfl⟩, rfl⟩ := hp
  · refine ⟨rfl, ?_⟩
    refine ar_hp (mP_Ni w0 ff w1 gg z) ?_
    refine ar_if_eq (pc := 8) (tgt := 24) dX6_stand_8 (by decide) (fun c8 => absurd c8 (by decide)) (fun c8 => ?_)
    refine ar_iload_n (i := 2) (pc := 11) dX6_stand_11 rfl rfl ?_
    refine ar_bipush (pc := 12) dX6_stand_12 q_bipush_m6 ?_
    refine ar_icmp_eq (pc := 14) (tgt := 26) dX6_stand_14 (by decide) (fun c14 => ?_) (fun c14 => ?_)
    · exact lX6_stand_26s _ w0 ff w1 gg z n hn h8 hj q ht hyn hyk
    · refine ar_iload_n (i := 2) (pc := 17) dX6_stand_17 rfl rfl ?_
      refine ar_idS (pc := 18) dX6_stand_18 cal_X6_isPitch kX6_60 rfl (sX6_isPitchB (ppH w0 ff w1 gg z) _) rfl rfl rfl rfl rfl (fun r h1 hp => ?_)
      obtain ⟨⟨h18, rfl⟩ | ⟨h18, rfl⟩, rfl⟩ := hp
      · refine ⟨rfl, ?_⟩
        refine ar_if_ne (pc := 21) (tgt := 26) dX6_stand_21 (by decide) (fun c21 => ?_) (fun c21 => absurd c21 (by decide))
        exact lX6_stand_26s _ w0 ff w1 gg z n hn h8 hj q ht hyn hyk
      · refine ⟨rfl, ?_⟩
        refine ar_if_ne (pc := 21) (tgt := 26) dX6_stand_21 (by decide) (fun c21 => absurd c21 (by decide)) (fun c21 => ?_)
        refine ar_iconst (pc := 24) dX6_stand_24 q_iconst_m1 ?_
        exact hq.elim (fun e => absurd e c14) (fun e => absurd e h18)
  · refine ⟨rfl, ?_⟩
    refine ar_hp (mP_Ni w0 ff w1 gg z) ?_
    refine ar_if_eq (pc := 8) (tgt := 24) dX6_stand_8 (by decide) (fun c8 => ?_) (fun c8 => absurd c8 (by decide))
    refine ar_iconst (pc := 24) dX6_stand_24 q_iconst_m1 ?_
    exact absurd (bk_j h8 hj) h5

set_option maxHeartbeats 4000000 in
set_option maxRecDepth 100000 in
theorem sX6_shuffle_o (w0 : Bool) (ff : Nat → Int32) (w1 : Bool) (gg : Nat → Int32) (z : PV) (a : Int32) (ha : a < 0) : am_Sp mX6_shuffle [.ref 2, .int a] (ppH w0 ff w1 gg z) (am_rp (-2) (ppH w0 ff w1 gg z)) := by
  refine am_intro (by decide) (Nat.le_of_ble_eq_true rfl) ?_
  refine ar_iload_n (i := 1) (pc := 0) dX6_shuffle_0 rfl rfl ?_
  refine ar_if_ge (pc := 1) (tgt := 7) dX6_shuffle_1 (by decide) (fun c1 => absurd c1 (Int32.not_le.mpr ha)) (fun c1 => ?_)
  refine ar_bipush (pc := 4) dX6_shuffle_4 q_bipush_m2 ?_
  exact ar_iret (pc := 6) dX6_shuffle_6 rfl rfl rfl ⟨rfl, rfl⟩

set_option maxHeartbeats 4000000 in
set_option maxRecDepth 100000 in
theorem sX6_shuffle_s (w0 : Bool) (ff : Nat → Int32) (w1 : Bool) (gg : Nat → Int32) (z : PV) (a : Int32) (ha : 0 ≤ a) (hyn : (pY z).2.1 < 6) (hyk : (pY z).2.2 ≤ 6) : am_Sp mX6_shuffle [.ref 2, .int a] (ppH w0 ff w1 gg z) (am_rp (vX (pN z)).toInt32 (ppH w0 ff w1 gg (sN (rcZ z) (uX (pN z) a.toInt64)))) := by
  refine am_intro (by decide) (Nat.le_of_ble_eq_true rfl) ?_
  refine ar_iload_n (i := 1) (pc := 0) dX6_shuffle_0 rfl rfl ?_
  refine ar_if_ge (pc := 1) (tgt := 7) dX6_shuffle_1 (by decide) (fun c1 => ?_) (fun c1 => absurd ha c1)
  refine ar_aload_n (i := 0) (pc := 7) dX6_shuffle_7 rfl rfl ?_
  refine ar_getf (pc := 8) dX6_shuffle_8 fX6_36 rfl rfl ?_
  refine ar_aload_n (i := 0) (pc := 11) dX6_shuffle_11 rfl rfl ?_
  refine ar_getf (pc := 12) dX6_shuffle_12 fX6_10 rfl rfl ?_
  refine ar_rec (pc := 15) dX6_shuffle_15 kX6_48 rfl rfl rfl rfl rfl hyn hyk ?_
  refine ar_aload_n (i := 0) (pc := 18) dX6_shuffle_18 rfl rfl ?_
  refine ar_getf (pc := 19) dX6_shuffle_19 fX6_10 rfl rfl ?_
  refine ar_getf (pc := 22) dX6_shuffle_22 fX6_105 rfl rfl ?_
  refine ar_l2i (pc := 25) dX6_shuffle_25 ?_
  refine ar_istore_n (i := 2) (pc := 26) dX6_shuffle_26 rfl (Nat.le_of_ble_eq_true rfl) rfl ?_
  refine ar_aload_n (i := 0) (pc := 27) dX6_shuffle_27 rfl rfl ?_
  refine ar_getf (pc := 28) dX6_shuffle_28 fX6_10 rfl rfl ?_
  refine ar_iload_n (i := 1) (pc := 31) dX6_shuffle_31 rfl rfl ?_
  refine ar_i2l (pc := 32) dX6_shuffle_32 ?_
  refine ar_putf (pc := 33) dX6_shuffle_33 fX6_105 rfl (Nat.le_of_ble_eq_true rfl) (fun _ => ⟨rfl, rfl⟩) ?_
  rw [pp_X]
  refine ar_iload_n (i := 2) (pc := 36) dX6_shuffle_36 rfl rfl ?_
  exact ar_iret (pc := 37) dX6_shuffle_37 rfl rfl rfl ⟨rfl, rfl⟩

set_option maxHeartbeats 4000000 in
set_option maxRecDepth 100000 in
theorem sX6_play_f (w0 : Bool) (ff : Nat → Int32) (w1 : Bool) (gg : Nat → Int32) (z : PV) (hd : 9999 ≤ (vDa (pN z)).toInt) : am_Sp mX6_play [.ref 2] (ppH w0 ff w1 gg z) (am_rp (-4) (ppH w0 ff w1 gg z)) := by
  refine am_intro (by decide) (Nat.le_of_ble_eq_true rfl) ?_
  refine ar_aload_n (i := 0) (pc := 0) dX6_play_0 rfl rfl ?_
  refine ar_getf (pc := 1) dX6_play_1 fX6_10 rfl rfl ?_
  refine ar_getf (pc := 4) dX6_play_4 fX6_109 rfl rfl ?_
  refine ar_sipush (pc := 7) dX6_play_7 q_sipush_9999 ?_
  refine ar_icmp_lt (pc := 10) (tgt := 16) dX6_play_10 (by decide) (fun c10 => False.elim (by (simp (disch := omega) only [Int32.lt_iff_toInt_lt, Int32.le_iff_toInt_le, ← Int32.toInt_inj, ti_m6, ti_m1, ti_0, ti_1, ti_2, ti_3, ti_4, ti_5, ti_6, ti_7, ti_8, ti_9, ti_12, ti_100, ti_9999, ti_60, nI_toInt] at c10); omega)) (fun c10 => ?_)
  refine ar_bipush (pc := 13) dX6_play_13 q_bipush_m4 ?_
  exact ar_iret (pc := 15) dX6_play_15 rfl rfl rfl ⟨rfl, rfl⟩

set_option maxHeartbeats 4000000 in
set_option maxRecDepth 100000 in
theorem sX6_play_s (w0 : Bool) (ff : Nat → Int32) (w1 : Bool) (gg : Nat → Int32) (z : PV) (n : Nat) (hn : vBo (pN z) = nI n) (h8 : n ≤ 8) (hd : (vDa (pN z)).toInt < 9999) (hq : ∀ k, k < 8 → vP (pN z) k = -6 ∨ inP (vP (pN z) k)) (hyn : (pY z).2.1 < 6) (hyk : (pY z).2.2 ≤ 6) : am_Sp mX6_play [.ref 2] (ppH w0 ff w1 gg z) (am_rp (dyC (pN z) n) (ppH w0 ff w1 gg (sN (sW (rcZ z) (vwOf (ptV (pN z) n) (pqV (pN z) n))) (dyV (pN z) n)))) := by
  refine am_intro (by decide) (Nat.le_of_ble_eq_true rfl) ?_
  refine ar_aload_n (i := 0) (pc := 0) dX6_play_0 rfl rfl ?_
  refine ar_getf (pc := 1) dX6_play_1 fX6_10 rfl rfl ?_
  refine ar_getf (pc := 4) dX6_play_4 fX6_109 rfl rfl ?_
  refine ar_sipush (pc := 7) dX6_play_7 q_sipush_9999 ?_
  refine ar_icmp_lt (pc := 10) (tgt := 16) dX6_play_10 (by decide) (fun c10 => ?_) (fun c10 => False.elim (by (simp (disch := omega) only [Int32.lt_iff_toInt_lt, Int32.le_iff_toInt_le, ← Int32.toInt_inj, ti_m6, ti_m1, ti_0, ti_1, ti_2, ti_3, ti_4, ti_5, ti_6, ti_7, ti_8, ti_9, ti_12, ti_100, ti_9999, ti_60, nI_toInt] at c10); omega))
  refine ar_aload_n (i := 0) (pc := 16) dX6_play_16 rfl rfl ?_
  refine ar_getf (pc := 17) dX6_play_17 fX6_36 rfl rfl ?_
  refine ar_aload_n (i := 0) (pc := 20) dX6_play_20 rfl rfl ?_
  refine ar_getf (pc := 21) dX6_play_21 fX6_10 rfl rfl ?_
  refine ar_rec (pc := 24) dX6_play_24 kX6_48 rfl rfl rfl rfl rfl hyn hyk ?_
  refine ar_aload_n (i := 0) (pc := 27) dX6_play_27 rfl rfl ?_
  refine ar_getf (pc := 28) dX6_play_28 fX6_10 rfl rfl ?_
  refine ar_aload_n (i := 0) (pc := 31) dX6_play_31 rfl rfl ?_
  refine ar_getf (pc := 32) dX6_play_32 fX6_22 rfl rfl ?_
  refine ar_mc (pc := 35) (l := [0, 1, 19, 20, 21, 22, 23, 24, 25, 26, 3, 4, 5, 6, 7, 8, 9, 10]) (ar_rS dX6_play_35 cal_X0_pass kX6_112 rfl (sX0_pass (pW (rcZ z)).1 (pW (rcZ z)).2.1 (pW (rcZ z)).2.2.1 (pW (rcZ z)).2.2.2.1 (pW (rcZ z)).2.2.2.2.1 (pW (rcZ z)).2.2.2.2.2.1 (pW (rcZ z)).2.2.2.2.2.2.1 (pW (rcZ z)).2.2.2.2.2.2.2.1 (pW (rcZ z)).2.2.2.2.2.2.2.2 (pN (rcZ z)) n hn h8 hq) rfl rfl rfl okp_WN rfl rfl) okp_WN rfl rfl rfl rfl (fun r h1 hp => ?_)
  obtain ⟨rfl, rfl⟩ := hp
  refine ⟨rfl, ?_⟩
  refine ar_hp (mP_WN w0 ff w1 gg (rcZ z) (vwOf (ptV (pN (rcZ z)) n) (pqV (pN (rcZ z)) n)) (dyV (pN (rcZ z)) n)) ?_
  exact ar_iret (pc := 38) dX6_play_38 rfl rfl rfl ⟨rfl, rfl⟩
