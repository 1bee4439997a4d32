/-! the whole asked: count, seen -/
set_option maxHeartbeats 4000000 in
set_option maxRecDepth 100000 in
theorem sX6_count_s (w0 : Bool) (ff : Nat → Int32) (w1 : Bool) (gg : Nat → Int32) (z : PV) {k : Nat} (hk : k < 6) : am_Sp mX6_count [.ref 2, .int (nI k)] (ppH w0 ff w1 gg z) (am_rp (vS (pN z) k) (ppH w0 ff w1 gg z)) := by
  refine am_intro (by decide) (Nat.le_of_ble_eq_true rfl) ?_
  refine ar_iload_n (i := 1) (pc := 0) dX6_count_0 rfl rfl ?_
  refine ar_if_lt (pc := 1) (tgt := 21) dX6_count_1 (by decide) (fun c1 => False.elim (by (simp (disch := omega) only [Int32.lt_iff_toInt_lt, Int32.le_iff_toInt_le, ← Int32.toInt_inj, ti_m6, ti_m1, ti_0, ti_1, ti_2, ti_3, ti_4, ti_5, ti_6, ti_7, ti_8, ti_9, ti_12, ti_100, ti_9999, ti_60, nI_toInt] at c1) <;> omega)) (fun c1 => ?_)
  refine ar_iload_n (i := 1) (pc := 4) dX6_count_4 rfl rfl ?_
  refine ar_gets0 (pc := 5) dX6_count_5 sX6_177 ?_
  refine ar_alen (pc := 8) dX6_count_8 rfl ?_
  refine ar_icmp_ge (pc := 9) (tgt := 21) dX6_count_9 (by decide) (fun c9 => False.elim (by (simp (disch := omega) only [Int32.lt_iff_toInt_lt, Int32.le_iff_toInt_le, ← Int32.toInt_inj, ti_m6, ti_m1, ti_0, ti_1, ti_2, ti_3, ti_4, ti_5, ti_6, ti_7, ti_8, ti_9, ti_12, ti_100, ti_9999, ti_60, nI_toInt] at c9) <;> omega)) (fun c9 => ?_)
  refine ar_aload_n (i := 0) (pc := 12) dX6_count_12 rfl rfl ?_
  refine ar_getf (pc := 13) dX6_count_13 fX6_10 rfl rfl ?_
  refine ar_iload_n (i := 1) (pc := 16) dX6_count_16 rfl rfl ?_
  refine ar_mc (pc := 17) (l := [0, 1, 3, 4, 5, 6, 7, 8, 9, 10]) (ar_rV dX6_count_17 cal_X3_setting kX6_52 rfl (sX3_setting (pN z) (k := k) (by first | decide | omega)) rfl rfl rfl rfl rfl okp_N rfl rfl) okp_N rfl rfl rfl rfl (fun r h1 hp => ?_)
  obtain ⟨rfl, rfl⟩ := hp
  refine ⟨rfl, ?_⟩
  refine ar_hp (mP_Ni w0 ff w1 gg z) ?_
  exact ar_iret (pc := 20) dX6_count_20 rfl rfl rfl ⟨rfl, rfl⟩

set_option maxHeartbeats 4000000 in
set_option maxRecDepth 100000 in
theorem sX6_count_6 (w0 : Bool) (ff : Nat → Int32) (w1 : Bool) (gg : Nat → Int32) (z : PV) (n : Nat) (hn : vBo (pN z) = nI n) (h8 : n ≤ 8) : am_Sp mX6_count [.ref 2, .int (nI 6)] (ppH w0 ff w1 gg z) (am_rp (vX (pN z)).toInt32 (ppH w0 ff w1 gg z)) := by
  refine am_intro (by decide) (Nat.le_of_ble_eq_true rfl) ?_
  refine ar_iload_n (i := 1) (pc := 0) dX6_count_0 rfl rfl ?_
  refine ar_if_lt (pc := 1) (tgt := 21) dX6_count_1 (by decide) (fun c1 => False.elim (by (simp (disch := omega) only [Int32.lt_iff_toInt_lt, Int32.le_iff_toInt_le, ← Int32.toInt_inj, ti_m6, ti_m1, ti_0, ti_1, ti_2, ti_3, ti_4, ti_5, ti_6, ti_7, ti_8, ti_9, ti_12, ti_100, ti_9999, ti_60, nI_toInt] at c1) <;> omega)) (fun c1 => ?_)
  refine ar_iload_n (i := 1) (pc := 4) dX6_count_4 rfl rfl ?_
  refine ar_gets0 (pc := 5) dX6_count_5 sX6_177 ?_
  refine ar_alen (pc := 8) dX6_count_8 rfl ?_
  refine ar_icmp_ge (pc := 9) (tgt := 21) dX6_count_9 (by decide) (fun c9 => ?_) (fun c9 => False.elim (by (simp (disch := omega) only [Int32.lt_iff_toInt_lt, Int32.le_iff_toInt_le, ← Int32.toInt_inj, ti_m6, ti_m1, ti_0, ti_1, ti_2, ti_3, ti_4, ti_5, ti_6, ti_7, ti_8, ti_9, ti_12, ti_100, ti_9999, ti_60, nI_toInt] at c9) <;> omega))
  refine ar_iload_n (i := 1) (pc := 21) dX6_count_21 rfl rfl ?_
  refine ar_tsIn (pc := 22) (tgt := 80) (off := 58) dX6_count_22 (by decide +kernel) (by decide +kernel) (by decide +kernel) (by decide) ?_
  refine ar_aload_n (i := 0) (pc := 80) dX6_count_80 rfl rfl ?_
  refine ar_getf (pc := 81) dX6_count_81 fX6_10 rfl rfl ?_
  refine ar_getf (pc := 84) dX6_count_84 fX6_105 rfl rfl ?_
  refine ar_l2i (pc := 87) dX6_count_87 ?_
  exact ar_iret (pc := 88) dX6_count_88 rfl rfl rfl ⟨rfl, rfl⟩

set_option maxHeartbeats 4000000 in
set_option maxRecDepth 100000 in
theorem sX6_count_7 (w0 : Bool) (ff : Nat → Int32) (w1 : Bool) (gg : Nat → Int32) (z : PV) (n : Nat) (hn : vBo (pN z) = nI n) (h8 : n ≤ 8) : am_Sp mX6_count [.ref 2, .int (nI 7)] (ppH w0 ff w1 gg z) (am_rp (vBo (pN z)) (ppH w0 ff w1 gg z)) := by
  refine am_intro (by decide) (Nat.le_of_ble_eq_true rfl) ?_
  refine ar_iload_n (i := 1) (pc := 0) dX6_count_0 rfl rfl ?_
  refine ar_if_lt (pc := 1) (tgt := 21) dX6_count_1 (by decide) (fun c1 => False.elim (by (simp (disch := omega) only [Int32.lt_iff_toInt_lt, Int32.le_iff_toInt_le, ← Int32.toInt_inj, ti_m6, ti_m1, ti_0, ti_1, ti_2, ti_3, ti_4, ti_5, ti_6, ti_7, ti_8, ti_9, ti_12, ti_100, ti_9999, ti_60, nI_toInt] at c1) <;> omega)) (fun c1 => ?_)
  refine ar_iload_n (i := 1) (pc := 4) dX6_count_4 rfl rfl ?_
  refine ar_gets0 (pc := 5) dX6_count_5 sX6_177 ?_
  refine ar_alen (pc := 8) dX6_count_8 rfl ?_
  refine ar_icmp_ge (pc := 9) (tgt := 21) dX6_count_9 (by decide) (fun c9 => ?_) (fun c9 => False.elim (by (simp (disch := omega) only [Int32.lt_iff_toInt_lt, Int32.le_iff_toInt_le, ← Int32.toInt_inj, ti_m6, ti_m1, ti_0, ti_1, ti_2, ti_3, ti_4, ti_5, ti_6, ti_7, ti_8, ti_9, ti_12, ti_100, ti_9999, ti_60, nI_toInt] at c9) <;> omega))
  refine ar_iload_n (i := 1) (pc := 21) dX6_count_21 rfl rfl ?_
  refine ar_tsIn (pc := 22) (tgt := 89) (off := 67) dX6_count_22 (by decide +kernel) (by decide +kernel) (by decide +kernel) (by decide) ?_
  refine ar_aload_n (i := 0) (pc := 89) dX6_count_89 rfl rfl ?_
  refine ar_getf (pc := 90) dX6_count_90 fX6_10 rfl rfl ?_
  refine ar_getf (pc := 93) dX6_count_93 fX6_79 rfl rfl ?_
  exact ar_iret (pc := 96) dX6_count_96 rfl rfl rfl ⟨rfl, rfl⟩

set_option maxHeartbeats 4000000 in
set_option maxRecDepth 100000 in
theorem sX6_count_8 (w0 : Bool) (ff : Nat → Int32) (w1 : Bool) (gg : Nat → Int32) (z : PV) (n : Nat) (hn : vBo (pN z) = nI n) (h8 : n ≤ 8) : am_Sp mX6_count [.ref 2, .int (nI 8)] (ppH w0 ff w1 gg z) (am_rp (nI (cst (pN z) n 8)) (ppH w0 ff w1 gg z)) := by
  refine am_intro (by decide) (Nat.le_of_ble_eq_true rfl) ?_
  refine ar_iload_n (i := 1) (pc := 0) dX6_count_0 rfl rfl ?_
  refine ar_if_lt (pc := 1) (tgt := 21) dX6_count_1 (by decide) (fun c1 => False.elim (by (simp (disch := omega) only [Int32.lt_iff_toInt_lt, Int32.le_iff_toInt_le, ← Int32.toInt_inj, ti_m6, ti_m1, ti_0, ti_1, ti_2, ti_3, ti_4, ti_5, ti_6, ti_7, ti_8, ti_9, ti_12, ti_100, ti_9999, ti_60, nI_toInt] at c1) <;> omega)) (fun c1 => ?_)
  refine ar_iload_n (i := 1) (pc := 4) dX6_count_4 rfl rfl ?_
  refine ar_gets0 (pc := 5) dX6_count_5 sX6_177 ?_
  refine ar_alen (pc := 8) dX6_count_8 rfl ?_
  refine ar_icmp_ge (pc := 9) (tgt := 21) dX6_count_9 (by decide) (fun c9 => ?_) (fun c9 => False.elim (by (simp (disch := omega) only [Int32.lt_iff_toInt_lt, Int32.le_iff_toInt_le, ← Int32.toInt_inj, ti_m6, ti_m1, ti_0, ti_1, ti_2, ti_3, ti_4, ti_5, ti_6, ti_7, ti_8, ti_9, ti_12, ti_100, ti_9999, ti_60, nI_toInt] at c9) <;> omega))
  refine ar_iload_n (i := 1) (pc := 21) dX6_count_21 rfl rfl ?_
  refine ar_tsIn (pc := 22) (tgt := 97) (off := 75) dX6_count_22 (by decide +kernel) (by decide +kernel) (by decide +kernel) (by decide) ?_
  refine ar_aload_n (i := 0) (pc := 97) dX6_count_97 rfl rfl ?_
  refine ar_getf (pc := 98) dX6_count_98 fX6_10 rfl rfl ?_
  refine ar_mc (pc := 101) (l := [0, 1, 3, 4, 5, 6, 7, 8, 9, 10]) (ar_rV dX6_count_101 cal_X3_countStanding kX6_180 rfl (sX3_countStanding (pN z) n hn h8) rfl rfl rfl rfl rfl okp_N rfl rfl) okp_N rfl rfl rfl rfl (fun r h1 hp => ?_)
  obtain ⟨rfl, rfl⟩ := hp
  refine ⟨rfl, ?_⟩
  refine ar_hp (mP_Ni w0 ff w1 gg z) ?_
  exact ar_iret (pc := 104) dX6_count_104 rfl rfl rfl ⟨rfl, rfl⟩

set_option maxHeartbeats 4000000 in
set_option maxRecDepth 100000 in
theorem sX6_count_9 (w0 : Bool) (ff : Nat → Int32) (w1 : Bool) (gg : Nat → Int32) (z : PV) (n : Nat) (hn : vBo (pN z) = nI n) (h8 : n ≤ 8) : am_Sp mX6_count [.ref 2, .int (nI 9)] (ppH w0 ff w1 gg z) (am_rp (vRo (pN z)) (ppH w0 ff w1 gg z)) := by
  refine am_intro (by decide) (Nat.le_of_ble_eq_true rfl) ?_
  refine ar_iload_n (i := 1) (pc := 0) dX6_count_0 rfl rfl ?_
  refine ar_if_lt (pc := 1) (tgt := 21) dX6_count_1 (by decide) (fun c1 => False.elim (by (simp (disch := omega) only [Int32.lt_iff_toInt_lt, Int32.le_iff_toInt_le, ← Int32.toInt_inj, ti_m6, ti_m1, ti_0, ti_1, ti_2, ti_3, ti_4, ti_5, ti_6, ti_7, ti_8, ti_9, ti_12, ti_100, ti_9999, ti_60, nI_toInt] at c1) <;> omega)) (fun c1 => ?_)
  refine ar_iload_n (i := 1) (pc := 4) dX6_count_4 rfl rfl ?_
  refine ar_gets0 (pc := 5) dX6_count_5 sX6_177 ?_
  refine ar_alen (pc := 8) dX6_count_8 rfl ?_
  refine ar_icmp_ge (pc := 9) (tgt := 21) dX6_count_9 (by decide) (fun c9 => ?_) (fun c9 => False.elim (by (simp (disch := omega) only [Int32.lt_iff_toInt_lt, Int32.le_iff_toInt_le, ← Int32.toInt_inj, ti_m6, ti_m1, ti_0, ti_1, ti_2, ti_3, ti_4, ti_5, ti_6, ti_7, ti_8, ti_9, ti_12, ti_100, ti_9999, ti_60, nI_toInt] at c9) <;> omega))
  refine ar_iload_n (i := 1) (pc := 21) dX6_count_21 rfl rfl ?_
  refine ar_tsIn (pc := 22) (tgt := 105) (off := 83) dX6_count_22 (by decide +kernel) (by decide +kernel) (by decide +kernel) (by decide) ?_
  refine ar_aload_n (i := 0) (pc := 105) dX6_count_105 rfl rfl ?_
  refine ar_getf (pc := 106) dX6_count_106 fX6_10 rfl rfl ?_
  refine ar_getf (pc := 109) dX6_count_109 fX6_67 rfl rfl ?_
  exact ar_iret (pc := 112) dX6_count_112 rfl rfl rfl ⟨rfl, rfl⟩

set_option maxHeartbeats 4000000 in
set_option maxRecDepth 100000 in
theorem sX6_count_10 (w0 : Bool) (ff : Nat → Int32) (w1 : Bool) (gg : Nat → Int32) (z : PV) (n : Nat) (hn : vBo (pN z) = nI n) (h8 : n ≤ 8) : am_Sp mX6_count [.ref 2, .int (nI 10)] (ppH w0 ff w1 gg z) (rpW (vS (pN z) 0 + vS (pN z) 1 - swN (pN z) n) w0 ff w1 gg z) := by
  refine am_intro (by decide) (Nat.le_of_ble_eq_true rfl) ?_
  refine ar_iload_n (i := 1) (pc := 0) dX6_count_0 rfl rfl ?_
  refine ar_if_lt (pc := 1) (tgt := 21) dX6_count_1 (by decide) (fun c1 => False.elim (by (simp (disch := omega) only [Int32.lt_iff_toInt_lt, Int32.le_iff_toInt_le, ← Int32.toInt_inj, ti_m6, ti_m1, ti_0, ti_1, ti_2, ti_3, ti_4, ti_5, ti_6, ti_7, ti_8, ti_9, ti_12, ti_100, ti_9999, ti_60, nI_toInt] at c1) <;> omega)) (fun c1 => ?_)
  refine ar_iload_n (i := 1) (pc := 4) dX6_count_4 rfl rfl ?_
  refine ar_gets0 (pc := 5) dX6_count_5 sX6_177 ?_
  refine ar_alen (pc := 8) dX6_count_8 rfl ?_
  refine ar_icmp_ge (pc := 9) (tgt := 21) dX6_count_9 (by decide) (fun c9 => ?_) (fun c9 => False.elim (by (simp (disch := omega) only [Int32.lt_iff_toInt_lt, Int32.le_iff_toInt_le, ← Int32.toInt_inj, ti_m6, ti_m1, ti_0, ti_1, ti_2, ti_3, ti_4, ti_5, ti_6, ti_7, ti_8, ti_9, ti_12, ti_100, ti_9999, ti_60, nI_toInt] at c9) <;> omega))
  refine ar_iload_n (i := 1) (pc := 21) dX6_count_21 rfl rfl ?_
  refine ar_tsIn (pc := 22) (tgt := 113) (off := 91) dX6_count_22 (by decide +kernel) (by decide +kernel) (by decide +kernel) (by decide) ?_
  refine ar_aload_n (i := 0) (pc := 113) dX6_count_113 rfl rfl ?_
  refine ar_getf (pc := 114) dX6_count_114 fX6_10 rfl rfl ?_
  refine ar_iconst (pc := 117) dX6_count_117 q_iconst_0 ?_
  rw [← nI_0]
  refine ar_mc (pc := 118) (l := [0, 1, 3, 4, 5, 6, 7, 8, 9, 10]) (ar_rV dX6_count_118 cal_X3_setting kX6_52 rfl (sX3_setting (pN z) (k := 0) (by decide)) rfl rfl rfl rfl rfl okp_N rfl rfl) okp_N rfl rfl rfl rfl (fun r h1 hp => ?_)
  obtain ⟨rfl, rfl⟩ := hp
  refine ⟨rfl, ?_⟩
  refine ar_hp (mP_Ni w0 ff w1 gg z) ?_
  refine ar_aload_n (i := 0) (pc := 121) dX6_count_121 rfl rfl ?_
  refine ar_getf (pc := 122) dX6_count_122 fX6_10 rfl rfl ?_
  refine ar_iconst (pc := 125) dX6_count_125 q_iconst_1 ?_
  rw [show (1 : Int32) = nI 1 by decide +kernel]
  refine ar_mc (pc := 126) (l := [0, 1, 3, 4, 5, 6, 7, 8, 9, 10]) (ar_rV dX6_count_126 cal_X3_setting kX6_52 rfl (sX3_setting (pN z) (k := 1) (by decide)) rfl rfl rfl rfl rfl okp_N rfl rfl) okp_N rfl rfl rfl rfl (fun r h1 hp => ?_)
  obtain ⟨rfl, rfl⟩ := hp
  refine ⟨rfl, ?_⟩
  refine ar_hp (mP_Ni w0 ff w1 gg z) ?_
  refine ar_iadd (pc := 129) dX6_count_129 ?_
  refine ar_aload_n (i := 0) (pc := 130) dX6_count_130 rfl rfl ?_
  refine ar_idV (pc := 131) dX6_count_131 cal_X6_stoppingNowhere kX6_183 rfl (sX6_stoppingNowhere w0 ff w1 gg z n hn h8) rfl rfl rfl rfl rfl rfl rfl (fun r h1 hp => ?_)
  obtain ⟨rfl, x, rfl⟩ := hp
  refine ⟨pat_ppW .., ?_⟩
  refine ar_isub (pc := 134) dX6_count_134 ?_
  exact ar_iret (pc := 135) dX6_count_135 rfl rfl rfl ⟨rfl, _, rfl⟩

set_option maxHeartbeats 4000000 in
set_option maxRecDepth 100000 in
theorem sX6_count_11 (w0 : Bool) (ff : Nat → Int32) (w1 : Bool) (gg : Nat → Int32) (z : PV) (n : Nat) (hn : vBo (pN z) = nI n) (h8 : n ≤ 8) : am_Sp mX6_count [.ref 2, .int (nI 11)] (ppH w0 ff w1 gg z) (rpW (swN (pN z) n) w0 ff w1 gg z) := by
  refine am_intro (by decide) (Nat.le_of_ble_eq_true rfl) ?_
  refine ar_iload_n (i := 1) (pc := 0) dX6_count_0 rfl rfl ?_
  refine ar_if_lt (pc := 1) (tgt := 21) dX6_count_1 (by decide) (fun c1 => False.elim (by (simp (disch := omega) only [Int32.lt_iff_toInt_lt, Int32.le_iff_toInt_le, ← Int32.toInt_inj, ti_m6, ti_m1, ti_0, ti_1, ti_2, ti_3, ti_4, ti_5, ti_6, ti_7, ti_8, ti_9, ti_12, ti_100, ti_9999, ti_60, nI_toInt] at c1) <;> omega)) (fun c1 => ?_)
  refine ar_iload_n (i := 1) (pc := 4) dX6_count_4 rfl rfl ?_
  refine ar_gets0 (pc := 5) dX6_count_5 sX6_177 ?_
  refine ar_alen (pc := 8) dX6_count_8 rfl ?_
  refine ar_icmp_ge (pc := 9) (tgt := 21) dX6_count_9 (by decide) (fun c9 => ?_) (fun c9 => False.elim (by (simp (disch := omega) only [Int32.lt_iff_toInt_lt, Int32.le_iff_toInt_le, ← Int32.toInt_inj, ti_m6, ti_m1, ti_0, ti_1, ti_2, ti_3, ti_4, ti_5, ti_6, ti_7, ti_8, ti_9, ti_12, ti_100, ti_9999, ti_60, nI_toInt] at c9) <;> omega))
  refine ar_iload_n (i := 1) (pc := 21) dX6_count_21 rfl rfl ?_
  refine ar_tsIn (pc := 22) (tgt := 136) (off := 114) dX6_count_22 (by decide +kernel) (by decide +kernel) (by decide +kernel) (by decide) ?_
  refine ar_aload_n (i := 0) (pc := 136) dX6_count_136 rfl rfl ?_
  refine ar_idV (pc := 137) dX6_count_137 cal_X6_stoppingNowhere kX6_183 rfl (sX6_stoppingNowhere w0 ff w1 gg z n hn h8) rfl rfl rfl rfl rfl rfl rfl (fun r h1 hp => ?_)
  obtain ⟨rfl, x, rfl⟩ := hp
  refine ⟨pat_ppW .., ?_⟩
  exact ar_iret (pc := 140) dX6_count_140 rfl rfl rfl ⟨rfl, _, rfl⟩

set_option maxHeartbeats 4000000 in
set_option maxRecDepth 100000 in
theorem sX6_count_12 (w0 : Bool) (ff : Nat → Int32) (w1 : Bool) (gg : Nat → Int32) (z : PV) (n : Nat) (hn : vBo (pN z) = nI n) (h8 : n ≤ 8) : am_Sp mX6_count [.ref 2, .int (nI 12)] (ppH w0 ff w1 gg z) (am_rp (vDa (pN z)) (ppH w0 ff w1 gg z)) := by
  refine am_intro (by decide) (Nat.le_of_ble_eq_true rfl) ?_
  refine ar_iload_n (i := 1) (pc := 0) dX6_count_0 rfl rfl ?_
  refine ar_if_lt (pc := 1) (tgt := 21) dX6_count_1 (by decide) (fun c1 => False.elim (by (simp (disch := omega) only [Int32.lt_iff_toInt_lt, Int32.le_iff_toInt_le, ← Int32.toInt_inj, ti_m6, ti_m1, ti_0, ti_1, ti_2, ti_3, ti_4, ti_5, ti_6, ti_7, ti_8, ti_9, ti_12, ti_100, ti_9999, ti_60, nI_toInt] at c1) <;> omega)) (fun c1 => ?_)
  refine ar_iload_n (i := 1) (pc := 4) dX6_count_4 rfl rfl ?_
  refine ar_gets0 (pc := 5) dX6_count_5 sX6_177 ?_
  refine ar_alen (pc := 8) dX6_count_8 rfl ?_
  refine ar_icmp_ge (pc := 9) (tgt := 21) dX6_count_9 (by decide) (fun c9 => ?_) (fun c9 => False.elim (by (simp (disch := omega) only [Int32.lt_iff_toInt_lt, Int32.le_iff_toInt_le, ← Int32.toInt_inj, ti_m6, ti_m1, ti_0, ti_1, ti_2, ti_3, ti_4, ti_5, ti_6, ti_7, ti_8, ti_9, ti_12, ti_100, ti_9999, ti_60, nI_toInt] at c9) <;> omega))
  refine ar_iload_n (i := 1) (pc := 21) dX6_count_21 rfl rfl ?_
  refine ar_tsIn (pc := 22) (tgt := 141) (off := 119) dX6_count_22 (by decide +kernel) (by decide +kernel) (by decide +kernel) (by decide) ?_
  refine ar_aload_n (i := 0) (pc := 141) dX6_count_141 rfl rfl ?_
  refine ar_getf (pc := 142) dX6_count_142 fX6_10 rfl rfl ?_
  refine ar_getf (pc := 145) dX6_count_145 fX6_109 rfl rfl ?_
  exact ar_iret (pc := 148) dX6_count_148 rfl rfl rfl ⟨rfl, rfl⟩

set_option maxHeartbeats 4000000 in
set_option maxRecDepth 100000 in
theorem sX6_count_13 (w0 : Bool) (ff : Nat → Int32) (w1 : Bool) (gg : Nat → Int32) (z : PV) (n : Nat) (hn : vBo (pN z) = nI n) (h8 : n ≤ 8) : am_Sp mX6_count [.ref 2, .int (nI 13)] (ppH w0 ff w1 gg z) (am_rp (vRa (pN z)) (ppH w0 ff w1 gg z)) := by
  refine am_intro (by decide) (Nat.le_of_ble_eq_true rfl) ?_
  refine ar_iload_n (i := 1) (pc := 0) dX6_count_0 rfl rfl ?_
  refine ar_if_lt (pc := 1) (tgt := 21) dX6_count_1 (by decide) (fun c1 => False.elim (by (simp (disch := omega) only [Int32.lt_iff_toInt_lt, Int32.le_iff_toInt_le, ← Int32.toInt_inj, ti_m6, ti_m1, ti_0, ti_1, ti_2, ti_3, ti_4, ti_5, ti_6, ti_7, ti_8, ti_9, ti_12, ti_100, ti_9999, ti_60, nI_toInt] at c1) <;> omega)) (fun c1 => ?_)
  refine ar_iload_n (i := 1) (pc := 4) dX6_count_4 rfl rfl ?_
  refine ar_gets0 (pc := 5) dX6_count_5 sX6_177 ?_
  refine ar_alen (pc := 8) dX6_count_8 rfl ?_
  refine ar_icmp_ge (pc := 9) (tgt := 21) dX6_count_9 (by decide) (fun c9 => ?_) (fun c9 => False.elim (by (simp (disch := omega) only [Int32.lt_iff_toInt_lt, Int32.le_iff_toInt_le, ← Int32.toInt_inj, ti_m6, ti_m1, ti_0, ti_1, ti_2, ti_3, ti_4, ti_5, ti_6, ti_7, ti_8, ti_9, ti_12, ti_100, ti_9999, ti_60, nI_toInt] at c9) <;> omega))
  refine ar_iload_n (i := 1) (pc := 21) dX6_count_21 rfl rfl ?_
  refine ar_tsIn (pc := 22) (tgt := 149) (off := 127) dX6_count_22 (by decide +kernel) (by decide +kernel) (by decide +kernel) (by decide) ?_
  refine ar_aload_n (i := 0) (pc := 149) dX6_count_149 rfl rfl ?_
  refine ar_getf (pc := 150) dX6_count_150 fX6_10 rfl rfl ?_
  refine ar_getf (pc := 153) dX6_count_153 fX6_186 rfl rfl ?_
  exact ar_iret (pc := 156) dX6_count_156 rfl rfl rfl ⟨rfl, rfl⟩

set_option maxHeartbeats 4000000 in
set_option maxRecDepth 100000 in
theorem sX6_count_14 (w0 : Bool) (ff : Nat → Int32) (w1 : Bool) (gg : Nat → Int32) (z : PV) (n : Nat) (hn : vBo (pN z) = nI n) (h8 : n ≤ 8) : am_Sp mX6_count [.ref 2, .int (nI 14)] (ppH w0 ff w1 gg z) (am_rp (vTa (pN z)) (ppH w0 ff w1 gg z)) := by
  refine am_intro (by decide) (Nat.le_of_ble_eq_true rfl) ?_
  refine ar_iload_n (i := 1) (pc := 0) dX6_count_0 rfl rfl ?_
  refine ar_if_lt (pc := 1) (tgt := 21) dX6_count_1 (by decide) (fun c1 => False.elim (by (simp (disch := omega) only [Int32.lt_iff_toInt_lt, Int32.le_iff_toInt_le, ← Int32.toInt_inj, ti_m6, ti_m1, ti_0, ti_1, ti_2, ti_3, ti_4, ti_5, ti_6, ti_7, ti_8, ti_9, ti_12, ti_100, ti_9999, ti_60, nI_toInt] at c1) <;> omega)) (fun c1 => ?_)
  refine ar_iload_n (i := 1) (pc := 4) dX6_count_4 rfl rfl ?_
  refine ar_gets0 (pc := 5) dX6_count_5 sX6_177 ?_
  refine ar_alen (pc := 8) dX6_count_8 rfl ?_
  refine ar_icmp_ge (pc := 9) (tgt := 21) dX6_count_9 (by decide) (fun c9 => ?_) (fun c9 => False.elim (by (simp (disch := omega) only [Int32.lt_iff_toInt_lt, Int32.le_iff_toInt_le, ← Int32.toInt_inj, ti_m6, ti_m1, ti_0, ti_1, ti_2, ti_3, ti_4, ti_5, ti_6, ti_7, ti_8, ti_9, ti_12, ti_100, ti_9999, ti_60, nI_toInt] at c9) <;> omega))
  refine ar_iload_n (i := 1) (pc := 21) dX6_count_21 rfl rfl ?_
  refine ar_tsIn (pc := 22) (tgt := 157) (off := 135) dX6_count_22 (by decide +kernel) (by decide +kernel) (by decide +kernel) (by decide) ?_
  refine ar_aload_n (i := 0) (pc := 157) dX6_count_157 rfl rfl ?_
  refine ar_getf (pc := 158) dX6_count_158 fX6_10 rfl rfl ?_
  refine ar_getf (pc := 161) dX6_count_161 fX6_189 rfl rfl ?_
  exact ar_iret (pc := 164) dX6_count_164 rfl rfl rfl ⟨rfl, rfl⟩

set_option maxHeartbeats 4000000 in
set_option maxRecDepth 100000 in
theorem sX6_count_15 (w0 : Bool) (ff : Nat → Int32) (w1 : Bool) (gg : Nat → Int32) (z : PV) (n : Nat) (hn : vBo (pN z) = nI n) (h8 : n ≤ 8) : am_Sp mX6_count [.ref 2, .int (nI 15)] (ppH w0 ff w1 gg z) (am_rp (pD z).1 (ppH w0 ff w1 gg z)) := by
  refine am_intro (by decide) (Nat.le_of_ble_eq_true rfl) ?_
  refine ar_iload_n (i := 1) (pc := 0) dX6_count_0 rfl rfl ?_
  refine ar_if_lt (pc := 1) (tgt := 21) dX6_count_1 (by decide) (fun c1 => False.elim (by (simp (disch := omega) only [Int32.lt_iff_toInt_lt, Int32.le_iff_toInt_le, ← Int32.toInt_inj, ti_m6, ti_m1, ti_0, ti_1, ti_2, ti_3, ti_4, ti_5, ti_6, ti_7, ti_8, ti_9, ti_12, ti_100, ti_9999, ti_60, nI_toInt] at c1) <;> omega)) (fun c1 => ?_)
  refine ar_iload_n (i := 1) (pc := 4) dX6_count_4 rfl rfl ?_
  refine ar_gets0 (pc := 5) dX6_count_5 sX6_177 ?_
  refine ar_alen (pc := 8) dX6_count_8 rfl ?_
  refine ar_icmp_ge (pc := 9) (tgt := 21) dX6_count_9 (by decide) (fun c9 => ?_) (fun c9 => False.elim (by (simp (disch := omega) only [Int32.lt_iff_toInt_lt, Int32.le_iff_toInt_le, ← Int32.toInt_inj, ti_m6, ti_m1, ti_0, ti_1, ti_2, ti_3, ti_4, ti_5, ti_6, ti_7, ti_8, ti_9, ti_12, ti_100, ti_9999, ti_60, nI_toInt] at c9) <;> omega))
  refine ar_iload_n (i := 1) (pc := 21) dX6_count_21 rfl rfl ?_
  refine ar_tsIn (pc := 22) (tgt := 165) (off := 143) dX6_count_22 (by decide +kernel) (by decide +kernel) (by decide +kernel) (by decide) ?_
  refine ar_aload_n (i := 0) (pc := 165) dX6_count_165 rfl rfl ?_
  refine ar_getf (pc := 166) dX6_count_166 fX6_29 rfl rfl ?_
  refine ar_getf (pc := 169) dX6_count_169 fX6_134 rfl rfl ?_
  exact ar_iret (pc := 172) dX6_count_172 rfl rfl rfl ⟨rfl, rfl⟩

set_option maxHeartbeats 4000000 in
set_option maxRecDepth 100000 in
theorem sX6_count_16 (w0 : Bool) (ff : Nat → Int32) (w1 : Bool) (gg : Nat → Int32) (z : PV) (n : Nat) (hn : vBo (pN z) = nI n) (h8 : n ≤ 8) : am_Sp mX6_count [.ref 2, .int (nI 16)] (ppH w0 ff w1 gg z) (am_rp (nI (pY z).2.2) (ppH w0 ff w1 gg z)) := by
  refine am_intro (by decide) (Nat.le_of_ble_eq_true rfl) ?_
  refine ar_iload_n (i := 1) (pc := 0) dX6_count_0 rfl rfl ?_
  refine ar_if_lt (pc := 1) (tgt := 21) dX6_count_1 (by decide) (fun c1 => False.elim (by (simp (disch := omega) only [Int32.lt_iff_toInt_lt, Int32.le_iff_toInt_le, ← Int32.toInt_inj, ti_m6, ti_m1, ti_0, ti_1, ti_2, ti_3, ti_4, ti_5, ti_6, ti_7, ti_8, ti_9, ti_12, ti_100, ti_9999, ti_60, nI_toInt] at c1) <;> omega)) (fun c1 => ?_)
  refine ar_iload_n (i := 1) (pc := 4) dX6_count_4 rfl rfl ?_
  refine ar_gets0 (pc := 5) dX6_count_5 sX6_177 ?_
  refine ar_alen (pc := 8) dX6_count_8 rfl ?_
  refine ar_icmp_ge (pc := 9) (tgt := 21) dX6_count_9 (by decide) (fun c9 => ?_) (fun c9 => False.elim (by (simp (disch := omega) only [Int32.lt_iff_toInt_lt, Int32.le_iff_toInt_le, ← Int32.toInt_inj, ti_m6, ti_m1, ti_0, ti_1, ti_2, ti_3, ti_4, ti_5, ti_6, ti_7, ti_8, ti_9, ti_12, ti_100, ti_9999, ti_60, nI_toInt] at c9) <;> omega))
  refine ar_iload_n (i := 1) (pc := 21) dX6_count_21 rfl rfl ?_
  refine ar_tsIn (pc := 22) (tgt := 173) (off := 151) dX6_count_22 (by decide +kernel) (by decide +kernel) (by decide +kernel) (by decide) ?_
  refine ar_aload_n (i := 0) (pc := 173) dX6_count_173 rfl rfl ?_
  refine ar_getf (pc := 174) dX6_count_174 fX6_36 rfl rfl ?_
  refine ar_getf (pc := 177) dX6_count_177 fX6_192 rfl rfl ?_
  exact ar_iret (pc := 180) dX6_count_180 rfl rfl rfl ⟨rfl, rfl⟩

set_option maxHeartbeats 4000000 in
set_option maxRecDepth 100000 in
theorem sX6_count_o (w0 : Bool) (ff : Nat → Int32) (w1 : Bool) (gg : Nat → Int32) (z : PV) (w : Int32) (hw : w.toInt < 6 ∨ 16 < w.toInt) (h6 : w.toInt < 0 ∨ 5 < w.toInt) : am_Sp mX6_count [.ref 2, .int w] (ppH w0 ff w1 gg z) (am_rp (-2) (ppH w0 ff w1 gg z)) := by
  refine am_intro (by decide) (Nat.le_of_ble_eq_true rfl) ?_
  refine ar_iload_n (i := 1) (pc := 0) dX6_count_0 rfl rfl ?_
  refine ar_if_lt (pc := 1) (tgt := 21) dX6_count_1 (by decide) (fun c1 => ?_) (fun c1 => ?_)
  · refine ar_iload_n (i := 1) (pc := 21) dX6_count_21 rfl rfl ?_
    refine ar_tsOut (pc := 22) (tgt := 181) dX6_count_22 hw (by decide) ?_
    refine ar_bipush (pc := 181) dX6_count_181 q_bipush_m2 ?_
    exact ar_iret (pc := 183) dX6_count_183 rfl rfl rfl ⟨rfl, rfl⟩
  · refine ar_iload_n (i := 1) (pc := 4) dX6_count_4 rfl rfl ?_
    refine ar_gets0 (pc := 5) dX6_count_5 sX6_177 ?_
    refine ar_alen (pc := 8) dX6_count_8 rfl ?_
    refine ar_icmp_ge (pc := 9) (tgt := 21) dX6_count_9 (by decide) (fun c9 => ?_) (fun c9 => False.elim (by (simp (disch := omega) only [Int32.lt_iff_toInt_lt, Int32.le_iff_toInt_le, ← Int32.toInt_inj, ti_m6, ti_m1, ti_0, ti_1, ti_2, ti_3, ti_4, ti_5, ti_6, ti_7, ti_8, ti_9, ti_12, ti_100, ti_9999, ti_60, nI_toInt] at c9); (simp (disch := omega) only [Int32.lt_iff_toInt_lt, Int32.le_iff_toInt_le, ← Int32.toInt_inj, ti_m6, ti_m1, ti_0, ti_1, ti_2, ti_3, ti_4, ti_5, ti_6, ti_7, ti_8, ti_9, ti_12, ti_100, ti_9999, ti_60, nI_toInt] at c1); omega))
    refine ar_iload_n (i := 1) (pc := 21) dX6_count_21 rfl rfl ?_
    refine ar_tsOut (pc := 22) (tgt := 181) dX6_count_22 hw (by decide) ?_
    refine ar_bipush (pc := 181) dX6_count_181 q_bipush_m2 ?_
    exact ar_iret (pc := 183) dX6_count_183 rfl rfl rfl ⟨rfl, rfl⟩

set_option maxHeartbeats 4000000 in
set_option maxRecDepth 100000 in
theorem sX6_seen_n (w0 : Bool) (ff : Nat → Int32) (w1 : Bool) (gg : Nat → Int32) (z : PV) (n : Nat) (hn : vBo (pN z) = nI n) (h8 : n ≤ 8) (b s y : Int32) (hb : ¬ bkP n b) : am_Sp mX6_seen [.ref 2, .int b, .int s, .int y] (ppH w0 ff w1 gg z) (am_rp (-1) (ppH w0 ff w1 gg z)) := by
  refine am_intro (by decide) (Nat.le_of_ble_eq_true rfl) ?_
  refine ar_aload_n (i := 0) (pc := 0) dX6_seen_0 rfl rfl ?_
  refine ar_getf (pc := 1) dX6_seen_1 fX6_10 rfl rfl ?_
  refine ar_iload_n (i := 1) (pc := 4) dX6_seen_4 rfl rfl ?_
  refine ar_mc (pc := 5) (l := [0, 1, 3, 4, 5, 6, 7, 8, 9, 10]) (ar_rV dX6_seen_5 cal_X3_isBooth kX6_85 rfl (sX3_isBooth (pN z) n hn h8 _) rfl rfl rfl rfl rfl okp_N rfl rfl) okp_N rfl rfl rfl rfl (fun r h1 hp => ?_)
  obtain ⟨⟨h5, rfl⟩ | ⟨h5, rfl⟩, rfl⟩ := hp
  · refine ⟨rfl, ?_⟩
    refine ar_hp (mP_Ni w0 ff w1 gg z) ?_
    refine ar_if_ne (pc := 8) (tgt := 13) dX6_seen_8 (by decide) (fun c8 => ?_) (fun c8 => absurd c8 (by decide))
    exact absurd h5 hb
  · refine ⟨rfl, ?_⟩
    refine ar_hp (mP_Ni w0 ff w1 gg z) ?_
    refine ar_if_ne (pc := 8) (tgt := 13) dX6_seen_8 (by decide) (fun c8 => absurd c8 (by decide)) (fun c8 => ?_)
    refine ar_iconst (pc := 11) dX6_seen_11 q_iconst_m1 ?_
    exact ar_iret (pc := 12) dX6_seen_12 rfl rfl rfl ⟨rfl, rfl⟩

set_option maxHeartbeats 4000000 in
set_option maxRecDepth 100000 in
theorem sX6_seen_o (w0 : Bool) (ff : Nat → Int32) (w1 : Bool) (gg : Nat → Int32) (z : PV) (n : Nat) (hn : vBo (pN z) = nI n) (h8 : n ≤ 8) {j : Nat} (hj : j < n) (s y : Int32) (ho : (¬ s = 0 ∧ ¬ s = 1) ∨ (¬ y = 0 ∧ ¬ y = 1)) : am_Sp mX6_seen [.ref 2, .int (nI j), .int s, .int y] (ppH w0 ff w1 gg z) (am_rp (-2) (ppH w0 ff w1 gg z)) := by
  refine am_intro (by decide) (Nat.le_of_ble_eq_true rfl) ?_
  refine ar_aload_n (i := 0) (pc := 0) dX6_seen_0 rfl rfl ?_
  refine ar_getf (pc := 1) dX6_seen_1 fX6_10 rfl rfl ?_
  refine ar_iload_n (i := 1) (pc := 4) dX6_seen_4 rfl rfl ?_
  refine ar_mc (pc := 5) (l := [0, 1, 3, 4, 5, 6, 7, 8, 9, 10]) (ar_rV dX6_seen_5 cal_X3_isBooth kX6_85 rfl (sX3_isBooth (pN z) n hn h8 _) rfl rfl rfl rfl rfl okp_N rfl rfl) okp_N rfl rfl rfl rfl (fun r h1 hp => ?_)
  obtain ⟨⟨h5, rfl⟩ | ⟨h5, rfl⟩, rfl⟩ := hp
  · refine ⟨rfl, ?_⟩
    refine ar_hp (mP_Ni w0 ff w1 gg z) ?_
    refine ar_if_ne (pc := 8) (tgt := 13) dX6_seen_8 (by decide) (fun c8 => ?_) (fun c8 => absurd c8 (by decide))
    refine ar_iload_n (i := 2) (pc := 13) dX6_seen_13 rfl rfl ?_
    refine ar_if_eq (pc := 14) (tgt := 22) dX6_seen_14 (by decide) (fun c14 => ?_) (fun c14 => ?_)
    · refine ar_iload_n (i := 3) (pc := 22) dX6_seen_22 rfl rfl ?_
      refine ar_if_eq (pc := 23) (tgt := 34) dX6_seen_23 (by decide) (fun c23 => ?_) (fun c23 => ?_)
      · exfalso
        rcases ho with ⟨q1, q2⟩ | ⟨q1, q2⟩ <;> first | exact q1 ‹_› | exact q2 ‹_›
      · refine ar_iload_n (i := 3) (pc := 26) dX6_seen_26 rfl rfl ?_
        refine ar_iconst (pc := 27) dX6_seen_27 q_iconst_1 ?_
        refine ar_icmp_eq (pc := 28) (tgt := 34) dX6_seen_28 (by decide) (fun c28 => ?_) (fun c28 => ?_)
        · exfalso
          rcases ho with ⟨q1, q2⟩ | ⟨q1, q2⟩ <;> first | exact q1 ‹_› | exact q2 ‹_›
        · refine ar_bipush (pc := 31) dX6_seen_31 q_bipush_m2 ?_
          exact ar_iret (pc := 33) dX6_seen_33 rfl rfl rfl ⟨rfl, rfl⟩
    · refine ar_iload_n (i := 2) (pc := 17) dX6_seen_17 rfl rfl ?_
      refine ar_iconst (pc := 18) dX6_seen_18 q_iconst_1 ?_
      refine ar_icmp_ne (pc := 19) (tgt := 31) dX6_seen_19 (by decide) (fun c19 => ?_) (fun c19 => ?_)
      · refine ar_bipush (pc := 31) dX6_seen_31 q_bipush_m2 ?_
        exact ar_iret (pc := 33) dX6_seen_33 rfl rfl rfl ⟨rfl, rfl⟩
      · refine ar_iload_n (i := 3) (pc := 22) dX6_seen_22 rfl rfl ?_
        refine ar_if_eq (pc := 23) (tgt := 34) dX6_seen_23 (by decide) (fun c23 => ?_) (fun c23 => ?_)
        · exfalso
          rcases ho with ⟨q1, q2⟩ | ⟨q1, q2⟩ <;> first | exact q1 ‹_› | exact q2 ‹_›
        · refine ar_iload_n (i := 3) (pc := 26) dX6_seen_26 rfl rfl ?_
          refine ar_iconst (pc := 27) dX6_seen_27 q_iconst_1 ?_
          refine ar_icmp_eq (pc := 28) (tgt := 34) dX6_seen_28 (by decide) (fun c28 => ?_) (fun c28 => ?_)
          · exfalso
            rcases ho with ⟨q1, q2⟩ | ⟨q1, q2⟩ <;> first | exact q1 ‹_› | exact q2 ‹_›
          · refine ar_bipush (pc := 31) dX6_seen_31 q_bipush_m2 ?_
            exact ar_iret (pc := 33) dX6_seen_33 rfl rfl rfl ⟨rfl, rfl⟩
  · refine ⟨rfl, ?_⟩
    refine ar_hp (mP_Ni w0 ff w1 gg z) ?_
    refine ar_if_ne (pc := 8) (tgt := 13) dX6_seen_8 (by decide) (fun c8 => absurd c8 (by decide)) (fun c8 => ?_)
    refine ar_iconst (pc := 11) dX6_seen_11 q_iconst_m1 ?_
    exact absurd (bk_j h8 hj) h5

set_option maxHeartbeats 4000000 in
set_option maxRecDepth 100000 in
theorem sX6_seen_00 (w0 : Bool) (ff : Nat → Int32) (w1 : Bool) (gg : Nat → Int32) (z : PV) (n : Nat) (hn : vBo (pN z) = nI n) (h8 : n ≤ 8) {j : Nat} (hj : j < n) (hs : stP (pN z) n j) : am_Sp mX6_seen [.ref 2, .int (nI j), .int 0, .int 0] (ppH w0 ff w1 gg z) (bpW (inP (vP (pN z) j) ∧ taF 1 (lkT (pN z) n (-6) 8) (vS (pN z) 0) (vS (pN z) 2) (ix (vP (pN z) j)) < vH (pN z) j) w0 ff w1 gg z) := by
  refine am_intro (by decide) (Nat.le_of_ble_eq_true rfl) ?_
  refine ar_aload_n (i := 0) (pc := 0) dX6_seen_0 rfl rfl ?_
  refine ar_getf (pc := 1) dX6_seen_1 fX6_10 rfl rfl ?_
  refine ar_iload_n (i := 1) (pc := 4) dX6_seen_4 rfl rfl ?_
  refine ar_mc (pc := 5) (l := [0, 1, 3, 4, 5, 6, 7, 8, 9, 10]) (ar_rV dX6_seen_5 cal_X3_isBooth kX6_85 rfl (sX3_isBooth (pN z) n hn h8 _) rfl rfl rfl rfl rfl okp_N rfl rfl) okp_N rfl rfl rfl rfl (fun r h1 hp => ?_)
  obtain ⟨⟨h5, rfl⟩ | ⟨h5, rfl⟩, rfl⟩ := hp
  · refine ⟨rfl, ?_⟩
    refine ar_hp (mP_Ni w0 ff w1 gg z) ?_
    refine ar_if_ne (pc := 8) (tgt := 13) dX6_seen_8 (by decide) (fun c8 => ?_) (fun c8 => absurd c8 (by decide))
    refine ar_iload_n (i := 2) (pc := 13) dX6_seen_13 rfl rfl ?_
    refine ar_if_eq (pc := 14) (tgt := 22) dX6_seen_14 (by decide) (fun c14 => ?_) (fun c14 => absurd (by decide +kernel) c14)
    refine ar_iload_n (i := 3) (pc := 22) dX6_seen_22 rfl rfl ?_
    refine ar_if_eq (pc := 23) (tgt := 34) dX6_seen_23 (by decide) (fun c23 => ?_) (fun c23 => absurd (by decide +kernel) c23)
    refine ar_aload_n (i := 0) (pc := 34) dX6_seen_34 rfl rfl ?_
    refine ar_getf (pc := 35) dX6_seen_35 fX6_10 rfl rfl ?_
    refine ar_iload_n (i := 1) (pc := 38) dX6_seen_38 rfl rfl ?_
    refine ar_mc (pc := 39) (l := [0, 1, 3, 4, 5, 6, 7, 8, 9, 10]) (ar_rV dX6_seen_39 cal_X3_isStanding kX6_161 rfl (sX3_isStanding (pN z) n hn h8 (show j < 8 by omega)) rfl rfl rfl rfl rfl okp_N rfl rfl) okp_N rfl rfl rfl rfl (fun r h1 hp => ?_)
    obtain ⟨⟨h39, rfl⟩ | ⟨h39, rfl⟩, rfl⟩ := hp
    · refine ⟨rfl, ?_⟩
      refine ar_hp (mP_Ni w0 ff w1 gg z) ?_
      refine ar_if_ne (pc := 42) (tgt := 47) dX6_seen_42 (by decide) (fun c42 => ?_) (fun c42 => absurd c42 (by decide))
      refine ar_iload_n (i := 2) (pc := 47) dX6_seen_47 rfl rfl ?_
      refine ar_if_ne (pc := 48) (tgt := 55) dX6_seen_48 (by decide) (fun c48 => absurd rfl c48) (fun c48 => ?_)
      refine ar_iconst (pc := 51) dX6_seen_51 q_iconst_1 ?_
      refine ar_goto (tgt := 56) (pc := 52) dX6_seen_52 (by decide) ?_
      refine ar_istore (pc := 56) dX6_seen_56 (Nat.le_of_ble_eq_true rfl) rfl ?_
      refine ar_iload_n (i := 3) (pc := 58) dX6_seen_58 rfl rfl ?_
      refine ar_iconst (pc := 59) dX6_seen_59 q_iconst_1 ?_
      refine ar_icmp_ne (pc := 60) (tgt := 82) dX6_seen_60 (by decide) (fun c60 => ?_) (fun c60 => absurd c60 (by decide +kernel))
      refine ar_aload_n (i := 0) (pc := 82) dX6_seen_82 rfl rfl ?_
      refine ar_getf (pc := 83) dX6_seen_83 fX6_22 rfl rfl ?_
      refine ar_aload_n (i := 0) (pc := 86) dX6_seen_86 rfl rfl ?_
      refine ar_getf (pc := 87) dX6_seen_87 fX6_10 rfl rfl ?_
      refine ar_bipush (pc := 90) dX6_seen_90 q_bipush_m6 ?_
      refine ar_mc (pc := 92) (l := [0, 1, 19, 20, 21, 22, 23, 24, 25, 26, 3, 4, 5, 6, 7, 8, 9, 10]) (ar_rV dX6_seen_92 cal_X5_look kX6_137 rfl (sX5_look (pW z).1 (pW z).2.1 (pW z).2.2.1 (pW z).2.2.2.1 (pW z).2.2.2.2.1 (pW z).2.2.2.2.2.1 (pW z).2.2.2.2.2.2.1 (pW z).2.2.2.2.2.2.2.1 (pW z).2.2.2.2.2.2.2.2 (pN z) n hn h8 (-6)) rfl rfl rfl rfl rfl okp_WN rfl rfl) okp_WN rfl rfl rfl rfl (fun r h1 hp => ?_)
      obtain ⟨rfl, rfl⟩ := hp
      refine ⟨rfl, ?_⟩
      refine ar_hp (mP_L w0 ff w1 gg z (lkT (pN z) n ((-6)) 8)) ?_
      refine ar_aload_n (i := 0) (pc := 95) dX6_seen_95 rfl rfl ?_
      refine ar_getf (pc := 96) dX6_seen_96 fX6_22 rfl rfl ?_
      refine ar_iload (pc := 99) dX6_seen_99 rfl ?_
      refine ar_mc (pc := 101) (l := [0, 1, 19, 20, 21, 22, 23, 24, 25, 26]) (ar_rV dX6_seen_101 cal_X5_streamFrom kX6_168 rfl (sX5_streamFrom (lkT (pN z) n (-6) 8) (arF 1 (lkT (pN z) n (-6) 8) (vS (pN z) 0) (vS (pN z) 2)) (taF 1 (lkT (pN z) n (-6) 8) (vS (pN z) 0) (vS (pN z) 2)) (vS (pN z) 2) (paF 1 (lkT (pN z) n (-6) 8) (vS (pN z) 0) (vS (pN z) 2)) (arF 0 (lkT (pN z) n (-6) 8) (vS (pN z) 1) (vS (pN z) 2)) (taF 0 (lkT (pN z) n (-6) 8) (vS (pN z) 1) (vS (pN z) 2)) (vS (pN z) 2) (paF 0 (lkT (pN z) n (-6) 8) (vS (pN z) 1) (vS (pN z) 2)) 1) rfl rfl rfl rfl rfl okp_W rfl rfl) okp_W rfl rfl rfl rfl (fun r h1 hp => ?_)
      obtain ⟨rfl, rfl⟩ := hp
      refine ⟨rfl, ?_⟩
      refine ar_hp (mP_Wi w0 ff w1 gg z (vwOf (lkT (pN z) n (-6) 8) (pN z))) ?_
      rw [show (if (1 : Int32) = 0 then 7 else 4) = 4 by decide +kernel]
      refine ar_astore (pc := 104) dX6_seen_104 (Nat.le_of_ble_eq_true rfl) rfl ?_
      refine ar_aload (pc := 106) dX6_seen_106 rfl ?_
      refine ar_aload_n (i := 0) (pc := 108) dX6_seen_108 rfl rfl ?_
      refine ar_getf (pc := 109) dX6_seen_109 fX6_10 rfl rfl ?_
      refine ar_getf (pc := 112) dX6_seen_112 fX6_102 rfl rfl ?_
      refine ar_iload_n (i := 1) (pc := 115) dX6_seen_115 rfl rfl ?_
      refine ar_iald (pc := 116) dX6_seen_116 rfl (show j < 8 by omega) rfl ?_
      refine ar_aload_n (i := 0) (pc := 117) dX6_seen_117 rfl rfl ?_
      refine ar_getf (pc := 118) dX6_seen_118 fX6_10 rfl rfl ?_
      refine ar_getf (pc := 121) dX6_seen_121 fX6_95 rfl rfl ?_
      refine ar_iload_n (i := 1) (pc := 124) dX6_seen_124 rfl rfl ?_
      refine ar_iald (pc := 125) dX6_seen_125 rfl (show j < 8 by omega) rfl ?_
      refine ar_mc (pc := 126) (l := [0, 1, 21, 22, 23]) (ar_rV dX6_seen_126 cal_X4_isSeen kX6_172 rfl (sX4_isSeen 1 (arF 1 (lkT (pN z) n (-6) 8) (vS (pN z) 0) (vS (pN z) 2)) (taF 1 (lkT (pN z) n (-6) 8) (vS (pN z) 0) (vS (pN z) 2)) (vS (pN z) 2) (paF 1 (lkT (pN z) n (-6) 8) (vS (pN z) 0) (vS (pN z) 2)) (vP (pN z) j) (vH (pN z) j)) rfl rfl rfl rfl rfl okp_SL rfl rfl) okp_SL rfl rfl rfl rfl (fun r h1 hp => ?_)
      obtain ⟨⟨h126, rfl⟩ | ⟨h126, rfl⟩, rfl⟩ := hp
      · refine ⟨rfl, ?_⟩
        refine ar_hp (mP_SL w0 ff w1 gg z (vwOf (lkT (pN z) n (-6) 8) (pN z))) ?_
        refine ar_if_eq (pc := 129) (tgt := 136) dX6_seen_129 (by decide) (fun c129 => absurd c129 (by decide)) (fun c129 => ?_)
        refine ar_iconst (pc := 132) dX6_seen_132 q_iconst_1 ?_
        refine ar_goto (tgt := 137) (pc := 133) dX6_seen_133 (by decide) ?_
        exact ar_iret (pc := 137) dX6_seen_137 rfl rfl rfl ⟨Or.inl ⟨h126, rfl⟩, _, rfl⟩
      · refine ⟨rfl, ?_⟩
        refine ar_hp (mP_SL w0 ff w1 gg z (vwOf (lkT (pN z) n (-6) 8) (pN z))) ?_
        refine ar_if_eq (pc := 129) (tgt := 136) dX6_seen_129 (by decide) (fun c129 => ?_) (fun c129 => absurd c129 (by decide))
        refine ar_iconst (pc := 136) dX6_seen_136 q_iconst_0 ?_
        exact ar_iret (pc := 137) dX6_seen_137 rfl rfl rfl ⟨Or.inr ⟨h126, rfl⟩, _, rfl⟩
    · refine ⟨rfl, ?_⟩
      refine ar_hp (mP_Ni w0 ff w1 gg z) ?_
      refine ar_if_ne (pc := 42) (tgt := 47) dX6_seen_42 (by decide) (fun c42 => absurd c42 (by decide)) (fun c42 => ?_)
      refine ar_iconst (pc := 45) dX6_seen_45 q_iconst_0 ?_
      exact absurd hs h39
  · refine ⟨rfl, ?_⟩
    refine ar_hp (mP_Ni w0 ff w1 gg z) ?_
    refine ar_if_ne (pc := 8) (tgt := 13) dX6_seen_8 (by decide) (fun c8 => absurd c8 (by decide)) (fun c8 => ?_)
    refine ar_iconst (pc := 11) dX6_seen_11 q_iconst_m1 ?_
    exact absurd (bk_j h8 hj) h5

set_option maxHeartbeats 4000000 in
set_option maxRecDepth 100000 in
theorem sX6_seen_01 (w0 : Bool) (ff : Nat → Int32) (w1 : Bool) (gg : Nat → Int32) (z : PV) (n : Nat) (hn : vBo (pN z) = nI n) (h8 : n ≤ 8) {j : Nat} (hj : j < n) (hs : stP (pN z) n j) : am_Sp mX6_seen [.ref 2, .int (nI j), .int 0, .int 1] (ppH w0 ff w1 gg z) (am_bp (¬ ∃ i, i < 8 ∧ i ≠ j ∧ hdP (pN z) n i j 1) (ppH w0 ff w1 gg z)) := by
  refine am_intro (by decide) (Nat.le_of_ble_eq_true rfl) ?_
  refine ar_aload_n (i := 0) (pc := 0) dX6_seen_0 rfl rfl ?_
  refine ar_getf (pc := 1) dX6_seen_1 fX6_10 rfl rfl ?_
  refine ar_iload_n (i := 1) (pc := 4) dX6_seen_4 rfl rfl ?_
  refine ar_mc (pc := 5) (l := [0, 1, 3, 4, 5, 6, 7, 8, 9, 10]) (ar_rV dX6_seen_5 cal_X3_isBooth kX6_85 rfl (sX3_isBooth (pN z) n hn h8 _) rfl rfl rfl rfl rfl okp_N rfl rfl) okp_N rfl rfl rfl rfl (fun r h1 hp => ?_)
  obtain ⟨⟨h5, rfl⟩ | ⟨h5, rfl⟩, rfl⟩ := hp
  · refine ⟨rfl, ?_⟩
    refine ar_hp (mP_Ni w0 ff w1 gg z) ?_
    refine ar_if_ne (pc := 8) (tgt := 13) dX6_seen_8 (by decide) (fun c8 => ?_) (fun c8 => absurd c8 (by decide))
    refine ar_iload_n (i := 2) (pc := 13) dX6_seen_13 rfl rfl ?_
    refine ar_if_eq (pc := 14) (tgt := 22) dX6_seen_14 (by decide) (fun c14 => ?_) (fun c14 => absurd (by decide +kernel) c14)
    refine ar_iload_n (i := 3) (pc := 22) dX6_seen_22 rfl rfl ?_
    refine ar_if_eq (pc := 23) (tgt := 34) dX6_seen_23 (by decide) (fun c23 => absurd c23 (by decide +kernel)) (fun c23 => ?_)
    refine ar_iload_n (i := 3) (pc := 26) dX6_seen_26 rfl rfl ?_
    refine ar_iconst (pc := 27) dX6_seen_27 q_iconst_1 ?_
    refine ar_icmp_eq (pc := 28) (tgt := 34) dX6_seen_28 (by decide) (fun c28 => ?_) (fun c28 => absurd rfl c28)
    refine ar_aload_n (i := 0) (pc := 34) dX6_seen_34 rfl rfl ?_
    refine ar_getf (pc := 35) dX6_seen_35 fX6_10 rfl rfl ?_
    refine ar_iload_n (i := 1) (pc := 38) dX6_seen_38 rfl rfl ?_
    refine ar_mc (pc := 39) (l := [0, 1, 3, 4, 5, 6, 7, 8, 9, 10]) (ar_rV dX6_seen_39 cal_X3_isStanding kX6_161 rfl (sX3_isStanding (pN z) n hn h8 (show j < 8 by omega)) rfl rfl rfl rfl rfl okp_N rfl rfl) okp_N rfl rfl rfl rfl (fun r h1 hp => ?_)
    obtain ⟨⟨h39, rfl⟩ | ⟨h39, rfl⟩, rfl⟩ := hp
    · refine ⟨rfl, ?_⟩
      refine ar_hp (mP_Ni w0 ff w1 gg z) ?_
      refine ar_if_ne (pc := 42) (tgt := 47) dX6_seen_42 (by decide) (fun c42 => ?_) (fun c42 => absurd c42 (by decide))
      refine ar_iload_n (i := 2) (pc := 47) dX6_seen_47 rfl rfl ?_
      refine ar_if_ne (pc := 48) (tgt := 55) dX6_seen_48 (by decide) (fun c48 => absurd rfl c48) (fun c48 => ?_)
      refine ar_iconst (pc := 51) dX6_seen_51 q_iconst_1 ?_
      refine ar_goto (tgt := 56) (pc := 52) dX6_seen_52 (by decide) ?_
      refine ar_istore (pc := 56) dX6_seen_56 (Nat.le_of_ble_eq_true rfl) rfl ?_
      refine ar_iload_n (i := 3) (pc := 58) dX6_seen_58 rfl rfl ?_
      refine ar_iconst (pc := 59) dX6_seen_59 q_iconst_1 ?_
      refine ar_icmp_ne (pc := 60) (tgt := 82) dX6_seen_60 (by decide) (fun c60 => absurd rfl c60) (fun c60 => ?_)
      refine ar_aload_n (i := 0) (pc := 63) dX6_seen_63 rfl rfl ?_
      refine ar_getf (pc := 64) dX6_seen_64 fX6_10 rfl rfl ?_
      refine ar_iload_n (i := 1) (pc := 67) dX6_seen_67 rfl rfl ?_
      refine ar_iload (pc := 68) dX6_seen_68 rfl ?_
      refine ar_mc (pc := 70) (l := [0, 1, 3, 4, 5, 6, 7, 8, 9, 10]) (ar_rV dX6_seen_70 cal_X3_isHidden kX6_164 rfl (sX3_isHidden (pN z) n hn h8 (show j < 8 by omega) 1) rfl rfl rfl rfl rfl okp_N rfl rfl) okp_N rfl rfl rfl rfl (fun r h1 hp => ?_)
      obtain ⟨⟨h70, rfl⟩ | ⟨h70, rfl⟩, rfl⟩ := hp
      · refine ⟨rfl, ?_⟩
        refine ar_hp (mP_Ni w0 ff w1 gg z) ?_
        refine ar_if_eq (pc := 73) (tgt := 80) dX6_seen_73 (by decide) (fun c73 => absurd c73 (by decide)) (fun c73 => ?_)
        refine ar_iconst (pc := 76) dX6_seen_76 q_iconst_0 ?_
        refine ar_goto (tgt := 81) (pc := 77) dX6_seen_77 (by decide) ?_
        exact ar_iret (pc := 81) dX6_seen_81 rfl rfl rfl ⟨Or.inr ⟨fun hz => hz h70, rfl⟩, rfl⟩
      · refine ⟨rfl, ?_⟩
        refine ar_hp (mP_Ni w0 ff w1 gg z) ?_
        refine ar_if_eq (pc := 73) (tgt := 80) dX6_seen_73 (by decide) (fun c73 => ?_) (fun c73 => absurd c73 (by decide))
        refine ar_iconst (pc := 80) dX6_seen_80 q_iconst_1 ?_
        exact ar_iret (pc := 81) dX6_seen_81 rfl rfl rfl ⟨Or.inl ⟨h70, rfl⟩, rfl⟩
    · refine ⟨rfl, ?_⟩
      refine ar_hp (mP_Ni w0 ff w1 gg z) ?_
      refine ar_if_ne (pc := 42) (tgt := 47) dX6_seen_42 (by decide) (fun c42 => absurd c42 (by decide)) (fun c42 => ?_)
      refine ar_iconst (pc := 45) dX6_seen_45 q_iconst_0 ?_
      exact absurd hs h39
  · refine ⟨rfl, ?_⟩
    refine ar_hp (mP_Ni w0 ff w1 gg z) ?_
    refine ar_if_ne (pc := 8) (tgt := 13) dX6_seen_8 (by decide) (fun c8 => absurd c8 (by decide)) (fun c8 => ?_)
    refine ar_iconst (pc := 11) dX6_seen_11 q_iconst_m1 ?_
    exact absurd (bk_j h8 hj) h5

set_option maxHeartbeats 4000000 in
set_option maxRecDepth 100000 in
theorem sX6_seen_10 (w0 : Bool) (ff : Nat → Int32) (w1 : Bool) (gg : Nat → Int32) (z : PV) (n : Nat) (hn : vBo (pN z) = nI n) (h8 : n ≤ 8) {j : Nat} (hj : j < n) (hs : stP (pN z) n j) : am_Sp mX6_seen [.ref 2, .int (nI j), .int 1, .int 0] (ppH w0 ff w1 gg z) (bpW (inP (vP (pN z) j) ∧ taF 0 (lkT (pN z) n (-6) 8) (vS (pN z) 1) (vS (pN z) 2) (ix (vP (pN z) j)) < vH (pN z) j) w0 ff w1 gg z) := by
  refine am_intro (by decide) (Nat.le_of_ble_eq_true rfl) ?_
  refine ar_aload_n (i := 0) (pc := 0) dX6_seen_0 rfl rfl ?_
  refine ar_getf (pc := 1) dX6_seen_1 fX6_10 rfl rfl ?_
  refine ar_iload_n (i := 1) (pc := 4) dX6_seen_4 rfl rfl ?_
  refine ar_mc (pc := 5) (l := [0, 1, 3, 4, 5, 6, 7, 8, 9, 10]) (ar_rV dX6_seen_5 cal_X3_isBooth kX6_85 rfl (sX3_isBooth (pN z) n hn h8 _) rfl rfl rfl rfl rfl okp_N rfl rfl) okp_N rfl rfl rfl rfl (fun r h1 hp => ?_)
  obtain ⟨⟨h5, rfl⟩ | ⟨h5, rfl⟩, rfl⟩ := hp
  · refine ⟨rfl, ?_⟩
    refine ar_hp (mP_Ni w0 ff w1 gg z) ?_
    refine ar_if_ne (pc := 8) (tgt := 13) dX6_seen_8 (by decide) (fun c8 => ?_) (fun c8 => absurd c8 (by decide))
    refine ar_iload_n (i := 2) (pc := 13) dX6_seen_13 rfl rfl ?_
    refine ar_if_eq (pc := 14) (tgt := 22) dX6_seen_14 (by decide) (fun c14 => absurd c14 (by decide +kernel)) (fun c14 => ?_)
    refine ar_iload_n (i := 2) (pc := 17) dX6_seen_17 rfl rfl ?_
    refine ar_iconst (pc := 18) dX6_seen_18 q_iconst_1 ?_
    refine ar_icmp_ne (pc := 19) (tgt := 31) dX6_seen_19 (by decide) (fun c19 => absurd rfl c19) (fun c19 => ?_)
    refine ar_iload_n (i := 3) (pc := 22) dX6_seen_22 rfl rfl ?_
    refine ar_if_eq (pc := 23) (tgt := 34) dX6_seen_23 (by decide) (fun c23 => ?_) (fun c23 => absurd (by decide +kernel) c23)
    refine ar_aload_n (i := 0) (pc := 34) dX6_seen_34 rfl rfl ?_
    refine ar_getf (pc := 35) dX6_seen_35 fX6_10 rfl rfl ?_
    refine ar_iload_n (i := 1) (pc := 38) dX6_seen_38 rfl rfl ?_
    refine ar_mc (pc := 39) (l := [0, 1, 3, 4, 5, 6, 7, 8, 9, 10]) (ar_rV dX6_seen_39 cal_X3_isStanding kX6_161 rfl (sX3_isStanding (pN z) n hn h8 (show j < 8 by omega)) rfl rfl rfl rfl rfl okp_N rfl rfl) okp_N rfl rfl rfl rfl (fun r h1 hp => ?_)
    obtain ⟨⟨h39, rfl⟩ | ⟨h39, rfl⟩, rfl⟩ := hp
    · refine ⟨rfl, ?_⟩
      refine ar_hp (mP_Ni w0 ff w1 gg z) ?_
      refine ar_if_ne (pc := 42) (tgt := 47) dX6_seen_42 (by decide) (fun c42 => ?_) (fun c42 => absurd c42 (by decide))
      refine ar_iload_n (i := 2) (pc := 47) dX6_seen_47 rfl rfl ?_
      refine ar_if_ne (pc := 48) (tgt := 55) dX6_seen_48 (by decide) (fun c48 => ?_) (fun c48 => absurd c48 (by decide +kernel))
      refine ar_iconst (pc := 55) dX6_seen_55 q_iconst_0 ?_
      refine ar_istore (pc := 56) dX6_seen_56 (Nat.le_of_ble_eq_true rfl) rfl ?_
      refine ar_iload_n (i := 3) (pc := 58) dX6_seen_58 rfl rfl ?_
      refine ar_iconst (pc := 59) dX6_seen_59 q_iconst_1 ?_
      refine ar_icmp_ne (pc := 60) (tgt := 82) dX6_seen_60 (by decide) (fun c60 => ?_) (fun c60 => absurd c60 (by decide +kernel))
      refine ar_aload_n (i := 0) (pc := 82) dX6_seen_82 rfl rfl ?_
      refine ar_getf (pc := 83) dX6_seen_83 fX6_22 rfl rfl ?_
      refine ar_aload_n (i := 0) (pc := 86) dX6_seen_86 rfl rfl ?_
      refine ar_getf (pc := 87) dX6_seen_87 fX6_10 rfl rfl ?_
      refine ar_bipush (pc := 90) dX6_seen_90 q_bipush_m6 ?_
      refine ar_mc (pc := 92) (l := [0, 1, 19, 20, 21, 22, 23, 24, 25, 26, 3, 4, 5, 6, 7, 8, 9, 10]) (ar_rV dX6_seen_92 cal_X5_look kX6_137 rfl (sX5_look (pW z).1 (pW z).2.1 (pW z).2.2.1 (pW z).2.2.2.1 (pW z).2.2.2.2.1 (pW z).2.2.2.2.2.1 (pW z).2.2.2.2.2.2.1 (pW z).2.2.2.2.2.2.2.1 (pW z).2.2.2.2.2.2.2.2 (pN z) n hn h8 (-6)) rfl rfl rfl rfl rfl okp_WN rfl rfl) okp_WN rfl rfl rfl rfl (fun r h1 hp => ?_)
      obtain ⟨rfl, rfl⟩ := hp
      refine ⟨rfl, ?_⟩
      refine ar_hp (mP_L w0 ff w1 gg z (lkT (pN z) n ((-6)) 8)) ?_
      refine ar_aload_n (i := 0) (pc := 95) dX6_seen_95 rfl rfl ?_
      refine ar_getf (pc := 96) dX6_seen_96 fX6_22 rfl rfl ?_
      refine ar_iload (pc := 99) dX6_seen_99 rfl ?_
      refine ar_mc (pc := 101) (l := [0, 1, 19, 20, 21, 22, 23, 24, 25, 26]) (ar_rV dX6_seen_101 cal_X5_streamFrom kX6_168 rfl (sX5_streamFrom (lkT (pN z) n (-6) 8) (arF 1 (lkT (pN z) n (-6) 8) (vS (pN z) 0) (vS (pN z) 2)) (taF 1 (lkT (pN z) n (-6) 8) (vS (pN z) 0) (vS (pN z) 2)) (vS (pN z) 2) (paF 1 (lkT (pN z) n (-6) 8) (vS (pN z) 0) (vS (pN z) 2)) (arF 0 (lkT (pN z) n (-6) 8) (vS (pN z) 1) (vS (pN z) 2)) (taF 0 (lkT (pN z) n (-6) 8) (vS (pN z) 1) (vS (pN z) 2)) (vS (pN z) 2) (paF 0 (lkT (pN z) n (-6) 8) (vS (pN z) 1) (vS (pN z) 2)) 0) rfl rfl rfl rfl rfl okp_W rfl rfl) okp_W rfl rfl rfl rfl (fun r h1 hp => ?_)
      obtain ⟨rfl, rfl⟩ := hp
      refine ⟨rfl, ?_⟩
      refine ar_hp (mP_Wi w0 ff w1 gg z (vwOf (lkT (pN z) n (-6) 8) (pN z))) ?_
      rw [show (if (0 : Int32) = 0 then 7 else 4) = 7 by decide +kernel]
      refine ar_astore (pc := 104) dX6_seen_104 (Nat.le_of_ble_eq_true rfl) rfl ?_
      refine ar_aload (pc := 106) dX6_seen_106 rfl ?_
      refine ar_aload_n (i := 0) (pc := 108) dX6_seen_108 rfl rfl ?_
      refine ar_getf (pc := 109) dX6_seen_109 fX6_10 rfl rfl ?_
      refine ar_getf (pc := 112) dX6_seen_112 fX6_102 rfl rfl ?_
      refine ar_iload_n (i := 1) (pc := 115) dX6_seen_115 rfl rfl ?_
      refine ar_iald (pc := 116) dX6_seen_116 rfl (show j < 8 by omega) rfl ?_
      refine ar_aload_n (i := 0) (pc := 117) dX6_seen_117 rfl rfl ?_
      refine ar_getf (pc := 118) dX6_seen_118 fX6_10 rfl rfl ?_
      refine ar_getf (pc := 121) dX6_seen_121 fX6_95 rfl rfl ?_
      refine ar_iload_n (i := 1) (pc := 124) dX6_seen_124 rfl rfl ?_
      refine ar_iald (pc := 125) dX6_seen_125 rfl (show j < 8 by omega) rfl ?_
      refine ar_mc (pc := 126) (l := [0, 1, 24, 25, 26]) (ar_rV dX6_seen_126 cal_X4_isSeen kX6_172 rfl (sX4_isSeen 0 (arF 0 (lkT (pN z) n (-6) 8) (vS (pN z) 1) (vS (pN z) 2)) (taF 0 (lkT (pN z) n (-6) 8) (vS (pN z) 1) (vS (pN z) 2)) (vS (pN z) 2) (paF 0 (lkT (pN z) n (-6) 8) (vS (pN z) 1) (vS (pN z) 2)) (vP (pN z) j) (vH (pN z) j)) rfl rfl rfl rfl rfl okp_SR rfl rfl) okp_SR rfl rfl rfl rfl (fun r h1 hp => ?_)
      obtain ⟨⟨h126, rfl⟩ | ⟨h126, rfl⟩, rfl⟩ := hp
      · refine ⟨rfl, ?_⟩
        refine ar_hp (mP_SR w0 ff w1 gg z (vwOf (lkT (pN z) n (-6) 8) (pN z))) ?_
        refine ar_if_eq (pc := 129) (tgt := 136) dX6_seen_129 (by decide) (fun c129 => absurd c129 (by decide)) (fun c129 => ?_)
        refine ar_iconst (pc := 132) dX6_seen_132 q_iconst_1 ?_
        refine ar_goto (tgt := 137) (pc := 133) dX6_seen_133 (by decide) ?_
        exact ar_iret (pc := 137) dX6_seen_137 rfl rfl rfl ⟨Or.inl ⟨h126, rfl⟩, _, rfl⟩
      · refine ⟨rfl, ?_⟩
        refine ar_hp (mP_SR w0 ff w1 gg z (vwOf (lkT (pN z) n (-6) 8) (pN z))) ?_
        refine ar_if_eq (pc := 129) (tgt := 136) dX6_seen_129 (by decide) (fun c129 => ?_) (fun c129 => absurd c129 (by decide))
        refine ar_iconst (pc := 136) dX6_seen_136 q_iconst_0 ?_
        exact ar_iret (pc := 137) dX6_seen_137 rfl rfl rfl ⟨Or.inr ⟨h126, rfl⟩, _, rfl⟩
    · refine ⟨rfl, ?_⟩
      refine ar_hp (mP_Ni w0 ff w1 gg z) ?_
      refine ar_if_ne (pc := 42) (tgt := 47) dX6_seen_42 (by decide) (fun c42 => absurd c42 (by decide)) (fun c42 => ?_)
      refine ar_iconst (pc := 45) dX6_seen_45 q_iconst_0 ?_
      exact absurd hs h39
  · refine ⟨rfl, ?_⟩
    refine ar_hp (mP_Ni w0 ff w1 gg z) ?_
    refine ar_if_ne (pc := 8) (tgt := 13) dX6_seen_8 (by decide) (fun c8 => absurd c8 (by decide)) (fun c8 => ?_)
    refine ar_iconst (pc := 11) dX6_seen_11 q_iconst_m1 ?_
    exact absurd (bk_j h8 hj) h5

set_option maxHeartbeats 4000000 in
set_option maxRecDepth 100000 in
theorem sX6_seen_11 (w0 : Bool) (ff : Nat → Int32) (w1 : Bool) (gg : Nat → Int32) (z : PV) (n : Nat) (hn : vBo (pN z) = nI n) (h8 : n ≤ 8) {j : Nat} (hj : j < n) (hs : stP (pN z) n j) : am_Sp mX6_seen [.ref 2, .int (nI j), .int 1, .int 1] (ppH w0 ff w1 gg z) (am_bp (¬ ∃ i, i < 8 ∧ i ≠ j ∧ hdP (pN z) n i j 0) (ppH w0 ff w1 gg z)) := by
  refine am_intro (by decide) (Nat.le_of_ble_eq_true rfl) ?_
  refine ar_aload_n (i := 0) (pc := 0) dX6_seen_0 rfl rfl ?_
  refine ar_getf (pc := 1) dX6_seen_1 fX6_10 rfl rfl ?_
  refine ar_iload_n (i := 1) (pc := 4) dX6_seen_4 rfl rfl ?_
  refine ar_mc (pc := 5) (l := [0, 1, 3, 4, 5, 6, 7, 8, 9, 10]) (ar_rV dX6_seen_5 cal_X3_isBooth kX6_85 rfl (sX3_isBooth (pN z) n hn h8 _) rfl rfl rfl rfl rfl okp_N rfl rfl) okp_N rfl rfl rfl rfl (fun r h1 hp => ?_)
  obtain ⟨⟨h5, rfl⟩ | ⟨h5, rfl⟩, rfl⟩ := hp
  · refine ⟨rfl, ?_⟩
    refine ar_hp (mP_Ni w0 ff w1 gg z) ?_
    refine ar_if_ne (pc := 8) (tgt := 13) dX6_seen_8 (by decide) (fun c8 => ?_) (fun c8 => absurd c8 (by decide))
    refine ar_iload_n (i := 2) (pc := 13) dX6_seen_13 rfl rfl ?_
    refine ar_if_eq (pc := 14) (tgt := 22) dX6_seen_14 (by decide) (fun c14 => absurd c14 (by decide +kernel)) (fun c14 => ?_)
    refine ar_iload_n (i := 2) (pc := 17) dX6_seen_17 rfl rfl ?_
    refine ar_iconst (pc := 18) dX6_seen_18 q_iconst_1 ?_
    refine ar_icmp_ne (pc := 19) (tgt := 31) dX6_seen_19 (by decide) (fun c19 => absurd rfl c19) (fun c19 => ?_)
    refine ar_iload_n (i := 3) (pc := 22) dX6_seen_22 rfl rfl ?_
    refine ar_if_eq (pc := 23) (tgt := 34) dX6_seen_23 (by decide) (fun c23 => absurd c23 (by decide +kernel)) (fun c23 => ?_)
    refine ar_iload_n (i := 3) (pc := 26) dX6_seen_26 rfl rfl ?_
    refine ar_iconst (pc := 27) dX6_seen_27 q_iconst_1 ?_
    refine ar_icmp_eq (pc := 28) (tgt := 34) dX6_seen_28 (by decide) (fun c28 => ?_) (fun c28 => absurd rfl c28)
    refine ar_aload_n (i := 0) (pc := 34) dX6_seen_34 rfl rfl ?_
    refine ar_getf (pc := 35) dX6_seen_35 fX6_10 rfl rfl ?_
    refine ar_iload_n (i := 1) (pc := 38) dX6_seen_38 rfl rfl ?_
    refine ar_mc (pc := 39) (l := [0, 1, 3, 4, 5, 6, 7, 8, 9, 10]) (ar_rV dX6_seen_39 cal_X3_isStanding kX6_161 rfl (sX3_isStanding (pN z) n hn h8 (show j < 8 by omega)) rfl rfl rfl rfl rfl okp_N rfl rfl) okp_N rfl rfl rfl rfl (fun r h1 hp => ?_)
    obtain ⟨⟨h39, rfl⟩ | ⟨h39, rfl⟩, rfl⟩ := hp
    · refine ⟨rfl, ?_⟩
      refine ar_hp (mP_Ni w0 ff w1 gg z) ?_
      refine ar_if_ne (pc := 42) (tgt := 47) dX6_seen_42 (by decide) (fun c42 => ?_) (fun c42 => absurd c42 (by decide))
      refine ar_iload_n (i := 2) (pc := 47) dX6_seen_47 rfl rfl ?_
      refine ar_if_ne (pc := 48) (tgt := 55) dX6_seen_48 (by decide) (fun c48 => ?_) (fun c48 => absurd c48 (by decide +kernel))
      refine ar_iconst (pc := 55) dX6_seen_55 q_iconst_0 ?_
      refine ar_istore (pc := 56) dX6_seen_56 (Nat.le_of_ble_eq_true rfl) rfl ?_
      refine ar_iload_n (i := 3) (pc := 58) dX6_seen_58 rfl rfl ?_
      refine ar_iconst (pc := 59) dX6_seen_59 q_iconst_1 ?_
      refine ar_icmp_ne (pc := 60) (tgt := 82) dX6_seen_60 (by decide) (fun c60 => absurd rfl c60) (fun c60 => ?_)
      refine ar_aload_n (i := 0) (pc := 63) dX6_seen_63 rfl rfl ?_
      refine ar_getf (pc := 64) dX6_seen_64 fX6_10 rfl rfl ?_
      refine ar_iload_n (i := 1) (pc := 67) dX6_seen_67 rfl rfl ?_
      refine ar_iload (pc := 68) dX6_seen_68 rfl ?_
      refine ar_mc (pc := 70) (l := [0, 1, 3, 4, 5, 6, 7, 8, 9, 10]) (ar_rV dX6_seen_70 cal_X3_isHidden kX6_164 rfl (sX3_isHidden (pN z) n hn h8 (show j < 8 by omega) 0) rfl rfl rfl rfl rfl okp_N rfl rfl) okp_N rfl rfl rfl rfl (fun r h1 hp => ?_)
      obtain ⟨⟨h70, rfl⟩ | ⟨h70, rfl⟩, rfl⟩ := hp
      · refine ⟨rfl, ?_⟩
        refine ar_hp (mP_Ni w0 ff w1 gg z) ?_
        refine ar_if_eq (pc := 73) (tgt := 80) dX6_seen_73 (by decide) (fun c73 => absurd c73 (by decide)) (fun c73 => ?_)
        refine ar_iconst (pc := 76) dX6_seen_76 q_iconst_0 ?_
        refine ar_goto (tgt := 81) (pc := 77) dX6_seen_77 (by decide) ?_
        exact ar_iret (pc := 81) dX6_seen_81 rfl rfl rfl ⟨Or.inr ⟨fun hz => hz h70, rfl⟩, rfl⟩
      · refine ⟨rfl, ?_⟩
        refine ar_hp (mP_Ni w0 ff w1 gg z) ?_
        refine ar_if_eq (pc := 73) (tgt := 80) dX6_seen_73 (by decide) (fun c73 => ?_) (fun c73 => absurd c73 (by decide))
        refine ar_iconst (pc := 80) dX6_seen_80 q_iconst_1 ?_
        exact ar_iret (pc := 81) dX6_seen_81 rfl rfl rfl ⟨Or.inl ⟨h70, rfl⟩, rfl⟩
    · refine ⟨rfl, ?_⟩
      refine ar_hp (mP_Ni w0 ff w1 gg z) ?_
      refine ar_if_ne (pc := 42) (tgt := 47) dX6_seen_42 (by decide) (fun c42 => absurd c42 (by decide)) (fun c42 => ?_)
      refine ar_iconst (pc := 45) dX6_seen_45 q_iconst_0 ?_
      exact absurd hs h39
  · refine ⟨rfl, ?_⟩
    refine ar_hp (mP_Ni w0 ff w1 gg z) ?_
    refine ar_if_ne (pc := 8) (tgt := 13) dX6_seen_8 (by decide) (fun c8 => absurd c8 (by decide)) (fun c8 => ?_)
    refine ar_iconst (pc := 11) dX6_seen_11 q_iconst_m1 ?_
    exact absurd (bk_j h8 hj) h5
