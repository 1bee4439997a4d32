/-! the whole asked: booth, pitch -/
theorem pat_ppW (w0 : Bool) (ff : Nat → Int32) (w1 : Bool) (gg : Nat → Int32) (z : PV) (x : VWt) : am_pat (ppH w0 ff w1 gg (sW z x)) = am_pat (ppH w0 ff w1 gg z) := rfl
def bpW (p : Prop) (w0 : Bool) (ff : Nat → Int32) (w1 : Bool) (gg : Nat → Int32) (z : PV) : Option Value → am_H → Prop := fun r h1 => ((p ∧ r = some (.int 1)) ∨ (¬ p ∧ r = some (.int 0))) ∧ ∃ x', h1 = ppH w0 ff w1 gg (sW z x')
theorem bk_j {n j : Nat} (h8 : n ≤ 8) (hj : j < n) : bkP n (nI j) := by
  have e : (nI j).toInt = (j : Int) := nI_toInt (by omega)
  exact ⟨by omega, by omega⟩
theorem in_p {p : Nat} (hp : p < 12) : inP (nI p) := by
  have e : (nI p).toInt = (p : Int) := nI_toInt (by omega)
  exact ⟨by omega, by omega⟩
set_option maxHeartbeats 4000000 in
set_option maxRecDepth 100000 in
theorem sX6_booth_0 (w0 : Bool) (ff : Nat → Int32) (w1 : Bool) (gg : Nat → Int32) (z : PV) (n : Nat) (hn : vBo (pN z) = nI n) (h8 : n ≤ 8) {j : Nat} (hj : j < n) : am_Sp mX6_booth [.ref 2, .int (nI j), .int (nI 0)] (ppH w0 ff w1 gg z) (am_rp (vH (pN z) j) (ppH w0 ff w1 gg z)) := by
  refine am_intro (by decide) (Nat.le_of_ble_eq_true rfl) ?_
  refine ar_aload_n (i := 0) (pc := 0) dX6_booth_0 rfl rfl ?_
  refine ar_getf (pc := 1) dX6_booth_1 fX6_10 rfl rfl ?_
  refine ar_iload_n (i := 1) (pc := 4) dX6_booth_4 rfl rfl ?_
  refine ar_mc (pc := 5) (l := [0, 1, 3, 4, 5, 6, 7, 8, 9, 10]) (ar_rV dX6_booth_5 cal_X3_isBooth kX6_85 rfl (sX3_isBooth (pN z) n hn h8 _) rfl rfl rfl rfl rfl okp_N rfl rfl) okp_N rfl rfl rfl rfl (fun r h1 hp => ?_)
  obtain ⟨⟨h5, rfl⟩ | ⟨h5, rfl⟩, rfl⟩ := hp
  · refine ⟨rfl, ?_⟩
    refine ar_hp (mP_Ni w0 ff w1 gg z) ?_
    refine ar_if_ne (pc := 8) (tgt := 13) dX6_booth_8 (by decide) (fun c8 => ?_) (fun c8 => absurd c8 (by decide))
    refine ar_iload_n (i := 2) (pc := 13) dX6_booth_13 rfl rfl ?_
    refine ar_tsIn (pc := 14) (tgt := 60) (off := 46) dX6_booth_14 (by decide +kernel) (by decide +kernel) (by decide +kernel) (by decide) ?_
    refine ar_aload_n (i := 0) (pc := 60) dX6_booth_60 rfl rfl ?_
    refine ar_getf (pc := 61) dX6_booth_61 fX6_10 rfl rfl ?_
    refine ar_getf (pc := 64) dX6_booth_64 fX6_95 rfl rfl ?_
    refine ar_iload_n (i := 1) (pc := 67) dX6_booth_67 rfl rfl ?_
    refine ar_iald (pc := 68) dX6_booth_68 rfl (show j < 8 by omega) rfl ?_
    exact ar_iret (pc := 69) dX6_booth_69 rfl rfl rfl ⟨rfl, rfl⟩
  · refine ⟨rfl, ?_⟩
    refine ar_hp (mP_Ni w0 ff w1 gg z) ?_
    refine ar_if_ne (pc := 8) (tgt := 13) dX6_booth_8 (by decide) (fun c8 => absurd c8 (by decide)) (fun c8 => ?_)
    refine ar_iconst (pc := 11) dX6_booth_11 q_iconst_m1 ?_
    exact absurd (bk_j h8 hj) h5

set_option maxHeartbeats 4000000 in
set_option maxRecDepth 100000 in
theorem sX6_booth_1 (w0 : Bool) (ff : Nat → Int32) (w1 : Bool) (gg : Nat → Int32) (z : PV) (n : Nat) (hn : vBo (pN z) = nI n) (h8 : n ≤ 8) {j : Nat} (hj : j < n) : am_Sp mX6_booth [.ref 2, .int (nI j), .int (nI 1)] (ppH w0 ff w1 gg z) (am_rp (vP (pN z) j) (ppH w0 ff w1 gg z)) := by
  refine am_intro (by decide) (Nat.le_of_ble_eq_true rfl) ?_
  refine ar_aload_n (i := 0) (pc := 0) dX6_booth_0 rfl rfl ?_
  refine ar_getf (pc := 1) dX6_booth_1 fX6_10 rfl rfl ?_
  refine ar_iload_n (i := 1) (pc := 4) dX6_booth_4 rfl rfl ?_
  refine ar_mc (pc := 5) (l := [0, 1, 3, 4, 5, 6, 7, 8, 9, 10]) (ar_rV dX6_booth_5 cal_X3_isBooth kX6_85 rfl (sX3_isBooth (pN z) n hn h8 _) rfl rfl rfl rfl rfl okp_N rfl rfl) okp_N rfl rfl rfl rfl (fun r h1 hp => ?_)
  obtain ⟨⟨h5, rfl⟩ | ⟨h5, rfl⟩, rfl⟩ := hp
  · refine ⟨rfl, ?_⟩
    refine ar_hp (mP_Ni w0 ff w1 gg z) ?_
    refine ar_if_ne (pc := 8) (tgt := 13) dX6_booth_8 (by decide) (fun c8 => ?_) (fun c8 => absurd c8 (by decide))
    refine ar_iload_n (i := 2) (pc := 13) dX6_booth_13 rfl rfl ?_
    refine ar_tsIn (pc := 14) (tgt := 70) (off := 56) dX6_booth_14 (by decide +kernel) (by decide +kernel) (by decide +kernel) (by decide) ?_
    refine ar_aload_n (i := 0) (pc := 70) dX6_booth_70 rfl rfl ?_
    refine ar_getf (pc := 71) dX6_booth_71 fX6_10 rfl rfl ?_
    refine ar_getf (pc := 74) dX6_booth_74 fX6_102 rfl rfl ?_
    refine ar_iload_n (i := 1) (pc := 77) dX6_booth_77 rfl rfl ?_
    refine ar_iald (pc := 78) dX6_booth_78 rfl (show j < 8 by omega) rfl ?_
    exact ar_iret (pc := 79) dX6_booth_79 rfl rfl rfl ⟨rfl, rfl⟩
  · refine ⟨rfl, ?_⟩
    refine ar_hp (mP_Ni w0 ff w1 gg z) ?_
    refine ar_if_ne (pc := 8) (tgt := 13) dX6_booth_8 (by decide) (fun c8 => absurd c8 (by decide)) (fun c8 => ?_)
    refine ar_iconst (pc := 11) dX6_booth_11 q_iconst_m1 ?_
    exact absurd (bk_j h8 hj) h5

set_option maxHeartbeats 4000000 in
set_option maxRecDepth 100000 in
theorem sX6_booth_2 (w0 : Bool) (ff : Nat → Int32) (w1 : Bool) (gg : Nat → Int32) (z : PV) (n : Nat) (hn : vBo (pN z) = nI n) (h8 : n ≤ 8) {j : Nat} (hj : j < n) : am_Sp mX6_booth [.ref 2, .int (nI j), .int (nI 2)] (ppH w0 ff w1 gg z) (rpW (crA (pN z) (lkT (pN z) n (-6) 8) (vP (pN z) j) (vH (pN z) j)) w0 ff w1 gg z) := by
  refine am_intro (by decide) (Nat.le_of_ble_eq_true rfl) ?_
  refine ar_aload_n (i := 0) (pc := 0) dX6_booth_0 rfl rfl ?_
  refine ar_getf (pc := 1) dX6_booth_1 fX6_10 rfl rfl ?_
  refine ar_iload_n (i := 1) (pc := 4) dX6_booth_4 rfl rfl ?_
  refine ar_mc (pc := 5) (l := [0, 1, 3, 4, 5, 6, 7, 8, 9, 10]) (ar_rV dX6_booth_5 cal_X3_isBooth kX6_85 rfl (sX3_isBooth (pN z) n hn h8 _) rfl rfl rfl rfl rfl okp_N rfl rfl) okp_N rfl rfl rfl rfl (fun r h1 hp => ?_)
  obtain ⟨⟨h5, rfl⟩ | ⟨h5, rfl⟩, rfl⟩ := hp
  · refine ⟨rfl, ?_⟩
    refine ar_hp (mP_Ni w0 ff w1 gg z) ?_
    refine ar_if_ne (pc := 8) (tgt := 13) dX6_booth_8 (by decide) (fun c8 => ?_) (fun c8 => absurd c8 (by decide))
    refine ar_iload_n (i := 2) (pc := 13) dX6_booth_13 rfl rfl ?_
    refine ar_tsIn (pc := 14) (tgt := 80) (off := 66) dX6_booth_14 (by decide +kernel) (by decide +kernel) (by decide +kernel) (by decide) ?_
    refine ar_aload_n (i := 0) (pc := 80) dX6_booth_80 rfl rfl ?_
    refine ar_getf (pc := 81) dX6_booth_81 fX6_22 rfl rfl ?_
    refine ar_aload_n (i := 0) (pc := 84) dX6_booth_84 rfl rfl ?_
    refine ar_getf (pc := 85) dX6_booth_85 fX6_10 rfl rfl ?_
    refine ar_bipush (pc := 88) dX6_booth_88 q_bipush_m6 ?_
    refine ar_mc (pc := 90) (l := [0, 1, 19, 20, 21, 22, 23, 24, 25, 26, 3, 4, 5, 6, 7, 8, 9, 10]) (ar_rV dX6_booth_90 cal_X5_look kX6_137 rfl (sX5_look (pW z).1 (pW z).2.1 (pW z).2.2.1 (pW z).2.2.2.1 (pW z).2.2.2.2.1 (pW z).2.2.2.2.2.1 (pW z).2.2.2.2.2.2.1 (pW z).2.2.2.2.2.2.2.1 (pW z).2.2.2.2.2.2.2.2 (pN z) n hn h8 (-6)) rfl rfl rfl rfl rfl okp_WN rfl rfl) okp_WN rfl rfl rfl rfl (fun r h1 hp => ?_)
    obtain ⟨rfl, rfl⟩ := hp
    refine ⟨rfl, ?_⟩
    refine ar_hp (mP_L w0 ff w1 gg z (lkT (pN z) n ((-6)) 8)) ?_
    refine ar_aload_n (i := 0) (pc := 93) dX6_booth_93 rfl rfl ?_
    refine ar_getf (pc := 94) dX6_booth_94 fX6_22 rfl rfl ?_
    refine ar_aload_n (i := 0) (pc := 97) dX6_booth_97 rfl rfl ?_
    refine ar_getf (pc := 98) dX6_booth_98 fX6_10 rfl rfl ?_
    refine ar_getf (pc := 101) dX6_booth_101 fX6_102 rfl rfl ?_
    refine ar_iload_n (i := 1) (pc := 104) dX6_booth_104 rfl rfl ?_
    refine ar_iald (pc := 105) dX6_booth_105 rfl (by omega) rfl ?_
    refine ar_aload_n (i := 0) (pc := 106) dX6_booth_106 rfl rfl ?_
    refine ar_getf (pc := 107) dX6_booth_107 fX6_10 rfl rfl ?_
    refine ar_getf (pc := 110) dX6_booth_110 fX6_95 rfl rfl ?_
    refine ar_iload_n (i := 1) (pc := 113) dX6_booth_113 rfl rfl ?_
    refine ar_iald (pc := 114) dX6_booth_114 rfl (show j < 8 by omega) rfl ?_
    refine ar_mc (pc := 115) (l := [0, 1, 19, 20, 21, 22, 23, 24, 25, 26]) (ar_rV dX6_booth_115 cal_X5_crowdAt kX6_141 rfl (sX5_crowdAt (lkT (pN z) n (-6) 8) (arF 1 (lkT (pN z) n (-6) 8) (vS (pN z) 0) (vS (pN z) 2)) (taF 1 (lkT (pN z) n (-6) 8) (vS (pN z) 0) (vS (pN z) 2)) (vS (pN z) 2) (paF 1 (lkT (pN z) n (-6) 8) (vS (pN z) 0) (vS (pN z) 2)) (arF 0 (lkT (pN z) n (-6) 8) (vS (pN z) 1) (vS (pN z) 2)) (taF 0 (lkT (pN z) n (-6) 8) (vS (pN z) 1) (vS (pN z) 2)) (vS (pN z) 2) (paF 0 (lkT (pN z) n (-6) 8) (vS (pN z) 1) (vS (pN z) 2)) (vP (pN z) j) (vH (pN z) j)) rfl rfl rfl rfl rfl okp_W rfl rfl) okp_W rfl rfl rfl rfl (fun r h1 hp => ?_)
    obtain ⟨rfl, rfl⟩ := hp
    refine ⟨rfl, ?_⟩
    refine ar_hp (mP_Wi w0 ff w1 gg z (vwOf (lkT (pN z) n (-6) 8) (pN z))) ?_
    exact ar_iret (pc := 118) dX6_booth_118 rfl rfl rfl ⟨rfl, _, rfl⟩
  · refine ⟨rfl, ?_⟩
    refine ar_hp (mP_Ni w0 ff w1 gg z) ?_
    refine ar_if_ne (pc := 8) (tgt := 13) dX6_booth_8 (by decide) (fun c8 => absurd c8 (by decide)) (fun c8 => ?_)
    refine ar_iconst (pc := 11) dX6_booth_11 q_iconst_m1 ?_
    exact absurd (bk_j h8 hj) h5

set_option maxHeartbeats 4000000 in
set_option maxRecDepth 100000 in
theorem sX6_booth_3 (w0 : Bool) (ff : Nat → Int32) (w1 : Bool) (gg : Nat → Int32) (z : PV) (n : Nat) (hn : vBo (pN z) = nI n) (h8 : n ≤ 8) {j : Nat} (hj : j < n) : am_Sp mX6_booth [.ref 2, .int (nI j), .int (nI 3)] (ppH w0 ff w1 gg z) (rpW (sfV 1 (pN z) n j) w0 ff w1 gg z) := by
  refine am_intro (by decide) (Nat.le_of_ble_eq_true rfl) ?_
  refine ar_aload_n (i := 0) (pc := 0) dX6_booth_0 rfl rfl ?_
  refine ar_getf (pc := 1) dX6_booth_1 fX6_10 rfl rfl ?_
  refine ar_iload_n (i := 1) (pc := 4) dX6_booth_4 rfl rfl ?_
  refine ar_mc (pc := 5) (l := [0, 1, 3, 4, 5, 6, 7, 8, 9, 10]) (ar_rV dX6_booth_5 cal_X3_isBooth kX6_85 rfl (sX3_isBooth (pN z) n hn h8 _) rfl rfl rfl rfl rfl okp_N rfl rfl) okp_N rfl rfl rfl rfl (fun r h1 hp => ?_)
  obtain ⟨⟨h5, rfl⟩ | ⟨h5, rfl⟩, rfl⟩ := hp
  · refine ⟨rfl, ?_⟩
    refine ar_hp (mP_Ni w0 ff w1 gg z) ?_
    refine ar_if_ne (pc := 8) (tgt := 13) dX6_booth_8 (by decide) (fun c8 => ?_) (fun c8 => absurd c8 (by decide))
    refine ar_iload_n (i := 2) (pc := 13) dX6_booth_13 rfl rfl ?_
    refine ar_tsIn (pc := 14) (tgt := 119) (off := 105) dX6_booth_14 (by decide +kernel) (by decide +kernel) (by decide +kernel) (by decide) ?_
    refine ar_aload_n (i := 0) (pc := 119) dX6_booth_119 rfl rfl ?_
    refine ar_iconst (pc := 120) dX6_booth_120 q_iconst_1 ?_
    refine ar_iload_n (i := 1) (pc := 121) dX6_booth_121 rfl rfl ?_
    refine ar_idV (pc := 122) dX6_booth_122 cal_X6_stoppingFrom kX6_145 rfl (sX6_stoppingFrom1 w0 ff w1 gg z n hn h8 hj) rfl rfl rfl rfl rfl rfl rfl (fun r h1 hp => ?_)
    obtain ⟨rfl, x, rfl⟩ := hp
    refine ⟨pat_ppW .., ?_⟩
    exact ar_iret (pc := 125) dX6_booth_125 rfl rfl rfl ⟨rfl, _, rfl⟩
  · refine ⟨rfl, ?_⟩
    refine ar_hp (mP_Ni w0 ff w1 gg z) ?_
    refine ar_if_ne (pc := 8) (tgt := 13) dX6_booth_8 (by decide) (fun c8 => absurd c8 (by decide)) (fun c8 => ?_)
    refine ar_iconst (pc := 11) dX6_booth_11 q_iconst_m1 ?_
    exact absurd (bk_j h8 hj) h5

set_option maxHeartbeats 4000000 in
set_option maxRecDepth 100000 in
theorem sX6_booth_4 (w0 : Bool) (ff : Nat → Int32) (w1 : Bool) (gg : Nat → Int32) (z : PV) (n : Nat) (hn : vBo (pN z) = nI n) (h8 : n ≤ 8) {j : Nat} (hj : j < n) : am_Sp mX6_booth [.ref 2, .int (nI j), .int (nI 4)] (ppH w0 ff w1 gg z) (rpW (sfV 0 (pN z) n j) w0 ff w1 gg z) := by
  refine am_intro (by decide) (Nat.le_of_ble_eq_true rfl) ?_
  refine ar_aload_n (i := 0) (pc := 0) dX6_booth_0 rfl rfl ?_
  refine ar_getf (pc := 1) dX6_booth_1 fX6_10 rfl rfl ?_
  refine ar_iload_n (i := 1) (pc := 4) dX6_booth_4 rfl rfl ?_
  refine ar_mc (pc := 5) (l := [0, 1, 3, 4, 5, 6, 7, 8, 9, 10]) (ar_rV dX6_booth_5 cal_X3_isBooth kX6_85 rfl (sX3_isBooth (pN z) n hn h8 _) rfl rfl rfl rfl rfl okp_N rfl rfl) okp_N rfl rfl rfl rfl (fun r h1 hp => ?_)
  obtain ⟨⟨h5, rfl⟩ | ⟨h5, rfl⟩, rfl⟩ := hp
  · refine ⟨rfl, ?_⟩
    refine ar_hp (mP_Ni w0 ff w1 gg z) ?_
    refine ar_if_ne (pc := 8) (tgt := 13) dX6_booth_8 (by decide) (fun c8 => ?_) (fun c8 => absurd c8 (by decide))
    refine ar_iload_n (i := 2) (pc := 13) dX6_booth_13 rfl rfl ?_
    refine ar_tsIn (pc := 14) (tgt := 126) (off := 112) dX6_booth_14 (by decide +kernel) (by decide +kernel) (by decide +kernel) (by decide) ?_
    refine ar_aload_n (i := 0) (pc := 126) dX6_booth_126 rfl rfl ?_
    refine ar_iconst (pc := 127) dX6_booth_127 q_iconst_0 ?_
    refine ar_iload_n (i := 1) (pc := 128) dX6_booth_128 rfl rfl ?_
    refine ar_idV (pc := 129) dX6_booth_129 cal_X6_stoppingFrom kX6_145 rfl (sX6_stoppingFrom0 w0 ff w1 gg z n hn h8 hj) rfl rfl rfl rfl rfl rfl rfl (fun r h1 hp => ?_)
    obtain ⟨rfl, x, rfl⟩ := hp
    refine ⟨pat_ppW .., ?_⟩
    exact ar_iret (pc := 132) dX6_booth_132 rfl rfl rfl ⟨rfl, _, rfl⟩
  · refine ⟨rfl, ?_⟩
    refine ar_hp (mP_Ni w0 ff w1 gg z) ?_
    refine ar_if_ne (pc := 8) (tgt := 13) dX6_booth_8 (by decide) (fun c8 => absurd c8 (by decide)) (fun c8 => ?_)
    refine ar_iconst (pc := 11) dX6_booth_11 q_iconst_m1 ?_
    exact absurd (bk_j h8 hj) h5

set_option maxHeartbeats 4000000 in
set_option maxRecDepth 100000 in
theorem sX6_booth_5 (w0 : Bool) (ff : Nat → Int32) (w1 : Bool) (gg : Nat → Int32) (z : PV) (n : Nat) (hn : vBo (pN z) = nI n) (h8 : n ≤ 8) {j : Nat} (hj : j < n) : am_Sp mX6_booth [.ref 2, .int (nI j), .int (nI 5)] (ppH w0 ff w1 gg z) (am_rp (vT (pN z) j) (ppH w0 ff w1 gg z)) := by
  refine am_intro (by decide) (Nat.le_of_ble_eq_true rfl) ?_
  refine ar_aload_n (i := 0) (pc := 0) dX6_booth_0 rfl rfl ?_
  refine ar_getf (pc := 1) dX6_booth_1 fX6_10 rfl rfl ?_
  refine ar_iload_n (i := 1) (pc := 4) dX6_booth_4 rfl rfl ?_
  refine ar_mc (pc := 5) (l := [0, 1, 3, 4, 5, 6, 7, 8, 9, 10]) (ar_rV dX6_booth_5 cal_X3_isBooth kX6_85 rfl (sX3_isBooth (pN z) n hn h8 _) rfl rfl rfl rfl rfl okp_N rfl rfl) okp_N rfl rfl rfl rfl (fun r h1 hp => ?_)
  obtain ⟨⟨h5, rfl⟩ | ⟨h5, rfl⟩, rfl⟩ := hp
  · refine ⟨rfl, ?_⟩
    refine ar_hp (mP_Ni w0 ff w1 gg z) ?_
    refine ar_if_ne (pc := 8) (tgt := 13) dX6_booth_8 (by decide) (fun c8 => ?_) (fun c8 => absurd c8 (by decide))
    refine ar_iload_n (i := 2) (pc := 13) dX6_booth_13 rfl rfl ?_
    refine ar_tsIn (pc := 14) (tgt := 133) (off := 119) dX6_booth_14 (by decide +kernel) (by decide +kernel) (by decide +kernel) (by decide) ?_
    refine ar_aload_n (i := 0) (pc := 133) dX6_booth_133 rfl rfl ?_
    refine ar_getf (pc := 134) dX6_booth_134 fX6_10 rfl rfl ?_
    refine ar_getf (pc := 137) dX6_booth_137 fX6_88 rfl rfl ?_
    refine ar_iload_n (i := 1) (pc := 140) dX6_booth_140 rfl rfl ?_
    refine ar_iald (pc := 141) dX6_booth_141 rfl (show j < 8 by omega) rfl ?_
    exact ar_iret (pc := 142) dX6_booth_142 rfl rfl rfl ⟨rfl, rfl⟩
  · refine ⟨rfl, ?_⟩
    refine ar_hp (mP_Ni w0 ff w1 gg z) ?_
    refine ar_if_ne (pc := 8) (tgt := 13) dX6_booth_8 (by decide) (fun c8 => absurd c8 (by decide)) (fun c8 => ?_)
    refine ar_iconst (pc := 11) dX6_booth_11 q_iconst_m1 ?_
    exact absurd (bk_j h8 hj) h5

set_option maxHeartbeats 4000000 in
set_option maxRecDepth 100000 in
theorem sX6_booth_6 (w0 : Bool) (ff : Nat → Int32) (w1 : Bool) (gg : Nat → Int32) (z : PV) (n : Nat) (hn : vBo (pN z) = nI n) (h8 : n ≤ 8) {j : Nat} (hj : j < n) : am_Sp mX6_booth [.ref 2, .int (nI j), .int (nI 6)] (ppH w0 ff w1 gg z) (am_rp (vF (pN z) j) (ppH w0 ff w1 gg z)) := by
  refine am_intro (by decide) (Nat.le_of_ble_eq_true rfl) ?_
  refine ar_aload_n (i := 0) (pc := 0) dX6_booth_0 rfl rfl ?_
  refine ar_getf (pc := 1) dX6_booth_1 fX6_10 rfl rfl ?_
  refine ar_iload_n (i := 1) (pc := 4) dX6_booth_4 rfl rfl ?_
  refine ar_mc (pc := 5) (l := [0, 1, 3, 4, 5, 6, 7, 8, 9, 10]) (ar_rV dX6_booth_5 cal_X3_isBooth kX6_85 rfl (sX3_isBooth (pN z) n hn h8 _) rfl rfl rfl rfl rfl okp_N rfl rfl) okp_N rfl rfl rfl rfl (fun r h1 hp => ?_)
  obtain ⟨⟨h5, rfl⟩ | ⟨h5, rfl⟩, rfl⟩ := hp
  · refine ⟨rfl, ?_⟩
    refine ar_hp (mP_Ni w0 ff w1 gg z) ?_
    refine ar_if_ne (pc := 8) (tgt := 13) dX6_booth_8 (by decide) (fun c8 => ?_) (fun c8 => absurd c8 (by decide))
    refine ar_iload_n (i := 2) (pc := 13) dX6_booth_13 rfl rfl ?_
    refine ar_tsIn (pc := 14) (tgt := 143) (off := 129) dX6_booth_14 (by decide +kernel) (by decide +kernel) (by decide +kernel) (by decide) ?_
    refine ar_aload_n (i := 0) (pc := 143) dX6_booth_143 rfl rfl ?_
    refine ar_getf (pc := 144) dX6_booth_144 fX6_10 rfl rfl ?_
    refine ar_getf (pc := 147) dX6_booth_147 fX6_149 rfl rfl ?_
    refine ar_iload_n (i := 1) (pc := 150) dX6_booth_150 rfl rfl ?_
    refine ar_iald (pc := 151) dX6_booth_151 rfl (show j < 8 by omega) rfl ?_
    exact ar_iret (pc := 152) dX6_booth_152 rfl rfl rfl ⟨rfl, rfl⟩
  · refine ⟨rfl, ?_⟩
    refine ar_hp (mP_Ni w0 ff w1 gg z) ?_
    refine ar_if_ne (pc := 8) (tgt := 13) dX6_booth_8 (by decide) (fun c8 => absurd c8 (by decide)) (fun c8 => ?_)
    refine ar_iconst (pc := 11) dX6_booth_11 q_iconst_m1 ?_
    exact absurd (bk_j h8 hj) h5

set_option maxHeartbeats 4000000 in
set_option maxRecDepth 100000 in
theorem sX6_booth_7 (w0 : Bool) (ff : Nat → Int32) (w1 : Bool) (gg : Nat → Int32) (z : PV) (n : Nat) (hn : vBo (pN z) = nI n) (h8 : n ≤ 8) {j : Nat} (hj : j < n) : am_Sp mX6_booth [.ref 2, .int (nI j), .int (nI 7)] (ppH w0 ff w1 gg z) (am_rp (vI (pN z) j) (ppH w0 ff w1 gg z)) := by
  refine am_intro (by decide) (Nat.le_of_ble_eq_true rfl) ?_
  refine ar_aload_n (i := 0) (pc := 0) dX6_booth_0 rfl rfl ?_
  refine ar_getf (pc := 1) dX6_booth_1 fX6_10 rfl rfl ?_
  refine ar_iload_n (i := 1) (pc := 4) dX6_booth_4 rfl rfl ?_
  refine ar_mc (pc := 5) (l := [0, 1, 3, 4, 5, 6, 7, 8, 9, 10]) (ar_rV dX6_booth_5 cal_X3_isBooth kX6_85 rfl (sX3_isBooth (pN z) n hn h8 _) rfl rfl rfl rfl rfl okp_N rfl rfl) okp_N rfl rfl rfl rfl (fun r h1 hp => ?_)
  obtain ⟨⟨h5, rfl⟩ | ⟨h5, rfl⟩, rfl⟩ := hp
  · refine ⟨rfl, ?_⟩
    refine ar_hp (mP_Ni w0 ff w1 gg z) ?_
    refine ar_if_ne (pc := 8) (tgt := 13) dX6_booth_8 (by decide) (fun c8 => ?_) (fun c8 => absurd c8 (by decide))
    refine ar_iload_n (i := 2) (pc := 13) dX6_booth_13 rfl rfl ?_
    refine ar_tsIn (pc := 14) (tgt := 153) (off := 139) dX6_booth_14 (by decide +kernel) (by decide +kernel) (by decide +kernel) (by decide) ?_
    refine ar_aload_n (i := 0) (pc := 153) dX6_booth_153 rfl rfl ?_
    refine ar_getf (pc := 154) dX6_booth_154 fX6_10 rfl rfl ?_
    refine ar_getf (pc := 157) dX6_booth_157 fX6_152 rfl rfl ?_
    refine ar_iload_n (i := 1) (pc := 160) dX6_booth_160 rfl rfl ?_
    refine ar_iald (pc := 161) dX6_booth_161 rfl (show j < 8 by omega) rfl ?_
    exact ar_iret (pc := 162) dX6_booth_162 rfl rfl rfl ⟨rfl, rfl⟩
  · refine ⟨rfl, ?_⟩
    refine ar_hp (mP_Ni w0 ff w1 gg z) ?_
    refine ar_if_ne (pc := 8) (tgt := 13) dX6_booth_8 (by decide) (fun c8 => absurd c8 (by decide)) (fun c8 => ?_)
    refine ar_iconst (pc := 11) dX6_booth_11 q_iconst_m1 ?_
    exact absurd (bk_j h8 hj) h5

set_option maxHeartbeats 4000000 in
set_option maxRecDepth 100000 in
theorem sX6_booth_o (w0 : Bool) (ff : Nat → Int32) (w1 : Bool) (gg : Nat → Int32) (z : PV) (n : Nat) (hn : vBo (pN z) = nI n) (h8 : n ≤ 8) {j : Nat} (hj : j < n) (w : Int32) (hw : w.toInt < 0 ∨ 7 < w.toInt) : am_Sp mX6_booth [.ref 2, .int (nI j), .int w] (ppH w0 ff w1 gg z) (am_rp (-2) (ppH w0 ff w1 gg z)) := by
  refine am_intro (by decide) (Nat.le_of_ble_eq_true rfl) ?_
  refine ar_aload_n (i := 0) (pc := 0) dX6_booth_0 rfl rfl ?_
  refine ar_getf (pc := 1) dX6_booth_1 fX6_10 rfl rfl ?_
  refine ar_iload_n (i := 1) (pc := 4) dX6_booth_4 rfl rfl ?_
  refine ar_mc (pc := 5) (l := [0, 1, 3, 4, 5, 6, 7, 8, 9, 10]) (ar_rV dX6_booth_5 cal_X3_isBooth kX6_85 rfl (sX3_isBooth (pN z) n hn h8 _) rfl rfl rfl rfl rfl okp_N rfl rfl) okp_N rfl rfl rfl rfl (fun r h1 hp => ?_)
  obtain ⟨⟨h5, rfl⟩ | ⟨h5, rfl⟩, rfl⟩ := hp
  · refine ⟨rfl, ?_⟩
    refine ar_hp (mP_Ni w0 ff w1 gg z) ?_
    refine ar_if_ne (pc := 8) (tgt := 13) dX6_booth_8 (by decide) (fun c8 => ?_) (fun c8 => absurd c8 (by decide))
    refine ar_iload_n (i := 2) (pc := 13) dX6_booth_13 rfl rfl ?_
    refine ar_tsOut (pc := 14) (tgt := 163) dX6_booth_14 hw (by decide) ?_
    refine ar_bipush (pc := 163) dX6_booth_163 q_bipush_m2 ?_
    exact ar_iret (pc := 165) dX6_booth_165 rfl rfl rfl ⟨rfl, rfl⟩
  · refine ⟨rfl, ?_⟩
    refine ar_hp (mP_Ni w0 ff w1 gg z) ?_
    refine ar_if_ne (pc := 8) (tgt := 13) dX6_booth_8 (by decide) (fun c8 => absurd c8 (by decide)) (fun c8 => ?_)
    refine ar_iconst (pc := 11) dX6_booth_11 q_iconst_m1 ?_
    exact absurd (bk_j h8 hj) h5

set_option maxHeartbeats 4000000 in
set_option maxRecDepth 100000 in
theorem sX6_booth_n (w0 : Bool) (ff : Nat → Int32) (w1 : Bool) (gg : Nat → Int32) (z : PV) (n : Nat) (hn : vBo (pN z) = nI n) (h8 : n ≤ 8) (b w : Int32) (hb : ¬ bkP n b) : am_Sp mX6_booth [.ref 2, .int b, .int w] (ppH w0 ff w1 gg z) (am_rp (-1) (ppH w0 ff w1 gg z)) := by
  refine am_intro (by decide) (Nat.le_of_ble_eq_true rfl) ?_
  refine ar_aload_n (i := 0) (pc := 0) dX6_booth_0 rfl rfl ?_
  refine ar_getf (pc := 1) dX6_booth_1 fX6_10 rfl rfl ?_
  refine ar_iload_n (i := 1) (pc := 4) dX6_booth_4 rfl rfl ?_
  refine ar_mc (pc := 5) (l := [0, 1, 3, 4, 5, 6, 7, 8, 9, 10]) (ar_rV dX6_booth_5 cal_X3_isBooth kX6_85 rfl (sX3_isBooth (pN z) n hn h8 _) rfl rfl rfl rfl rfl okp_N rfl rfl) okp_N rfl rfl rfl rfl (fun r h1 hp => ?_)
  obtain ⟨⟨h5, rfl⟩ | ⟨h5, rfl⟩, rfl⟩ := hp
  · refine ⟨rfl, ?_⟩
    refine ar_hp (mP_Ni w0 ff w1 gg z) ?_
    refine ar_if_ne (pc := 8) (tgt := 13) dX6_booth_8 (by decide) (fun c8 => ?_) (fun c8 => absurd c8 (by decide))
    exact absurd h5 hb
  · refine ⟨rfl, ?_⟩
    refine ar_hp (mP_Ni w0 ff w1 gg z) ?_
    refine ar_if_ne (pc := 8) (tgt := 13) dX6_booth_8 (by decide) (fun c8 => absurd c8 (by decide)) (fun c8 => ?_)
    refine ar_iconst (pc := 11) dX6_booth_11 q_iconst_m1 ?_
    exact ar_iret (pc := 12) dX6_booth_12 rfl rfl rfl ⟨rfl, rfl⟩

set_option maxHeartbeats 4000000 in
set_option maxRecDepth 100000 in
theorem sX6_pitch_0 (w0 : Bool) (ff : Nat → Int32) (w1 : Bool) (gg : Nat → Int32) (z : PV) (n : Nat) (hn : vBo (pN z) = nI n) (h8 : n ≤ 8) {p : Nat} (hp12 : p < 12) : am_Sp mX6_pitch [.ref 2, .int (nI p), .int (nI 0)] (ppH w0 ff w1 gg z) (am_bp (rfP (vRo (pN z)) p) (ppH w0 ff w1 gg z)) := by
  refine am_intro (by decide) (Nat.le_of_ble_eq_true rfl) ?_
  refine ar_iload_n (i := 1) (pc := 0) dX6_pitch_0 rfl rfl ?_
  refine ar_idS (pc := 1) dX6_pitch_1 cal_X6_isPitch kX6_60 rfl (sX6_isPitchB (ppH w0 ff w1 gg z) _) rfl rfl rfl rfl rfl (fun r h1 hp => ?_)
  obtain ⟨⟨h1, rfl⟩ | ⟨h1, rfl⟩, rfl⟩ := hp
  · refine ⟨rfl, ?_⟩
    refine ar_if_ne (pc := 4) (tgt := 9) dX6_pitch_4 (by decide) (fun c4 => ?_) (fun c4 => absurd c4 (by decide))
    refine ar_iload_n (i := 2) (pc := 9) dX6_pitch_9 rfl rfl ?_
    refine ar_tsIn (pc := 10) (tgt := 36) (off := 26) dX6_pitch_10 (by decide +kernel) (by decide +kernel) (by decide +kernel) (by decide) ?_
    refine ar_aload_n (i := 0) (pc := 36) dX6_pitch_36 rfl rfl ?_
    refine ar_getf (pc := 37) dX6_pitch_37 fX6_10 rfl rfl ?_
    refine ar_iload_n (i := 1) (pc := 40) dX6_pitch_40 rfl rfl ?_
    refine ar_mc (pc := 41) (l := [0, 1, 3, 4, 5, 6, 7, 8, 9, 10]) (ar_rV dX6_pitch_41 cal_X3_isRoofed kX6_64 rfl (sX3_isRoofed (pN z) hp12) rfl rfl rfl rfl rfl okp_N rfl rfl) okp_N rfl rfl rfl rfl (fun r h1 hp => ?_)
    obtain ⟨⟨h41, rfl⟩ | ⟨h41, rfl⟩, rfl⟩ := hp
    · refine ⟨rfl, ?_⟩
      refine ar_hp (mP_Ni w0 ff w1 gg z) ?_
      refine ar_if_eq (pc := 44) (tgt := 51) dX6_pitch_44 (by decide) (fun c44 => absurd c44 (by decide)) (fun c44 => ?_)
      refine ar_iconst (pc := 47) dX6_pitch_47 q_iconst_1 ?_
      refine ar_goto (tgt := 52) (pc := 48) dX6_pitch_48 (by decide) ?_
      exact ar_iret (pc := 52) dX6_pitch_52 rfl rfl rfl ⟨Or.inl ⟨h41, rfl⟩, rfl⟩
    · refine ⟨rfl, ?_⟩
      refine ar_hp (mP_Ni w0 ff w1 gg z) ?_
      refine ar_if_eq (pc := 44) (tgt := 51) dX6_pitch_44 (by decide) (fun c44 => ?_) (fun c44 => absurd c44 (by decide))
      refine ar_iconst (pc := 51) dX6_pitch_51 q_iconst_0 ?_
      exact ar_iret (pc := 52) dX6_pitch_52 rfl rfl rfl ⟨Or.inr ⟨h41, rfl⟩, rfl⟩
  · refine ⟨rfl, ?_⟩
    refine ar_if_ne (pc := 4) (tgt := 9) dX6_pitch_4 (by decide) (fun c4 => absurd c4 (by decide)) (fun c4 => ?_)
    refine ar_iconst (pc := 7) dX6_pitch_7 q_iconst_m1 ?_
    exact absurd (in_p hp12) h1

set_option maxHeartbeats 4000000 in
set_option maxRecDepth 100000 in
theorem sX6_pitch_1 (w0 : Bool) (ff : Nat → Int32) (w1 : Bool) (gg : Nat → Int32) (z : PV) (n : Nat) (hn : vBo (pN z) = nI n) (h8 : n ≤ 8) {p : Nat} (hp12 : p < 12) : am_Sp mX6_pitch [.ref 2, .int (nI p), .int (nI 1)] (ppH w0 ff w1 gg z) (am_rp (o2i (ffi (atQ (pN z) n (nI p)) 8 0)) (ppH w0 ff w1 gg z)) := by
  refine am_intro (by decide) (Nat.le_of_ble_eq_true rfl) ?_
  refine ar_iload_n (i := 1) (pc := 0) dX6_pitch_0 rfl rfl ?_
  refine ar_idS (pc := 1) dX6_pitch_1 cal_X6_isPitch kX6_60 rfl (sX6_isPitchB (ppH w0 ff w1 gg z) _) rfl rfl rfl rfl rfl (fun r h1 hp => ?_)
  obtain ⟨⟨h1, rfl⟩ | ⟨h1, rfl⟩, rfl⟩ := hp
  · refine ⟨rfl, ?_⟩
    refine ar_if_ne (pc := 4) (tgt := 9) dX6_pitch_4 (by decide) (fun c4 => ?_) (fun c4 => absurd c4 (by decide))
    refine ar_iload_n (i := 2) (pc := 9) dX6_pitch_9 rfl rfl ?_
    refine ar_tsIn (pc := 10) (tgt := 53) (off := 43) dX6_pitch_10 (by decide +kernel) (by decide +kernel) (by decide +kernel) (by decide) ?_
    refine ar_aload_n (i := 0) (pc := 53) dX6_pitch_53 rfl rfl ?_
    refine ar_getf (pc := 54) dX6_pitch_54 fX6_10 rfl rfl ?_
    refine ar_iload_n (i := 1) (pc := 57) dX6_pitch_57 rfl rfl ?_
    refine ar_mc (pc := 58) (l := [0, 1, 3, 4, 5, 6, 7, 8, 9, 10]) (ar_rV dX6_pitch_58 cal_X3_boothAt kX6_155 rfl (sX3_boothAt (pN z) n hn h8 (nI p)) rfl rfl rfl rfl rfl okp_N rfl rfl) okp_N rfl rfl rfl rfl (fun r h1 hp => ?_)
    obtain ⟨rfl, rfl⟩ := hp
    refine ⟨rfl, ?_⟩
    refine ar_hp (mP_Ni w0 ff w1 gg z) ?_
    exact ar_iret (pc := 61) dX6_pitch_61 rfl rfl rfl ⟨rfl, rfl⟩
  · refine ⟨rfl, ?_⟩
    refine ar_if_ne (pc := 4) (tgt := 9) dX6_pitch_4 (by decide) (fun c4 => absurd c4 (by decide)) (fun c4 => ?_)
    refine ar_iconst (pc := 7) dX6_pitch_7 q_iconst_m1 ?_
    exact absurd (in_p hp12) h1

set_option maxHeartbeats 4000000 in
set_option maxRecDepth 100000 in
theorem sX6_pitch_2 (w0 : Bool) (ff : Nat → Int32) (w1 : Bool) (gg : Nat → Int32) (z : PV) (n : Nat) (hn : vBo (pN z) = nI n) (h8 : n ≤ 8) {p : Nat} (hp12 : p < 12) : am_Sp mX6_pitch [.ref 2, .int (nI p), .int (nI 2)] (ppH w0 ff w1 gg z) (bpW (opP (lkT (pN z) n (-6) 8) p (vS (pN z) 4)) w0 ff w1 gg z) := by
  refine am_intro (by decide) (Nat.le_of_ble_eq_true rfl) ?_
  refine ar_iload_n (i := 1) (pc := 0) dX6_pitch_0 rfl rfl ?_
  refine ar_idS (pc := 1) dX6_pitch_1 cal_X6_isPitch kX6_60 rfl (sX6_isPitchB (ppH w0 ff w1 gg z) _) rfl rfl rfl rfl rfl (fun r h1 hp => ?_)
  obtain ⟨⟨h1, rfl⟩ | ⟨h1, rfl⟩, rfl⟩ := hp
  · refine ⟨rfl, ?_⟩
    refine ar_if_ne (pc := 4) (tgt := 9) dX6_pitch_4 (by decide) (fun c4 => ?_) (fun c4 => absurd c4 (by decide))
    refine ar_iload_n (i := 2) (pc := 9) dX6_pitch_9 rfl rfl ?_
    refine ar_tsIn (pc := 10) (tgt := 62) (off := 52) dX6_pitch_10 (by decide +kernel) (by decide +kernel) (by decide +kernel) (by decide) ?_
    refine ar_aload_n (i := 0) (pc := 62) dX6_pitch_62 rfl rfl ?_
    refine ar_getf (pc := 63) dX6_pitch_63 fX6_22 rfl rfl ?_
    refine ar_aload_n (i := 0) (pc := 66) dX6_pitch_66 rfl rfl ?_
    refine ar_getf (pc := 67) dX6_pitch_67 fX6_10 rfl rfl ?_
    refine ar_bipush (pc := 70) dX6_pitch_70 q_bipush_m6 ?_
    refine ar_mc (pc := 72) (l := [0, 1, 19, 20, 21, 22, 23, 24, 25, 26, 3, 4, 5, 6, 7, 8, 9, 10]) (ar_rV dX6_pitch_72 cal_X5_look kX6_137 rfl (sX5_look (pW z).1 (pW z).2.1 (pW z).2.2.1 (pW z).2.2.2.1 (pW z).2.2.2.2.1 (pW z).2.2.2.2.2.1 (pW z).2.2.2.2.2.2.1 (pW z).2.2.2.2.2.2.2.1 (pW z).2.2.2.2.2.2.2.2 (pN z) n hn h8 (-6)) rfl rfl rfl rfl rfl okp_WN rfl rfl) okp_WN rfl rfl rfl rfl (fun r h1 hp => ?_)
    obtain ⟨rfl, rfl⟩ := hp
    refine ⟨rfl, ?_⟩
    refine ar_hp (mP_L w0 ff w1 gg z (lkT (pN z) n ((-6)) 8)) ?_
    refine ar_aload_n (i := 0) (pc := 75) dX6_pitch_75 rfl rfl ?_
    refine ar_getf (pc := 76) dX6_pitch_76 fX6_22 rfl rfl ?_
    refine ar_iload_n (i := 1) (pc := 79) dX6_pitch_79 rfl rfl ?_
    refine ar_aload_n (i := 0) (pc := 80) dX6_pitch_80 rfl rfl ?_
    refine ar_getf (pc := 81) dX6_pitch_81 fX6_10 rfl rfl ?_
    refine ar_iconst (pc := 84) dX6_pitch_84 q_iconst_4 ?_
    refine ar_mc (pc := 85) (l := [0, 1, 3, 4, 5, 6, 7, 8, 9, 10]) (ar_rV dX6_pitch_85 cal_X3_setting kX6_52 rfl (sX3_setting (pN z) (k := 4) (by decide)) rfl rfl rfl rfl rfl okp_N rfl rfl) okp_N rfl rfl rfl rfl (fun r h1 hp => ?_)
    obtain ⟨rfl, rfl⟩ := hp
    refine ⟨rfl, ?_⟩
    refine ar_hp (mP_Niw w0 ff w1 gg z (vwOf (lkT (pN z) n (-6) 8) (pN z))) ?_
    refine ar_mc (pc := 88) (l := [0, 1, 19, 20, 21, 22, 23, 24, 25, 26]) (ar_rV dX6_pitch_88 cal_X5_isOpen kX6_158 rfl (sX5_isOpen (lkT (pN z) n (-6) 8) (arF 1 (lkT (pN z) n (-6) 8) (vS (pN z) 0) (vS (pN z) 2)) (taF 1 (lkT (pN z) n (-6) 8) (vS (pN z) 0) (vS (pN z) 2)) (vS (pN z) 2) (paF 1 (lkT (pN z) n (-6) 8) (vS (pN z) 0) (vS (pN z) 2)) (arF 0 (lkT (pN z) n (-6) 8) (vS (pN z) 1) (vS (pN z) 2)) (taF 0 (lkT (pN z) n (-6) 8) (vS (pN z) 1) (vS (pN z) 2)) (vS (pN z) 2) (paF 0 (lkT (pN z) n (-6) 8) (vS (pN z) 1) (vS (pN z) 2)) hp12 (vS (pN z) 4)) rfl rfl rfl rfl rfl okp_W rfl rfl) okp_W rfl rfl rfl rfl (fun r h1 hp => ?_)
    obtain ⟨⟨h88, rfl⟩ | ⟨h88, rfl⟩, rfl⟩ := hp
    · refine ⟨rfl, ?_⟩
      refine ar_hp (mP_Wi w0 ff w1 gg z (vwOf (lkT (pN z) n (-6) 8) (pN z))) ?_
      refine ar_if_eq (pc := 91) (tgt := 98) dX6_pitch_91 (by decide) (fun c91 => absurd c91 (by decide)) (fun c91 => ?_)
      refine ar_iconst (pc := 94) dX6_pitch_94 q_iconst_1 ?_
      refine ar_goto (tgt := 99) (pc := 95) dX6_pitch_95 (by decide) ?_
      exact ar_iret (pc := 99) dX6_pitch_99 rfl rfl rfl ⟨Or.inl ⟨h88, rfl⟩, _, rfl⟩
    · refine ⟨rfl, ?_⟩
      refine ar_hp (mP_Wi w0 ff w1 gg z (vwOf (lkT (pN z) n (-6) 8) (pN z))) ?_
      refine ar_if_eq (pc := 91) (tgt := 98) dX6_pitch_91 (by decide) (fun c91 => ?_) (fun c91 => absurd c91 (by decide))
      refine ar_iconst (pc := 98) dX6_pitch_98 q_iconst_0 ?_
      exact ar_iret (pc := 99) dX6_pitch_99 rfl rfl rfl ⟨Or.inr ⟨h88, rfl⟩, _, rfl⟩
  · refine ⟨rfl, ?_⟩
    refine ar_if_ne (pc := 4) (tgt := 9) dX6_pitch_4 (by decide) (fun c4 => absurd c4 (by decide)) (fun c4 => ?_)
    refine ar_iconst (pc := 7) dX6_pitch_7 q_iconst_m1 ?_
    exact absurd (in_p hp12) h1

set_option maxHeartbeats 4000000 in
set_option maxRecDepth 100000 in
theorem sX6_pitch_o (w0 : Bool) (ff : Nat → Int32) (w1 : Bool) (gg : Nat → Int32) (z : PV) {p : Nat} (hp12 : p < 12) (w : Int32) (hw : w.toInt < 0 ∨ 2 < w.toInt) : am_Sp mX6_pitch [.ref 2, .int (nI p), .int w] (ppH w0 ff w1 gg z) (am_rp (-2) (ppH w0 ff w1 gg z)) := by
  refine am_intro (by decide) (Nat.le_of_ble_eq_true rfl) ?_
  refine ar_iload_n (i := 1) (pc := 0) dX6_pitch_0 rfl rfl ?_
  refine ar_idS (pc := 1) dX6_pitch_1 cal_X6_isPitch kX6_60 rfl (sX6_isPitchB (ppH w0 ff w1 gg z) _) rfl rfl rfl rfl rfl (fun r h1 hp => ?_)
  obtain ⟨⟨h1, rfl⟩ | ⟨h1, rfl⟩, rfl⟩ := hp
  · refine ⟨rfl, ?_⟩
    refine ar_if_ne (pc := 4) (tgt := 9) dX6_pitch_4 (by decide) (fun c4 => ?_) (fun c4 => absurd c4 (by decide))
    refine ar_iload_n (i := 2) (pc := 9) dX6_pitch_9 rfl rfl ?_
    refine ar_tsOut (pc := 10) (tgt := 100) dX6_pitch_10 hw (by decide) ?_
    refine ar_bipush (pc := 100) dX6_pitch_100 q_bipush_m2 ?_
    exact ar_iret (pc := 102) dX6_pitch_102 rfl rfl rfl ⟨rfl, rfl⟩
  · refine ⟨rfl, ?_⟩
    refine ar_if_ne (pc := 4) (tgt := 9) dX6_pitch_4 (by decide) (fun c4 => absurd c4 (by decide)) (fun c4 => ?_)
    refine ar_iconst (pc := 7) dX6_pitch_7 q_iconst_m1 ?_
    exact absurd (in_p hp12) h1

set_option maxHeartbeats 4000000 in
set_option maxRecDepth 100000 in
theorem sX6_pitch_n (w0 : Bool) (ff : Nat → Int32) (w1 : Bool) (gg : Nat → Int32) (z : PV) (b w : Int32) (hb : ¬ inP b) : am_Sp mX6_pitch [.ref 2, .int b, .int w] (ppH w0 ff w1 gg z) (am_rp (-1) (ppH w0 ff w1 gg z)) := by
  refine am_intro (by decide) (Nat.le_of_ble_eq_true rfl) ?_
  refine ar_iload_n (i := 1) (pc := 0) dX6_pitch_0 rfl rfl ?_
  refine ar_idS (pc := 1) dX6_pitch_1 cal_X6_isPitch kX6_60 rfl (sX6_isPitchB (ppH w0 ff w1 gg z) _) rfl rfl rfl rfl rfl (fun r h1 hp => ?_)
  obtain ⟨⟨h1, rfl⟩ | ⟨h1, rfl⟩, rfl⟩ := hp
  · refine ⟨rfl, ?_⟩
    refine ar_if_ne (pc := 4) (tgt := 9) dX6_pitch_4 (by decide) (fun c4 => ?_) (fun c4 => absurd c4 (by decide))
    exact absurd h1 hb
  · refine ⟨rfl, ?_⟩
    refine ar_if_ne (pc := 4) (tgt := 9) dX6_pitch_4 (by decide) (fun c4 => absurd c4 (by decide)) (fun c4 => ?_)
    refine ar_iconst (pc := 7) dX6_pitch_7 q_iconst_m1 ?_
    exact ar_iret (pc := 8) dX6_pitch_8 rfl rfl rfl ⟨rfl, rfl⟩
