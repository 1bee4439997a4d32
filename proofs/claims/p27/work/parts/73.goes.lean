/-! the law: who come from a side -/
theorem bo_c {v : SV} {n p : Nat} : bo_O v n p = none ∨ ∃ b, bo_O v n p = some b := by
  cases bo_O v n p with
  | none => exact Or.inl rfl
  | some b => exact Or.inr ⟨b, rfl⟩
theorem pi_e1 (k : Nat) : nI k = nI (pi 1 k) := by unfold pi; rw [if_neg (by decide)]
theorem pi_e0 {k : Nat} (h : k < 12) : 11 - nI k = nI (pi 0 k) := by
  unfold pi
  rw [if_pos rfl, show (11 : Int32) = nI 11 from rfl, pk_sub (by omega)]
theorem wl_e0 {l : Int32} {v : SV} {n k : Nat} (h : dd_I l v n k = 0) : (wl_L l v n (k + 1)).1 = (wl_L l v n k).1 := by rw [wl_s1, h, Int32.sub_zero]
theorem wl_nb {l : Int32} {v : SV} {n k : Nat} (h8 : n ≤ 8) (D : di_D v n) (hk : k < 12) (hb : bo_O v n (pi l k) = none) : (wl_L l v n (k + 1)).1 = (wl_L l v n k).1 ∧ (wl_L l v n (k + 1)).2 = (wl_L l v n k).2 := by
  have e := tp_no D (pi_lt (l := l) hk) (bo_n h8 (pi_lt hk) hb)
  refine ⟨wl_e0 (dd_no e), ?_⟩
  rw [wl_s2, e, if_neg (Int32.not_lt.mpr (wl_n l v n k))]
theorem wl_nn {l : Int32} {v : SV} {n k b : Nat} (h8 : n ≤ 8) (D : di_D v n) (hk : k < 12) (hb : b < n) (e : vP v b = nI (pi l k)) (c : ¬ (wl_L l v n k).2 < vH v b) : sfV l v n b = 0 ∧ (wl_L l v n (k + 1)).1 = (wl_L l v n k).1 ∧ (wl_L l v n (k + 1)).2 = (wl_L l v n k).2 := by
  have t := tp_at h8 D (pi_lt (l := l) hk) hb e
  have z : dd_I l v n k = 0 := by rw [dd_I, t, if_neg c]
  refine ⟨(sf_dd h8 D hb hk e).trans z, wl_e0 z, ?_⟩
  rw [wl_s2, t, if_neg c]
theorem wl_yy {l : Int32} {v : SV} {n k b : Nat} (h8 : n ≤ 8) (D : di_D v n) (hk : k < 12) (hb : b < n) (e : vP v b = nI (pi l k)) (c : (wl_L l v n k).2 < vH v b) : sfV l v n b = (wl_L l v n k).1 * vS v 2 / 100 ∧ (wl_L l v n (k + 1)).1 = (wl_L l v n k).1 - (wl_L l v n k).1 * vS v 2 / 100 ∧ (wl_L l v n (k + 1)).2 = vH v b := by
  have t := tp_at h8 D (pi_lt (l := l) hk) hb e
  have z : dd_I l v n k = (wl_L l v n k).1 * vS v 2 / 100 := by rw [dd_I, t, if_pos c]
  refine ⟨(sf_dd h8 D hb hk e).trans z, by rw [wl_s1, z], ?_⟩
  rw [wl_s2, t, if_pos c]
set_option maxHeartbeats 4000000 in
set_option maxRecDepth 100000 in
theorem lL_goes0_11 {gg ff : Nat → Int32} {κ n : Nat} {v : SV} (K : ok_D v n) {h0 : am_H} {z0 : PV} {R : am_H} (hR : lr_H R) : ∀ (d k : Nat), k + d = 12 → ∀ z : PV, lz_D κ v z0 z → am_RW mL_goes h0 (ln_P (wl_L 1 v n 12).1 ff gg κ v z0 R) 0 0 11 [some (.ref 2), some (.int 0), some (.int (wl_L 1 v n k).1), some (.int (wl_L 1 v n k).2), some (.int (nI k)), none, none, none] [] (ppH false ff false gg z ++ R) := by
  intro d
  induction d with
  | zero =>
    intro k hk z hz
    have e : k = 12 := by omega
    subst e
    refine ar_iload (pc := 11) dL_goes_11 rfl ?_
    refine ar_bipush (pc := 13) dL_goes_13 q_bipush_12 ?_
    refine ar_icmp_ge (pc := 15) (tgt := 169) dL_goes_15 (by decide) (fun _ => ?_) (fun c => absurd (Int32.le_refl _) c)
    refine ar_iload_n (i := 2) (pc := 169) dL_goes_169 rfl rfl ?_
    exact ar_iret (pc := 170) dL_goes_170 rfl rfl rfl ⟨rfl, z, hz, rfl⟩
  | succ d ih =>
    intro k hkd z hz
    have hk : k < 12 := by omega
    refine ar_iload (pc := 11) dL_goes_11 rfl ?_
    refine ar_bipush (pc := 13) dL_goes_13 q_bipush_12 ?_
    refine ar_icmp_ge (pc := 15) (tgt := 169) dL_goes_15 (by decide) (fun c15 => absurd c15 (nI_ge (show k < 12 by omega) (by decide))) (fun c15 => ?_)
    refine ar_aload_n (i := 0) (pc := 18) dL_goes_18 rfl rfl ?_
    refine ar_iload_n (i := 1) (pc := 19) dL_goes_19 rfl rfl ?_
    refine ar_if_ne (pc := 20) (tgt := 28) dL_goes_20 (by decide) (fun c20 => absurd rfl c20) (fun c20 => ?_)
    refine ar_iload (pc := 23) dL_goes_23 rfl ?_
    refine ar_goto (tgt := 33) (pc := 25) dL_goes_25 (by decide) ?_
    refine ar_hs (pi_e1 k) ?_
    refine ar_iconst (pc := 33) dL_goes_33 q_iconst_1 ?_
    refine ar_cl (pc := 34) dL_goes_34 cal_X6_pitch kL_8 rfl rfl (an_pitch1 K (pi_lt (l := 1) hk)) hz hR rfl rfl rfl rfl rfl rfl (Nat.le_of_ble_eq_true rfl) (Nat.le_of_ble_eq_true rfl) (fun z hz => ?_)
    rcases bo_c (v := v) (n := n) (p := pi 1 k) with hb | ⟨b, hb⟩
    · refine ar_hs (show o2i (bo_O v n (pi 1 k)) = (-6) by rw [hb]; rfl) ?_
      have F := wl_nb K.2.1.1 K.2.1.2.2.2.1 hk hb
      refine ar_istore (pc := 37) dL_goes_37 (Nat.le_of_ble_eq_true rfl) rfl ?_
      refine ar_iload (pc := 39) dL_goes_39 rfl ?_
      refine ar_if_lt (pc := 41) (tgt := 163) dL_goes_41 (by decide) (fun c41 => ?_) (fun c41 => absurd (show (-6 : Int32) < 0 by decide) c41)
      refine ar_iinc (pc := 163) dL_goes_163 rfl (nI_1 k) (Nat.le_of_ble_eq_true rfl) rfl ?_
      refine ar_goto (tgt := 11) (pc := 166) dL_goes_166 (by decide) ?_
      have A := ih (k + 1) (by omega) z hz
      rw [F.1, F.2] at A
      refine ar_fg ?_ A
      exact ⟨rfl, rfl, rfl, rfl, rfl, trivial⟩
    · refine ar_hs (show o2i (bo_O v n (pi 1 k)) = nI b by rw [hb]; rfl) ?_
      obtain ⟨hbn, hbe⟩ := bo_s hb
      have hn8 := K.2.1.1
      refine ar_istore (pc := 37) dL_goes_37 (Nat.le_of_ble_eq_true rfl) rfl ?_
      refine ar_iload (pc := 39) dL_goes_39 rfl ?_
      refine ar_if_lt (pc := 41) (tgt := 163) dL_goes_41 (by decide) (fun c41 => absurd c41 (nI_pos (show b < 2 ^ 31 by omega))) (fun c41 => ?_)
      refine ar_aload_n (i := 0) (pc := 44) dL_goes_44 rfl rfl ?_
      refine ar_iload (pc := 45) dL_goes_45 rfl ?_
      refine ar_iconst (pc := 47) dL_goes_47 q_iconst_0 ?_
      refine ar_cl (pc := 48) dL_goes_48 cal_X6_booth kL_18 rfl rfl (an_booth0 K hbn) hz hR rfl rfl rfl rfl rfl rfl (Nat.le_of_ble_eq_true rfl) (Nat.le_of_ble_eq_true rfl) (fun z hz => ?_)
      refine ar_iload_n (i := 3) (pc := 51) dL_goes_51 rfl rfl ?_
      refine ar_icmp_le (pc := 52) (tgt := 59) dL_goes_52 (by decide) (fun c52 => ?_) (fun c52 => ?_)
      · have C : ¬ (wl_L 1 v n k).2 < vH v b := Int32.not_lt.mpr c52
        have F := wl_nn K.2.1.1 K.2.1.2.2.2.1 hk hbn hbe C
        refine ar_iconst (pc := 59) dL_goes_59 q_iconst_0 ?_
        refine ar_istore (pc := 60) dL_goes_60 (Nat.le_of_ble_eq_true rfl) rfl ?_
        refine ar_iload (pc := 62) dL_goes_62 rfl ?_
        refine ar_if_eq (pc := 64) (tgt := 80) dL_goes_64 (by decide) (fun c64 => ?_) (fun c64 => absurd rfl c64)
        refine ar_iconst (pc := 80) dL_goes_80 q_iconst_0 ?_
        refine ar_istore (pc := 81) dL_goes_81 (Nat.le_of_ble_eq_true rfl) rfl ?_
        refine ar_iload (pc := 83) dL_goes_83 rfl ?_
        refine ar_if_eq (pc := 85) (tgt := 98) dL_goes_85 (by decide) (fun c85 => ?_) (fun c85 => absurd rfl c85)
        refine ar_iload_n (i := 3) (pc := 98) dL_goes_98 rfl rfl ?_
        refine ar_istore_n (i := 3) (pc := 99) dL_goes_99 rfl (Nat.le_of_ble_eq_true rfl) rfl ?_
        refine ar_iload_n (i := 2) (pc := 100) dL_goes_100 rfl rfl ?_
        refine ar_iload (pc := 101) dL_goes_101 rfl ?_
        refine ar_isub (pc := 103) dL_goes_103 ?_
        refine ar_hs (Int32.sub_zero _) ?_
        refine ar_istore_n (i := 2) (pc := 104) dL_goes_104 rfl (Nat.le_of_ble_eq_true rfl) rfl ?_
        refine ar_aload_n (i := 0) (pc := 105) dL_goes_105 rfl rfl ?_
        refine ar_iload (pc := 106) dL_goes_106 rfl ?_
        refine ar_iconst (pc := 108) dL_goes_108 q_iconst_3 ?_
        refine ar_iload_n (i := 1) (pc := 109) dL_goes_109 rfl rfl ?_
        refine ar_iadd (pc := 110) dL_goes_110 ?_
        refine ar_hs (show (3 : Int32) + 0 = 3 by decide) ?_
        refine ar_cl (pc := 111) dL_goes_111 cal_X6_booth kL_18 rfl rfl (an_booth3 K hbn) hz hR rfl rfl rfl rfl rfl rfl (Nat.le_of_ble_eq_true rfl) (Nat.le_of_ble_eq_true rfl) (fun z hz => ?_)
        refine ar_iload (pc := 114) dL_goes_114 rfl ?_
        refine ar_icmp_ne (pc := 116) (tgt := 161) dL_goes_116 (by decide) (fun c116 => absurd F.1 c116) (fun c116 => ?_)
        refine ar_aload_n (i := 0) (pc := 119) dL_goes_119 rfl rfl ?_
        refine ar_iload (pc := 120) dL_goes_120 rfl ?_
        refine ar_iload_n (i := 1) (pc := 122) dL_goes_122 rfl rfl ?_
        refine ar_iconst (pc := 123) dL_goes_123 q_iconst_0 ?_
        refine ar_cl (pc := 124) dL_goes_124 cal_X6_seen kL_21 rfl rfl (an_seen00n K hbn hk hbe C) hz hR rfl rfl rfl rfl rfl rfl (Nat.le_of_ble_eq_true rfl) (Nat.le_of_ble_eq_true rfl) (fun z hz => ?_)
        refine ar_iload (pc := 127) dL_goes_127 rfl ?_
        refine ar_if_eq (pc := 129) (tgt := 136) dL_goes_129 (by decide) (fun c129 => ?_) (fun c129 => absurd rfl c129)
        refine ar_iconst (pc := 136) dL_goes_136 q_iconst_0 ?_
        refine ar_icmp_ne (pc := 137) (tgt := 161) dL_goes_137 (by decide) (fun c137 => absurd rfl c137) (fun c137 => ?_)
        refine ar_aload_n (i := 0) (pc := 140) dL_goes_140 rfl rfl ?_
        refine ar_iload (pc := 141) dL_goes_141 rfl ?_
        refine ar_iload_n (i := 1) (pc := 143) dL_goes_143 rfl rfl ?_
        refine ar_iconst (pc := 144) dL_goes_144 q_iconst_1 ?_
        refine ar_cl (pc := 145) dL_goes_145 cal_X6_seen kL_21 rfl rfl (an_seen01n K hbn hk hbe C) hz hR rfl rfl rfl rfl rfl rfl (Nat.le_of_ble_eq_true rfl) (Nat.le_of_ble_eq_true rfl) (fun z hz => ?_)
        refine ar_iload (pc := 148) dL_goes_148 rfl ?_
        refine ar_if_eq (pc := 150) (tgt := 157) dL_goes_150 (by decide) (fun c150 => ?_) (fun c150 => absurd rfl c150)
        refine ar_iconst (pc := 157) dL_goes_157 q_iconst_0 ?_
        refine ar_icmp_eq (pc := 158) (tgt := 163) dL_goes_158 (by decide) (fun c158 => ?_) (fun c158 => absurd rfl c158)
        refine ar_iinc (pc := 163) dL_goes_163 rfl (nI_1 k) (Nat.le_of_ble_eq_true rfl) rfl ?_
        refine ar_goto (tgt := 11) (pc := 166) dL_goes_166 (by decide) ?_
        have A := ih (k + 1) (by omega) z hz
        rw [F.2.1, F.2.2] at A
        refine ar_fg ?_ A
        exact ⟨rfl, rfl, rfl, rfl, rfl, trivial⟩
      · have C : (wl_L 1 v n k).2 < vH v b := Int32.not_le.mp c52
        have F := wl_yy K.2.1.1 K.2.1.2.2.2.1 hk hbn hbe C
        refine ar_iconst (pc := 55) dL_goes_55 q_iconst_1 ?_
        refine ar_goto (tgt := 60) (pc := 56) dL_goes_56 (by decide) ?_
        refine ar_istore (pc := 60) dL_goes_60 (Nat.le_of_ble_eq_true rfl) rfl ?_
        refine ar_iload (pc := 62) dL_goes_62 rfl ?_
        refine ar_if_eq (pc := 64) (tgt := 80) dL_goes_64 (by decide) (fun c64 => absurd c64 (by decide)) (fun c64 => ?_)
        refine ar_iload_n (i := 2) (pc := 67) dL_goes_67 rfl rfl ?_
        refine ar_aload_n (i := 0) (pc := 68) dL_goes_68 rfl rfl ?_
        refine ar_iconst (pc := 69) dL_goes_69 q_iconst_2 ?_
        refine ar_cl (pc := 70) dL_goes_70 cal_X6_count kL_14 rfl rfl (an_count2) hz hR rfl rfl rfl rfl rfl rfl (Nat.le_of_ble_eq_true rfl) (Nat.le_of_ble_eq_true rfl) (fun z hz => ?_)
        refine ar_imul (pc := 73) dL_goes_73 ?_
        refine ar_bipush (pc := 74) dL_goes_74 q_bipush_100 ?_
        refine ar_idiv (pc := 76) dL_goes_76 (by decide) ?_
        refine ar_goto (tgt := 81) (pc := 77) dL_goes_77 (by decide) ?_
        refine ar_istore (pc := 81) dL_goes_81 (Nat.le_of_ble_eq_true rfl) rfl ?_
        refine ar_iload (pc := 83) dL_goes_83 rfl ?_
        refine ar_if_eq (pc := 85) (tgt := 98) dL_goes_85 (by decide) (fun c85 => absurd c85 (by decide)) (fun c85 => ?_)
        refine ar_aload_n (i := 0) (pc := 88) dL_goes_88 rfl rfl ?_
        refine ar_iload (pc := 89) dL_goes_89 rfl ?_
        refine ar_iconst (pc := 91) dL_goes_91 q_iconst_0 ?_
        refine ar_cl (pc := 92) dL_goes_92 cal_X6_booth kL_18 rfl rfl (an_booth0 K hbn) hz hR rfl rfl rfl rfl rfl rfl (Nat.le_of_ble_eq_true rfl) (Nat.le_of_ble_eq_true rfl) (fun z hz => ?_)
        refine ar_goto (tgt := 99) (pc := 95) dL_goes_95 (by decide) ?_
        refine ar_istore_n (i := 3) (pc := 99) dL_goes_99 rfl (Nat.le_of_ble_eq_true rfl) rfl ?_
        refine ar_iload_n (i := 2) (pc := 100) dL_goes_100 rfl rfl ?_
        refine ar_iload (pc := 101) dL_goes_101 rfl ?_
        refine ar_isub (pc := 103) dL_goes_103 ?_
        refine ar_istore_n (i := 2) (pc := 104) dL_goes_104 rfl (Nat.le_of_ble_eq_true rfl) rfl ?_
        refine ar_aload_n (i := 0) (pc := 105) dL_goes_105 rfl rfl ?_
        refine ar_iload (pc := 106) dL_goes_106 rfl ?_
        refine ar_iconst (pc := 108) dL_goes_108 q_iconst_3 ?_
        refine ar_iload_n (i := 1) (pc := 109) dL_goes_109 rfl rfl ?_
        refine ar_iadd (pc := 110) dL_goes_110 ?_
        refine ar_hs (show (3 : Int32) + 0 = 3 by decide) ?_
        refine ar_cl (pc := 111) dL_goes_111 cal_X6_booth kL_18 rfl rfl (an_booth3 K hbn) hz hR rfl rfl rfl rfl rfl rfl (Nat.le_of_ble_eq_true rfl) (Nat.le_of_ble_eq_true rfl) (fun z hz => ?_)
        refine ar_iload (pc := 114) dL_goes_114 rfl ?_
        refine ar_icmp_ne (pc := 116) (tgt := 161) dL_goes_116 (by decide) (fun c116 => absurd F.1 c116) (fun c116 => ?_)
        refine ar_aload_n (i := 0) (pc := 119) dL_goes_119 rfl rfl ?_
        refine ar_iload (pc := 120) dL_goes_120 rfl ?_
        refine ar_iload_n (i := 1) (pc := 122) dL_goes_122 rfl rfl ?_
        refine ar_iconst (pc := 123) dL_goes_123 q_iconst_0 ?_
        refine ar_cl (pc := 124) dL_goes_124 cal_X6_seen kL_21 rfl rfl (an_seen00y K hbn hk hbe C) hz hR rfl rfl rfl rfl rfl rfl (Nat.le_of_ble_eq_true rfl) (Nat.le_of_ble_eq_true rfl) (fun z hz => ?_)
        refine ar_iload (pc := 127) dL_goes_127 rfl ?_
        refine ar_if_eq (pc := 129) (tgt := 136) dL_goes_129 (by decide) (fun c129 => absurd c129 (by decide)) (fun c129 => ?_)
        refine ar_iconst (pc := 132) dL_goes_132 q_iconst_1 ?_
        refine ar_goto (tgt := 137) (pc := 133) dL_goes_133 (by decide) ?_
        refine ar_icmp_ne (pc := 137) (tgt := 161) dL_goes_137 (by decide) (fun c137 => absurd rfl c137) (fun c137 => ?_)
        refine ar_aload_n (i := 0) (pc := 140) dL_goes_140 rfl rfl ?_
        refine ar_iload (pc := 141) dL_goes_141 rfl ?_
        refine ar_iload_n (i := 1) (pc := 143) dL_goes_143 rfl rfl ?_
        refine ar_iconst (pc := 144) dL_goes_144 q_iconst_1 ?_
        refine ar_cl (pc := 145) dL_goes_145 cal_X6_seen kL_21 rfl rfl (an_seen01y K hbn hk hbe C) hz hR rfl rfl rfl rfl rfl rfl (Nat.le_of_ble_eq_true rfl) (Nat.le_of_ble_eq_true rfl) (fun z hz => ?_)
        refine ar_iload (pc := 148) dL_goes_148 rfl ?_
        refine ar_if_eq (pc := 150) (tgt := 157) dL_goes_150 (by decide) (fun c150 => absurd c150 (by decide)) (fun c150 => ?_)
        refine ar_iconst (pc := 153) dL_goes_153 q_iconst_1 ?_
        refine ar_goto (tgt := 158) (pc := 154) dL_goes_154 (by decide) ?_
        refine ar_icmp_eq (pc := 158) (tgt := 163) dL_goes_158 (by decide) (fun c158 => ?_) (fun c158 => absurd rfl c158)
        refine ar_iinc (pc := 163) dL_goes_163 rfl (nI_1 k) (Nat.le_of_ble_eq_true rfl) rfl ?_
        refine ar_goto (tgt := 11) (pc := 166) dL_goes_166 (by decide) ?_
        have A := ih (k + 1) (by omega) z hz
        rw [F.2.1, F.2.2] at A
        refine ar_fg ?_ A
        exact ⟨rfl, rfl, rfl, rfl, rfl, trivial⟩
set_option maxHeartbeats 4000000 in
set_option maxRecDepth 100000 in
theorem sL_goes0 {gg : Nat → Int32} {κ n : Nat} {v : SV} (K : ok_D v n) : ln_S gg mL_goes [.ref 2, .int 0] (wl_L 1 v n 12).1 κ v κ v := by
  intro ff z R hz0 hR
  refine am_intro (by decide) (Nat.le_of_ble_eq_true rfl) ?_
  have hz := lz_0 hz0
  refine ar_aload_n (i := 0) (pc := 0) dL_goes_0 rfl rfl ?_
  refine ar_iload_n (i := 1) (pc := 1) dL_goes_1 rfl rfl ?_
  refine ar_cl (pc := 2) dL_goes_2 cal_X6_count kL_14 rfl rfl (an_count0) hz hR rfl rfl rfl rfl rfl rfl (Nat.le_of_ble_eq_true rfl) (Nat.le_of_ble_eq_true rfl) (fun z hz => ?_)
  refine ar_istore_n (i := 2) (pc := 5) dL_goes_5 rfl (Nat.le_of_ble_eq_true rfl) rfl ?_
  refine ar_iconst (pc := 6) dL_goes_6 q_iconst_0 ?_
  refine ar_istore_n (i := 3) (pc := 7) dL_goes_7 rfl (Nat.le_of_ble_eq_true rfl) rfl ?_
  refine ar_iconst (pc := 8) dL_goes_8 q_iconst_0 ?_
  refine ar_istore (pc := 9) dL_goes_9 (Nat.le_of_ble_eq_true rfl) rfl ?_
  exact lL_goes0_11 K hR 12 0 (by omega) z hz
set_option maxHeartbeats 4000000 in
set_option maxRecDepth 100000 in
theorem lL_goes1_11 {gg ff : Nat → Int32} {κ n : Nat} {v : SV} (K : ok_D v n) {h0 : am_H} {z0 : PV} {R : am_H} (hR : lr_H R) : ∀ (d k : Nat), k + d = 12 → ∀ z : PV, lz_D κ v z0 z → am_RW mL_goes h0 (ln_P (wl_L 0 v n 12).1 ff gg κ v z0 R) 0 0 11 [some (.ref 2), some (.int 1), some (.int (wl_L 0 v n k).1), some (.int (wl_L 0 v n k).2), some (.int (nI k)), none, none, none] [] (ppH false ff false gg z ++ R) := by
  intro d
  induction d with
  | zero =>
    intro k hk z hz
    have e : k = 12 := by omega
    subst e
    refine ar_iload (pc := 11) dL_goes_11 rfl ?_
    refine ar_bipush (pc := 13) dL_goes_13 q_bipush_12 ?_
    refine ar_icmp_ge (pc := 15) (tgt := 169) dL_goes_15 (by decide) (fun _ => ?_) (fun c => absurd (Int32.le_refl _) c)
    refine ar_iload_n (i := 2) (pc := 169) dL_goes_169 rfl rfl ?_
    exact ar_iret (pc := 170) dL_goes_170 rfl rfl rfl ⟨rfl, z, hz, rfl⟩
  | succ d ih =>
    intro k hkd z hz
    have hk : k < 12 := by omega
    refine ar_iload (pc := 11) dL_goes_11 rfl ?_
    refine ar_bipush (pc := 13) dL_goes_13 q_bipush_12 ?_
    refine ar_icmp_ge (pc := 15) (tgt := 169) dL_goes_15 (by decide) (fun c15 => absurd c15 (nI_ge (show k < 12 by omega) (by decide))) (fun c15 => ?_)
    refine ar_aload_n (i := 0) (pc := 18) dL_goes_18 rfl rfl ?_
    refine ar_iload_n (i := 1) (pc := 19) dL_goes_19 rfl rfl ?_
    refine ar_if_ne (pc := 20) (tgt := 28) dL_goes_20 (by decide) (fun c20 => ?_) (fun c20 => absurd c20 (by decide))
    refine ar_bipush (pc := 28) dL_goes_28 q_bipush_11 ?_
    refine ar_iload (pc := 30) dL_goes_30 rfl ?_
    refine ar_isub (pc := 32) dL_goes_32 ?_
    refine ar_hs (pi_e0 hk) ?_
    refine ar_iconst (pc := 33) dL_goes_33 q_iconst_1 ?_
    refine ar_cl (pc := 34) dL_goes_34 cal_X6_pitch kL_8 rfl rfl (an_pitch1 K (pi_lt (l := 0) hk)) hz hR rfl rfl rfl rfl rfl rfl (Nat.le_of_ble_eq_true rfl) (Nat.le_of_ble_eq_true rfl) (fun z hz => ?_)
    rcases bo_c (v := v) (n := n) (p := pi 0 k) with hb | ⟨b, hb⟩
    · refine ar_hs (show o2i (bo_O v n (pi 0 k)) = (-6) by rw [hb]; rfl) ?_
      have F := wl_nb K.2.1.1 K.2.1.2.2.2.1 hk hb
      refine ar_istore (pc := 37) dL_goes_37 (Nat.le_of_ble_eq_true rfl) rfl ?_
      refine ar_iload (pc := 39) dL_goes_39 rfl ?_
      refine ar_if_lt (pc := 41) (tgt := 163) dL_goes_41 (by decide) (fun c41 => ?_) (fun c41 => absurd (show (-6 : Int32) < 0 by decide) c41)
      refine ar_iinc (pc := 163) dL_goes_163 rfl (nI_1 k) (Nat.le_of_ble_eq_true rfl) rfl ?_
      refine ar_goto (tgt := 11) (pc := 166) dL_goes_166 (by decide) ?_
      have A := ih (k + 1) (by omega) z hz
      rw [F.1, F.2] at A
      refine ar_fg ?_ A
      exact ⟨rfl, rfl, rfl, rfl, rfl, trivial⟩
    · refine ar_hs (show o2i (bo_O v n (pi 0 k)) = nI b by rw [hb]; rfl) ?_
      obtain ⟨hbn, hbe⟩ := bo_s hb
      have hn8 := K.2.1.1
      refine ar_istore (pc := 37) dL_goes_37 (Nat.le_of_ble_eq_true rfl) rfl ?_
      refine ar_iload (pc := 39) dL_goes_39 rfl ?_
      refine ar_if_lt (pc := 41) (tgt := 163) dL_goes_41 (by decide) (fun c41 => absurd c41 (nI_pos (show b < 2 ^ 31 by omega))) (fun c41 => ?_)
      refine ar_aload_n (i := 0) (pc := 44) dL_goes_44 rfl rfl ?_
      refine ar_iload (pc := 45) dL_goes_45 rfl ?_
      refine ar_iconst (pc := 47) dL_goes_47 q_iconst_0 ?_
      refine ar_cl (pc := 48) dL_goes_48 cal_X6_booth kL_18 rfl rfl (an_booth0 K hbn) hz hR rfl rfl rfl rfl rfl rfl (Nat.le_of_ble_eq_true rfl) (Nat.le_of_ble_eq_true rfl) (fun z hz => ?_)
      refine ar_iload_n (i := 3) (pc := 51) dL_goes_51 rfl rfl ?_
      refine ar_icmp_le (pc := 52) (tgt := 59) dL_goes_52 (by decide) (fun c52 => ?_) (fun c52 => ?_)
      · have C : ¬ (wl_L 0 v n k).2 < vH v b := Int32.not_lt.mpr c52
        have F := wl_nn K.2.1.1 K.2.1.2.2.2.1 hk hbn hbe C
        refine ar_iconst (pc := 59) dL_goes_59 q_iconst_0 ?_
        refine ar_istore (pc := 60) dL_goes_60 (Nat.le_of_ble_eq_true rfl) rfl ?_
        refine ar_iload (pc := 62) dL_goes_62 rfl ?_
        refine ar_if_eq (pc := 64) (tgt := 80) dL_goes_64 (by decide) (fun c64 => ?_) (fun c64 => absurd rfl c64)
        refine ar_iconst (pc := 80) dL_goes_80 q_iconst_0 ?_
        refine ar_istore (pc := 81) dL_goes_81 (Nat.le_of_ble_eq_true rfl) rfl ?_
        refine ar_iload (pc := 83) dL_goes_83 rfl ?_
        refine ar_if_eq (pc := 85) (tgt := 98) dL_goes_85 (by decide) (fun c85 => ?_) (fun c85 => absurd rfl c85)
        refine ar_iload_n (i := 3) (pc := 98) dL_goes_98 rfl rfl ?_
        refine ar_istore_n (i := 3) (pc := 99) dL_goes_99 rfl (Nat.le_of_ble_eq_true rfl) rfl ?_
        refine ar_iload_n (i := 2) (pc := 100) dL_goes_100 rfl rfl ?_
        refine ar_iload (pc := 101) dL_goes_101 rfl ?_
        refine ar_isub (pc := 103) dL_goes_103 ?_
        refine ar_hs (Int32.sub_zero _) ?_
        refine ar_istore_n (i := 2) (pc := 104) dL_goes_104 rfl (Nat.le_of_ble_eq_true rfl) rfl ?_
        refine ar_aload_n (i := 0) (pc := 105) dL_goes_105 rfl rfl ?_
        refine ar_iload (pc := 106) dL_goes_106 rfl ?_
        refine ar_iconst (pc := 108) dL_goes_108 q_iconst_3 ?_
        refine ar_iload_n (i := 1) (pc := 109) dL_goes_109 rfl rfl ?_
        refine ar_iadd (pc := 110) dL_goes_110 ?_
        refine ar_hs (show (3 : Int32) + 1 = 4 by decide) ?_
        refine ar_cl (pc := 111) dL_goes_111 cal_X6_booth kL_18 rfl rfl (an_booth4 K hbn) hz hR rfl rfl rfl rfl rfl rfl (Nat.le_of_ble_eq_true rfl) (Nat.le_of_ble_eq_true rfl) (fun z hz => ?_)
        refine ar_iload (pc := 114) dL_goes_114 rfl ?_
        refine ar_icmp_ne (pc := 116) (tgt := 161) dL_goes_116 (by decide) (fun c116 => absurd F.1 c116) (fun c116 => ?_)
        refine ar_aload_n (i := 0) (pc := 119) dL_goes_119 rfl rfl ?_
        refine ar_iload (pc := 120) dL_goes_120 rfl ?_
        refine ar_iload_n (i := 1) (pc := 122) dL_goes_122 rfl rfl ?_
        refine ar_iconst (pc := 123) dL_goes_123 q_iconst_0 ?_
        refine ar_cl (pc := 124) dL_goes_124 cal_X6_seen kL_21 rfl rfl (an_seen10n K hbn hk hbe C) hz hR rfl rfl rfl rfl rfl rfl (Nat.le_of_ble_eq_true rfl) (Nat.le_of_ble_eq_true rfl) (fun z hz => ?_)
        refine ar_iload (pc := 127) dL_goes_127 rfl ?_
        refine ar_if_eq (pc := 129) (tgt := 136) dL_goes_129 (by decide) (fun c129 => ?_) (fun c129 => absurd rfl c129)
        refine ar_iconst (pc := 136) dL_goes_136 q_iconst_0 ?_
        refine ar_icmp_ne (pc := 137) (tgt := 161) dL_goes_137 (by decide) (fun c137 => absurd rfl c137) (fun c137 => ?_)
        refine ar_aload_n (i := 0) (pc := 140) dL_goes_140 rfl rfl ?_
        refine ar_iload (pc := 141) dL_goes_141 rfl ?_
        refine ar_iload_n (i := 1) (pc := 143) dL_goes_143 rfl rfl ?_
        refine ar_iconst (pc := 144) dL_goes_144 q_iconst_1 ?_
        refine ar_cl (pc := 145) dL_goes_145 cal_X6_seen kL_21 rfl rfl (an_seen11n K hbn hk hbe C) hz hR rfl rfl rfl rfl rfl rfl (Nat.le_of_ble_eq_true rfl) (Nat.le_of_ble_eq_true rfl) (fun z hz => ?_)
        refine ar_iload (pc := 148) dL_goes_148 rfl ?_
        refine ar_if_eq (pc := 150) (tgt := 157) dL_goes_150 (by decide) (fun c150 => ?_) (fun c150 => absurd rfl c150)
        refine ar_iconst (pc := 157) dL_goes_157 q_iconst_0 ?_
        refine ar_icmp_eq (pc := 158) (tgt := 163) dL_goes_158 (by decide) (fun c158 => ?_) (fun c158 => absurd rfl c158)
        refine ar_iinc (pc := 163) dL_goes_163 rfl (nI_1 k) (Nat.le_of_ble_eq_true rfl) rfl ?_
        refine ar_goto (tgt := 11) (pc := 166) dL_goes_166 (by decide) ?_
        have A := ih (k + 1) (by omega) z hz
        rw [F.2.1, F.2.2] at A
        refine ar_fg ?_ A
        exact ⟨rfl, rfl, rfl, rfl, rfl, trivial⟩
      · have C : (wl_L 0 v n k).2 < vH v b := Int32.not_le.mp c52
        have F := wl_yy K.2.1.1 K.2.1.2.2.2.1 hk hbn hbe C
        refine ar_iconst (pc := 55) dL_goes_55 q_iconst_1 ?_
        refine ar_goto (tgt := 60) (pc := 56) dL_goes_56 (by decide) ?_
        refine ar_istore (pc := 60) dL_goes_60 (Nat.le_of_ble_eq_true rfl) rfl ?_
        refine ar_iload (pc := 62) dL_goes_62 rfl ?_
        refine ar_if_eq (pc := 64) (tgt := 80) dL_goes_64 (by decide) (fun c64 => absurd c64 (by decide)) (fun c64 => ?_)
        refine ar_iload_n (i := 2) (pc := 67) dL_goes_67 rfl rfl ?_
        refine ar_aload_n (i := 0) (pc := 68) dL_goes_68 rfl rfl ?_
        refine ar_iconst (pc := 69) dL_goes_69 q_iconst_2 ?_
        refine ar_cl (pc := 70) dL_goes_70 cal_X6_count kL_14 rfl rfl (an_count2) hz hR rfl rfl rfl rfl rfl rfl (Nat.le_of_ble_eq_true rfl) (Nat.le_of_ble_eq_true rfl) (fun z hz => ?_)
        refine ar_imul (pc := 73) dL_goes_73 ?_
        refine ar_bipush (pc := 74) dL_goes_74 q_bipush_100 ?_
        refine ar_idiv (pc := 76) dL_goes_76 (by decide) ?_
        refine ar_goto (tgt := 81) (pc := 77) dL_goes_77 (by decide) ?_
        refine ar_istore (pc := 81) dL_goes_81 (Nat.le_of_ble_eq_true rfl) rfl ?_
        refine ar_iload (pc := 83) dL_goes_83 rfl ?_
        refine ar_if_eq (pc := 85) (tgt := 98) dL_goes_85 (by decide) (fun c85 => absurd c85 (by decide)) (fun c85 => ?_)
        refine ar_aload_n (i := 0) (pc := 88) dL_goes_88 rfl rfl ?_
        refine ar_iload (pc := 89) dL_goes_89 rfl ?_
        refine ar_iconst (pc := 91) dL_goes_91 q_iconst_0 ?_
        refine ar_cl (pc := 92) dL_goes_92 cal_X6_booth kL_18 rfl rfl (an_booth0 K hbn) hz hR rfl rfl rfl rfl rfl rfl (Nat.le_of_ble_eq_true rfl) (Nat.le_of_ble_eq_true rfl) (fun z hz => ?_)
        refine ar_goto (tgt := 99) (pc := 95) dL_goes_95 (by decide) ?_
        refine ar_istore_n (i := 3) (pc := 99) dL_goes_99 rfl (Nat.le_of_ble_eq_true rfl) rfl ?_
        refine ar_iload_n (i := 2) (pc := 100) dL_goes_100 rfl rfl ?_
        refine ar_iload (pc := 101) dL_goes_101 rfl ?_
        refine ar_isub (pc := 103) dL_goes_103 ?_
        refine ar_istore_n (i := 2) (pc := 104) dL_goes_104 rfl (Nat.le_of_ble_eq_true rfl) rfl ?_
        refine ar_aload_n (i := 0) (pc := 105) dL_goes_105 rfl rfl ?_
        refine ar_iload (pc := 106) dL_goes_106 rfl ?_
        refine ar_iconst (pc := 108) dL_goes_108 q_iconst_3 ?_
        refine ar_iload_n (i := 1) (pc := 109) dL_goes_109 rfl rfl ?_
        refine ar_iadd (pc := 110) dL_goes_110 ?_
        refine ar_hs (show (3 : Int32) + 1 = 4 by decide) ?_
        refine ar_cl (pc := 111) dL_goes_111 cal_X6_booth kL_18 rfl rfl (an_booth4 K hbn) hz hR rfl rfl rfl rfl rfl rfl (Nat.le_of_ble_eq_true rfl) (Nat.le_of_ble_eq_true rfl) (fun z hz => ?_)
        refine ar_iload (pc := 114) dL_goes_114 rfl ?_
        refine ar_icmp_ne (pc := 116) (tgt := 161) dL_goes_116 (by decide) (fun c116 => absurd F.1 c116) (fun c116 => ?_)
        refine ar_aload_n (i := 0) (pc := 119) dL_goes_119 rfl rfl ?_
        refine ar_iload (pc := 120) dL_goes_120 rfl ?_
        refine ar_iload_n (i := 1) (pc := 122) dL_goes_122 rfl rfl ?_
        refine ar_iconst (pc := 123) dL_goes_123 q_iconst_0 ?_
        refine ar_cl (pc := 124) dL_goes_124 cal_X6_seen kL_21 rfl rfl (an_seen10y K hbn hk hbe C) hz hR rfl rfl rfl rfl rfl rfl (Nat.le_of_ble_eq_true rfl) (Nat.le_of_ble_eq_true rfl) (fun z hz => ?_)
        refine ar_iload (pc := 127) dL_goes_127 rfl ?_
        refine ar_if_eq (pc := 129) (tgt := 136) dL_goes_129 (by decide) (fun c129 => absurd c129 (by decide)) (fun c129 => ?_)
        refine ar_iconst (pc := 132) dL_goes_132 q_iconst_1 ?_
        refine ar_goto (tgt := 137) (pc := 133) dL_goes_133 (by decide) ?_
        refine ar_icmp_ne (pc := 137) (tgt := 161) dL_goes_137 (by decide) (fun c137 => absurd rfl c137) (fun c137 => ?_)
        refine ar_aload_n (i := 0) (pc := 140) dL_goes_140 rfl rfl ?_
        refine ar_iload (pc := 141) dL_goes_141 rfl ?_
        refine ar_iload_n (i := 1) (pc := 143) dL_goes_143 rfl rfl ?_
        refine ar_iconst (pc := 144) dL_goes_144 q_iconst_1 ?_
        refine ar_cl (pc := 145) dL_goes_145 cal_X6_seen kL_21 rfl rfl (an_seen11y K hbn hk hbe C) hz hR rfl rfl rfl rfl rfl rfl (Nat.le_of_ble_eq_true rfl) (Nat.le_of_ble_eq_true rfl) (fun z hz => ?_)
        refine ar_iload (pc := 148) dL_goes_148 rfl ?_
        refine ar_if_eq (pc := 150) (tgt := 157) dL_goes_150 (by decide) (fun c150 => absurd c150 (by decide)) (fun c150 => ?_)
        refine ar_iconst (pc := 153) dL_goes_153 q_iconst_1 ?_
        refine ar_goto (tgt := 158) (pc := 154) dL_goes_154 (by decide) ?_
        refine ar_icmp_eq (pc := 158) (tgt := 163) dL_goes_158 (by decide) (fun c158 => ?_) (fun c158 => absurd rfl c158)
        refine ar_iinc (pc := 163) dL_goes_163 rfl (nI_1 k) (Nat.le_of_ble_eq_true rfl) rfl ?_
        refine ar_goto (tgt := 11) (pc := 166) dL_goes_166 (by decide) ?_
        have A := ih (k + 1) (by omega) z hz
        rw [F.2.1, F.2.2] at A
        refine ar_fg ?_ A
        exact ⟨rfl, rfl, rfl, rfl, rfl, trivial⟩
set_option maxHeartbeats 4000000 in
set_option maxRecDepth 100000 in
theorem sL_goes1 {gg : Nat → Int32} {κ n : Nat} {v : SV} (K : ok_D v n) : ln_S gg mL_goes [.ref 2, .int 1] (wl_L 0 v n 12).1 κ v κ v := by
  intro ff z R hz0 hR
  refine am_intro (by decide) (Nat.le_of_ble_eq_true rfl) ?_
  have hz := lz_0 hz0
  refine ar_aload_n (i := 0) (pc := 0) dL_goes_0 rfl rfl ?_
  refine ar_iload_n (i := 1) (pc := 1) dL_goes_1 rfl rfl ?_
  refine ar_cl (pc := 2) dL_goes_2 cal_X6_count kL_14 rfl rfl (an_count1) hz hR rfl rfl rfl rfl rfl rfl (Nat.le_of_ble_eq_true rfl) (Nat.le_of_ble_eq_true rfl) (fun z hz => ?_)
  refine ar_istore_n (i := 2) (pc := 5) dL_goes_5 rfl (Nat.le_of_ble_eq_true rfl) rfl ?_
  refine ar_iconst (pc := 6) dL_goes_6 q_iconst_0 ?_
  refine ar_istore_n (i := 3) (pc := 7) dL_goes_7 rfl (Nat.le_of_ble_eq_true rfl) rfl ?_
  refine ar_iconst (pc := 8) dL_goes_8 q_iconst_0 ?_
  refine ar_istore (pc := 9) dL_goes_9 (Nat.le_of_ble_eq_true rfl) rfl ?_
  exact lL_goes1_11 K hR 12 0 (by omega) z hz
