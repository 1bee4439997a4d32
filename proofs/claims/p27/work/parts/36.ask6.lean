/-! the whole asked: the best height, who does not stand -/
set_option maxHeartbeats 4000000 in
set_option maxRecDepth 100000 in
theorem sX6_seen_z (w0 : Bool) (ff : Nat → Int32) (w1 : Bool) (gg : Nat → Int32) (z : PV) (n : Nat) (hn : vBo (pN z) = nI n) (h8 : n ≤ 8) {j : Nat} (hj : j < n) (hs : ¬ stP (pN z) n j) (s y : Int32) (h1 : s = 0 ∨ s = 1) (h2 : y = 0 ∨ y = 1) : am_Sp mX6_seen [.ref 2, .int (nI j), .int s, .int y] (ppH w0 ff w1 gg z) (am_rp 0 (ppH w0 ff w1 gg z)) := by
  refine am_intro (by decide) (Nat.le_of_ble_eq_true rfl) ?_
  refine ar_aload_n (i := 0) (pc := 0) dX6_seen_0 rfl rfl ?_
  refine ar_getf (pc := 1) dX6_seen_1 fX6_10 rfl rfl ?_
  refine ar_iload_n (i := 1) (pc := 4) dX6_seen_4 rfl rfl ?_
  refine ar_mc (pc := 5) (l := [0, 1, 3, 4, 5, 6, 7, 8, 9, 10]) (ar_rV dX6_seen_5 cal_X3_isBooth kX6_85 rfl (sX3_isBooth (pN z) n hn h8 _) rfl rfl rfl rfl rfl okp_N rfl rfl) okp_N rfl rfl rfl rfl (fun r h1 hp => ?_)
  obtain ⟨⟨h5, rfl⟩ | ⟨h5, rfl⟩, rfl⟩ := hp
  · refine ⟨rfl, ?_⟩
    refine ar_hp (mP_Ni w0 ff w1 gg z) ?_
    refine ar_if_ne (pc := 8) (tgt := 13) dX6_seen_8 (by decide) (fun c8 => ?_) (fun c8 => absurd c8 (by decide))
    refine ar_iload_n (i := 2) (pc := 13) dX6_seen_13 rfl rfl ?_
    refine ar_if_eq (pc := 14) (tgt := 22) dX6_seen_14 (by decide) (fun c14 => ?_) (fun c14 => ?_)
    · refine ar_iload_n (i := 3) (pc := 22) dX6_seen_22 rfl rfl ?_
      refine ar_if_eq (pc := 23) (tgt := 34) dX6_seen_23 (by decide) (fun c23 => ?_) (fun c23 => ?_)
      · refine ar_aload_n (i := 0) (pc := 34) dX6_seen_34 rfl rfl ?_
        refine ar_getf (pc := 35) dX6_seen_35 fX6_10 rfl rfl ?_
        refine ar_iload_n (i := 1) (pc := 38) dX6_seen_38 rfl rfl ?_
        refine ar_mc (pc := 39) (l := [0, 1, 3, 4, 5, 6, 7, 8, 9, 10]) (ar_rV dX6_seen_39 cal_X3_isStanding kX6_161 rfl (sX3_isStanding (pN z) n hn h8 (show j < 8 by omega)) rfl rfl rfl rfl rfl okp_N rfl rfl) okp_N rfl rfl rfl rfl (fun r h1 hp => ?_)
        obtain ⟨⟨h39, rfl⟩ | ⟨h39, rfl⟩, rfl⟩ := hp
        · refine ⟨rfl, ?_⟩
          refine ar_hp (mP_Ni w0 ff w1 gg z) ?_
          refine ar_if_ne (pc := 42) (tgt := 47) dX6_seen_42 (by decide) (fun c42 => ?_) (fun c42 => absurd c42 (by decide))
          exact absurd h39 hs
        · refine ⟨rfl, ?_⟩
          refine ar_hp (mP_Ni w0 ff w1 gg z) ?_
          refine ar_if_ne (pc := 42) (tgt := 47) dX6_seen_42 (by decide) (fun c42 => absurd c42 (by decide)) (fun c42 => ?_)
          refine ar_iconst (pc := 45) dX6_seen_45 q_iconst_0 ?_
          exact ar_iret (pc := 46) dX6_seen_46 rfl rfl rfl ⟨rfl, rfl⟩
      · refine ar_iload_n (i := 3) (pc := 26) dX6_seen_26 rfl rfl ?_
        refine ar_iconst (pc := 27) dX6_seen_27 q_iconst_1 ?_
        refine ar_icmp_eq (pc := 28) (tgt := 34) dX6_seen_28 (by decide) (fun c28 => ?_) (fun c28 => ?_)
        · refine ar_aload_n (i := 0) (pc := 34) dX6_seen_34 rfl rfl ?_
          refine ar_getf (pc := 35) dX6_seen_35 fX6_10 rfl rfl ?_
          refine ar_iload_n (i := 1) (pc := 38) dX6_seen_38 rfl rfl ?_
          refine ar_mc (pc := 39) (l := [0, 1, 3, 4, 5, 6, 7, 8, 9, 10]) (ar_rV dX6_seen_39 cal_X3_isStanding kX6_161 rfl (sX3_isStanding (pN z) n hn h8 (show j < 8 by omega)) rfl rfl rfl rfl rfl okp_N rfl rfl) okp_N rfl rfl rfl rfl (fun r h1 hp => ?_)
          obtain ⟨⟨h39, rfl⟩ | ⟨h39, rfl⟩, rfl⟩ := hp
          · refine ⟨rfl, ?_⟩
            refine ar_hp (mP_Ni w0 ff w1 gg z) ?_
            refine ar_if_ne (pc := 42) (tgt := 47) dX6_seen_42 (by decide) (fun c42 => ?_) (fun c42 => absurd c42 (by decide))
            exact absurd h39 hs
          · refine ⟨rfl, ?_⟩
            refine ar_hp (mP_Ni w0 ff w1 gg z) ?_
            refine ar_if_ne (pc := 42) (tgt := 47) dX6_seen_42 (by decide) (fun c42 => absurd c42 (by decide)) (fun c42 => ?_)
            refine ar_iconst (pc := 45) dX6_seen_45 q_iconst_0 ?_
            exact ar_iret (pc := 46) dX6_seen_46 rfl rfl rfl ⟨rfl, rfl⟩
        · exfalso
          rcases h1 with h1 | h1 <;> rcases h2 with h2 | h2 <;> first | exact c14 h1 | exact c23 h2 | exact c19 h1 | exact c28 h2
    · refine ar_iload_n (i := 2) (pc := 17) dX6_seen_17 rfl rfl ?_
      refine ar_iconst (pc := 18) dX6_seen_18 q_iconst_1 ?_
      refine ar_icmp_ne (pc := 19) (tgt := 31) dX6_seen_19 (by decide) (fun c19 => ?_) (fun c19 => ?_)
      · exfalso
        rcases h1 with h1 | h1 <;> rcases h2 with h2 | h2 <;> first | exact c14 h1 | exact c23 h2 | exact c19 h1 | exact c28 h2
      · refine ar_iload_n (i := 3) (pc := 22) dX6_seen_22 rfl rfl ?_
        refine ar_if_eq (pc := 23) (tgt := 34) dX6_seen_23 (by decide) (fun c23 => ?_) (fun c23 => ?_)
        · refine ar_aload_n (i := 0) (pc := 34) dX6_seen_34 rfl rfl ?_
          refine ar_getf (pc := 35) dX6_seen_35 fX6_10 rfl rfl ?_
          refine ar_iload_n (i := 1) (pc := 38) dX6_seen_38 rfl rfl ?_
          refine ar_mc (pc := 39) (l := [0, 1, 3, 4, 5, 6, 7, 8, 9, 10]) (ar_rV dX6_seen_39 cal_X3_isStanding kX6_161 rfl (sX3_isStanding (pN z) n hn h8 (show j < 8 by omega)) rfl rfl rfl rfl rfl okp_N rfl rfl) okp_N rfl rfl rfl rfl (fun r h1 hp => ?_)
          obtain ⟨⟨h39, rfl⟩ | ⟨h39, rfl⟩, rfl⟩ := hp
          · refine ⟨rfl, ?_⟩
            refine ar_hp (mP_Ni w0 ff w1 gg z) ?_
            refine ar_if_ne (pc := 42) (tgt := 47) dX6_seen_42 (by decide) (fun c42 => ?_) (fun c42 => absurd c42 (by decide))
            exact absurd h39 hs
          · refine ⟨rfl, ?_⟩
            refine ar_hp (mP_Ni w0 ff w1 gg z) ?_
            refine ar_if_ne (pc := 42) (tgt := 47) dX6_seen_42 (by decide) (fun c42 => absurd c42 (by decide)) (fun c42 => ?_)
            refine ar_iconst (pc := 45) dX6_seen_45 q_iconst_0 ?_
            exact ar_iret (pc := 46) dX6_seen_46 rfl rfl rfl ⟨rfl, rfl⟩
        · refine ar_iload_n (i := 3) (pc := 26) dX6_seen_26 rfl rfl ?_
          refine ar_iconst (pc := 27) dX6_seen_27 q_iconst_1 ?_
          refine ar_icmp_eq (pc := 28) (tgt := 34) dX6_seen_28 (by decide) (fun c28 => ?_) (fun c28 => ?_)
          · refine ar_aload_n (i := 0) (pc := 34) dX6_seen_34 rfl rfl ?_
            refine ar_getf (pc := 35) dX6_seen_35 fX6_10 rfl rfl ?_
            refine ar_iload_n (i := 1) (pc := 38) dX6_seen_38 rfl rfl ?_
            refine ar_mc (pc := 39) (l := [0, 1, 3, 4, 5, 6, 7, 8, 9, 10]) (ar_rV dX6_seen_39 cal_X3_isStanding kX6_161 rfl (sX3_isStanding (pN z) n hn h8 (show j < 8 by omega)) rfl rfl rfl rfl rfl okp_N rfl rfl) okp_N rfl rfl rfl rfl (fun r h1 hp => ?_)
            obtain ⟨⟨h39, rfl⟩ | ⟨h39, rfl⟩, rfl⟩ := hp
            · refine ⟨rfl, ?_⟩
              refine ar_hp (mP_Ni w0 ff w1 gg z) ?_
              refine ar_if_ne (pc := 42) (tgt := 47) dX6_seen_42 (by decide) (fun c42 => ?_) (fun c42 => absurd c42 (by decide))
              exact absurd h39 hs
            · refine ⟨rfl, ?_⟩
              refine ar_hp (mP_Ni w0 ff w1 gg z) ?_
              refine ar_if_ne (pc := 42) (tgt := 47) dX6_seen_42 (by decide) (fun c42 => absurd c42 (by decide)) (fun c42 => ?_)
              refine ar_iconst (pc := 45) dX6_seen_45 q_iconst_0 ?_
              exact ar_iret (pc := 46) dX6_seen_46 rfl rfl rfl ⟨rfl, rfl⟩
          · exfalso
            rcases h1 with h1 | h1 <;> rcases h2 with h2 | h2 <;> first | exact c14 h1 | exact c23 h2 | exact c19 h1 | exact c28 h2
  · refine ⟨rfl, ?_⟩
    refine ar_hp (mP_Ni w0 ff w1 gg z) ?_
    refine ar_if_ne (pc := 8) (tgt := 13) dX6_seen_8 (by decide) (fun c8 => absurd c8 (by decide)) (fun c8 => ?_)
    refine ar_iconst (pc := 11) dX6_seen_11 q_iconst_m1 ?_
    exact absurd (bk_j h8 hj) h5

/-- the best of the heights 1 to k + 1, and its crowd -/
def bhF (cr : Nat → Int32) : Nat → Int32 × Int32
  | 0 => (1, cr 1)
  | k + 1 => if (bhF cr k).2 < cr (k + 2) then (nI (k + 2), cr (k + 2)) else bhF cr k
theorem bh_y {cr : Nat → Int32} {k : Nat} {a c y : Int32} (e : (a, c) = bhF cr k) (ey : y = cr (k + 2)) (h : c < y) : (nI (k + 2), y) = bhF cr (k + 1) := by
  subst ey
  rw [bhF, ← e, if_pos h]
theorem bh_n {cr : Nat → Int32} {k : Nat} {a c y : Int32} (e : (a, c) = bhF cr k) (ey : y = cr (k + 2)) (h : ¬ c < y) : (a, c) = bhF cr (k + 1) := by
  subst ey
  rw [bhF, ← e, if_neg h]
def crH (v : SV) (n j : Nat) : Nat → Int32 := fun h => crA v (lkT v n (nI j) 8) (vP v j) (nI h)
theorem crH_e (v : SV) (n j h : Nat) : stpV (arF 1 (lkT v n (nI j) 8) (vS v 0) (vS v 2)) (taF 1 (lkT v n (nI j) 8) (vS v 0) (vS v 2)) (vS v 2) (vP v j) (nI h) + stpV (arF 0 (lkT v n (nI j) 8) (vS v 1) (vS v 2)) (taF 0 (lkT v n (nI j) 8) (vS v 1) (vS v 2)) (vS v 2) (vP v j) (nI h) = crH v n j h := rfl
set_option maxHeartbeats 4000000 in
set_option maxRecDepth 100000 in
theorem lX6_bestHeight_62 (h0 : am_H) (w0 : Bool) (ff : Nat → Int32) (w1 : Bool) (gg : Nat → Int32) (z : PV) (n : Nat) (hn : vBo (pN z) = nI n) (h8 : n ≤ 8) {j : Nat} (hj : j < n) : ∀ (d k : Nat) (a c : Int32) (o5 : Option Value), k + d = 8 → (a, c) = bhF (crH (pN z) n j) k → am_RW mX6_bestHeight h0 (rpW (bhF (crH (pN z) n j) 8).1 w0 ff w1 gg z) 0 0 62 [some (.ref 2), some (.int (nI j)), some (.int a), some (.int c), some (.int (nI (k + 2))), o5] [] (ppH w0 ff w1 gg (sW z (vwOf (lkT (pN z) n (nI j) 8) (pN z)))) := by
  intro d
  induction d with
  | zero =>
    intro k a c o5 hk he
    have e : k = 8 := by omega
    subst e
    refine ar_iload (pc := 62) dX6_bestHeight_62 rfl ?_
    refine ar_bipush (pc := 64) dX6_bestHeight_64 q_bipush_9 ?_
    refine ar_icmp_gt (pc := 66) (tgt := 107) dX6_bestHeight_66 (by decide) (fun c66 => ?_) (fun c66 => False.elim (by (simp (disch := omega) only [Int32.lt_iff_toInt_lt, Int32.le_iff_toInt_le, ← Int32.toInt_inj, ti_m6, ti_m1, ti_0, ti_1, ti_2, ti_3, ti_4, ti_5, ti_6, ti_7, ti_8, ti_9, ti_12, ti_100, ti_9999, ti_60, nI_toInt] at c66) <;> omega))
    refine ar_iload_n (i := 2) (pc := 107) dX6_bestHeight_107 rfl rfl ?_
    exact ar_iret (pc := 108) dX6_bestHeight_108 rfl rfl rfl ⟨by rw [← he], _, rfl⟩
  | succ d ih =>
    intro k a c o5 hk he
    refine ar_iload (pc := 62) dX6_bestHeight_62 rfl ?_
    refine ar_bipush (pc := 64) dX6_bestHeight_64 q_bipush_9 ?_
    refine ar_icmp_gt (pc := 66) (tgt := 107) dX6_bestHeight_66 (by decide) (fun c66 => False.elim (by (simp (disch := omega) only [Int32.lt_iff_toInt_lt, Int32.le_iff_toInt_le, ← Int32.toInt_inj, ti_m6, ti_m1, ti_0, ti_1, ti_2, ti_3, ti_4, ti_5, ti_6, ti_7, ti_8, ti_9, ti_12, ti_100, ti_9999, ti_60, nI_toInt] at c66) <;> omega)) (fun c66 => ?_)
    refine ar_aload_n (i := 0) (pc := 69) dX6_bestHeight_69 rfl rfl ?_
    refine ar_getf (pc := 70) dX6_bestHeight_70 fX6_22 rfl rfl ?_
    refine ar_aload_n (i := 0) (pc := 73) dX6_bestHeight_73 rfl rfl ?_
    refine ar_getf (pc := 74) dX6_bestHeight_74 fX6_10 rfl rfl ?_
    refine ar_getf (pc := 77) dX6_bestHeight_77 fX6_102 rfl rfl ?_
    refine ar_iload_n (i := 1) (pc := 80) dX6_bestHeight_80 rfl rfl ?_
    refine ar_iald (pc := 81) dX6_bestHeight_81 rfl (show j < 8 by omega) rfl ?_
    refine ar_iload (pc := 82) dX6_bestHeight_82 rfl ?_
    refine ar_mc (pc := 84) (l := [0, 1, 19, 20, 21, 22, 23, 24, 25, 26]) (ar_rV dX6_bestHeight_84 cal_X5_crowdAt kX6_141 rfl (sX5_crowdAt (lkT (pN z) n (nI j) 8) (arF 1 (lkT (pN z) n (nI j) 8) (vS (pN z) 0) (vS (pN z) 2)) (taF 1 (lkT (pN z) n (nI j) 8) (vS (pN z) 0) (vS (pN z) 2)) (vS (pN z) 2) (paF 1 (lkT (pN z) n (nI j) 8) (vS (pN z) 0) (vS (pN z) 2)) (arF 0 (lkT (pN z) n (nI j) 8) (vS (pN z) 1) (vS (pN z) 2)) (taF 0 (lkT (pN z) n (nI j) 8) (vS (pN z) 1) (vS (pN z) 2)) (vS (pN z) 2) (paF 0 (lkT (pN z) n (nI j) 8) (vS (pN z) 1) (vS (pN z) 2)) (vP (pN z) j) (nI (k + 2))) rfl rfl rfl rfl rfl okp_W rfl rfl) okp_W rfl rfl rfl rfl (fun r h1 hp => ?_)
    obtain ⟨rfl, rfl⟩ := hp
    refine ⟨rfl, ?_⟩
    refine ar_hp (mP_Wi w0 ff w1 gg z (vwOf (lkT (pN z) n (nI j) 8) (pN z))) ?_
    rw [crH_e]
    refine ar_topi (fun y84 e84 => ?_)
    refine ar_istore (pc := 87) dX6_bestHeight_87 (Nat.le_of_ble_eq_true rfl) rfl ?_
    refine ar_iload (pc := 89) dX6_bestHeight_89 rfl ?_
    refine ar_iload_n (i := 3) (pc := 91) dX6_bestHeight_91 rfl rfl ?_
    refine ar_icmp_le (pc := 92) (tgt := 101) dX6_bestHeight_92 (by decide) (fun c92 => ?_) (fun c92 => ?_)
    · refine ar_iinc (pc := 101) dX6_bestHeight_101 rfl (ni_inc _) (Nat.le_of_ble_eq_true rfl) rfl ?_
      refine ar_goto (tgt := 62) (pc := 104) dX6_bestHeight_104 (by decide) ?_
      exact ih (k + 1) _ _ _ (by omega) (bh_n he e84 (Int32.not_lt.mpr c92))
    · refine ar_iload (pc := 95) dX6_bestHeight_95 rfl ?_
      refine ar_istore_n (i := 2) (pc := 97) dX6_bestHeight_97 rfl (Nat.le_of_ble_eq_true rfl) rfl ?_
      refine ar_iload (pc := 98) dX6_bestHeight_98 rfl ?_
      refine ar_istore_n (i := 3) (pc := 100) dX6_bestHeight_100 rfl (Nat.le_of_ble_eq_true rfl) rfl ?_
      refine ar_iinc (pc := 101) dX6_bestHeight_101 rfl (ni_inc _) (Nat.le_of_ble_eq_true rfl) rfl ?_
      refine ar_goto (tgt := 62) (pc := 104) dX6_bestHeight_104 (by decide) ?_
      exact ih (k + 1) _ _ _ (by omega) (bh_y he e84 (Int32.not_le.mp c92))
set_option maxHeartbeats 4000000 in
set_option maxRecDepth 100000 in
theorem sX6_bestHeight_s (w0 : Bool) (ff : Nat → Int32) (w1 : Bool) (gg : Nat → Int32) (z : PV) (n : Nat) (hn : vBo (pN z) = nI n) (h8 : n ≤ 8) {j : Nat} (hj : j < n) (hs : stP (pN z) n j) : am_Sp mX6_bestHeight [.ref 2, .int (nI j)] (ppH w0 ff w1 gg z) (rpW (bhF (crH (pN z) n j) 8).1 w0 ff w1 gg z) := by
  refine am_intro (by decide) (Nat.le_of_ble_eq_true rfl) ?_
  refine ar_aload_n (i := 0) (pc := 0) dX6_bestHeight_0 rfl rfl ?_
  refine ar_getf (pc := 1) dX6_bestHeight_1 fX6_10 rfl rfl ?_
  refine ar_iload_n (i := 1) (pc := 4) dX6_bestHeight_4 rfl rfl ?_
  refine ar_mc (pc := 5) (l := [0, 1, 3, 4, 5, 6, 7, 8, 9, 10]) (ar_rV dX6_bestHeight_5 cal_X3_isBooth kX6_85 rfl (sX3_isBooth (pN z) n hn h8 _) rfl rfl rfl rfl rfl okp_N rfl rfl) okp_N rfl rfl rfl rfl (fun r h1 hp => ?_)
  obtain ⟨⟨h5, rfl⟩ | ⟨h5, rfl⟩, rfl⟩ := hp
  · refine ⟨rfl, ?_⟩
    refine ar_hp (mP_Ni w0 ff w1 gg z) ?_
    refine ar_if_ne (pc := 8) (tgt := 13) dX6_bestHeight_8 (by decide) (fun c8 => ?_) (fun c8 => absurd c8 (by decide))
    refine ar_aload_n (i := 0) (pc := 13) dX6_bestHeight_13 rfl rfl ?_
    refine ar_getf (pc := 14) dX6_bestHeight_14 fX6_10 rfl rfl ?_
    refine ar_iload_n (i := 1) (pc := 17) dX6_bestHeight_17 rfl rfl ?_
    refine ar_mc (pc := 18) (l := [0, 1, 3, 4, 5, 6, 7, 8, 9, 10]) (ar_rV dX6_bestHeight_18 cal_X3_isStanding kX6_161 rfl (sX3_isStanding (pN z) n hn h8 (show j < 8 by omega)) rfl rfl rfl rfl rfl okp_N rfl rfl) okp_N rfl rfl rfl rfl (fun r h1 hp => ?_)
    obtain ⟨⟨h18, rfl⟩ | ⟨h18, rfl⟩, rfl⟩ := hp
    · refine ⟨rfl, ?_⟩
      refine ar_hp (mP_Ni w0 ff w1 gg z) ?_
      refine ar_if_ne (pc := 21) (tgt := 27) dX6_bestHeight_21 (by decide) (fun c21 => ?_) (fun c21 => absurd c21 (by decide))
      refine ar_aload_n (i := 0) (pc := 27) dX6_bestHeight_27 rfl rfl ?_
      refine ar_getf (pc := 28) dX6_bestHeight_28 fX6_22 rfl rfl ?_
      refine ar_aload_n (i := 0) (pc := 31) dX6_bestHeight_31 rfl rfl ?_
      refine ar_getf (pc := 32) dX6_bestHeight_32 fX6_10 rfl rfl ?_
      refine ar_iload_n (i := 1) (pc := 35) dX6_bestHeight_35 rfl rfl ?_
      refine ar_mc (pc := 36) (l := [0, 1, 19, 20, 21, 22, 23, 24, 25, 26, 3, 4, 5, 6, 7, 8, 9, 10]) (ar_rV dX6_bestHeight_36 cal_X5_look kX6_137 rfl (sX5_look (pW z).1 (pW z).2.1 (pW z).2.2.1 (pW z).2.2.2.1 (pW z).2.2.2.2.1 (pW z).2.2.2.2.2.1 (pW z).2.2.2.2.2.2.1 (pW z).2.2.2.2.2.2.2.1 (pW z).2.2.2.2.2.2.2.2 (pN z) n hn h8 (nI j)) rfl rfl rfl rfl rfl okp_WN rfl rfl) okp_WN rfl rfl rfl rfl (fun r h1 hp => ?_)
      obtain ⟨rfl, rfl⟩ := hp
      refine ⟨rfl, ?_⟩
      refine ar_hp (mP_L w0 ff w1 gg z (lkT (pN z) n ((nI j)) 8)) ?_
      refine ar_iconst (pc := 39) dX6_bestHeight_39 q_iconst_1 ?_
      refine ar_istore_n (i := 2) (pc := 40) dX6_bestHeight_40 rfl (Nat.le_of_ble_eq_true rfl) rfl ?_
      refine ar_aload_n (i := 0) (pc := 41) dX6_bestHeight_41 rfl rfl ?_
      refine ar_getf (pc := 42) dX6_bestHeight_42 fX6_22 rfl rfl ?_
      refine ar_aload_n (i := 0) (pc := 45) dX6_bestHeight_45 rfl rfl ?_
      refine ar_getf (pc := 46) dX6_bestHeight_46 fX6_10 rfl rfl ?_
      refine ar_getf (pc := 49) dX6_bestHeight_49 fX6_102 rfl rfl ?_
      refine ar_iload_n (i := 1) (pc := 52) dX6_bestHeight_52 rfl rfl ?_
      refine ar_iald (pc := 53) dX6_bestHeight_53 rfl (show j < 8 by omega) rfl ?_
      refine ar_iload_n (i := 2) (pc := 54) dX6_bestHeight_54 rfl rfl ?_
      rw [show (1 : Int32) = nI 1 by decide +kernel]
      refine ar_mc (pc := 55) (l := [0, 1, 19, 20, 21, 22, 23, 24, 25, 26]) (ar_rV dX6_bestHeight_55 cal_X5_crowdAt kX6_141 rfl (sX5_crowdAt (lkT (pN z) n (nI j) 8) (arF 1 (lkT (pN z) n (nI j) 8) (vS (pN z) 0) (vS (pN z) 2)) (taF 1 (lkT (pN z) n (nI j) 8) (vS (pN z) 0) (vS (pN z) 2)) (vS (pN z) 2) (paF 1 (lkT (pN z) n (nI j) 8) (vS (pN z) 0) (vS (pN z) 2)) (arF 0 (lkT (pN z) n (nI j) 8) (vS (pN z) 1) (vS (pN z) 2)) (taF 0 (lkT (pN z) n (nI j) 8) (vS (pN z) 1) (vS (pN z) 2)) (vS (pN z) 2) (paF 0 (lkT (pN z) n (nI j) 8) (vS (pN z) 1) (vS (pN z) 2)) (vP (pN z) j) (nI 1)) rfl rfl rfl rfl rfl okp_W rfl rfl) okp_W rfl rfl rfl rfl (fun r h1 hp => ?_)
      obtain ⟨rfl, rfl⟩ := hp
      refine ⟨rfl, ?_⟩
      refine ar_hp (mP_Wi w0 ff w1 gg z (vwOf (lkT (pN z) n (nI j) 8) (pN z))) ?_
      rw [crH_e]
      refine ar_topi (fun y55 e55 => ?_)
      refine ar_istore_n (i := 3) (pc := 58) dX6_bestHeight_58 rfl (Nat.le_of_ble_eq_true rfl) rfl ?_
      refine ar_iconst (pc := 59) dX6_bestHeight_59 q_iconst_2 ?_
      refine ar_istore (pc := 60) dX6_bestHeight_60 (Nat.le_of_ble_eq_true rfl) rfl ?_
      rw [show (2 : Int32) = nI (0 + 2) by decide +kernel]
      exact lX6_bestHeight_62 _ w0 ff w1 gg z n hn h8 hj 8 0 (nI 1) y55 _ (by omega) (by rw [e55]; rfl)
    · refine ⟨rfl, ?_⟩
      refine ar_hp (mP_Ni w0 ff w1 gg z) ?_
      refine ar_if_ne (pc := 21) (tgt := 27) dX6_bestHeight_21 (by decide) (fun c21 => absurd c21 (by decide)) (fun c21 => ?_)
      refine ar_bipush (pc := 24) dX6_bestHeight_24 q_bipush_m5 ?_
      exact absurd hs h18
  · refine ⟨rfl, ?_⟩
    refine ar_hp (mP_Ni w0 ff w1 gg z) ?_
    refine ar_if_ne (pc := 8) (tgt := 13) dX6_bestHeight_8 (by decide) (fun c8 => absurd c8 (by decide)) (fun c8 => ?_)
    refine ar_iconst (pc := 11) dX6_bestHeight_11 q_iconst_m1 ?_
    exact absurd (bk_j h8 hj) h5

set_option maxHeartbeats 4000000 in
set_option maxRecDepth 100000 in
theorem sX6_bestHeight_z (w0 : Bool) (ff : Nat → Int32) (w1 : Bool) (gg : Nat → Int32) (z : PV) (n : Nat) (hn : vBo (pN z) = nI n) (h8 : n ≤ 8) {j : Nat} (hj : j < n) (hs : ¬ stP (pN z) n j) : am_Sp mX6_bestHeight [.ref 2, .int (nI j)] (ppH w0 ff w1 gg z) (am_rp (-5) (ppH w0 ff w1 gg z)) := by
  refine am_intro (by decide) (Nat.le_of_ble_eq_true rfl) ?_
  refine ar_aload_n (i := 0) (pc := 0) dX6_bestHeight_0 rfl rfl ?_
  refine ar_getf (pc := 1) dX6_bestHeight_1 fX6_10 rfl rfl ?_
  refine ar_iload_n (i := 1) (pc := 4) dX6_bestHeight_4 rfl rfl ?_
  refine ar_mc (pc := 5) (l := [0, 1, 3, 4, 5, 6, 7, 8, 9, 10]) (ar_rV dX6_bestHeight_5 cal_X3_isBooth kX6_85 rfl (sX3_isBooth (pN z) n hn h8 _) rfl rfl rfl rfl rfl okp_N rfl rfl) okp_N rfl rfl rfl rfl (fun r h1 hp => ?_)
  obtain ⟨⟨h5, rfl⟩ | ⟨h5, rfl⟩, rfl⟩ := hp
  · refine ⟨rfl, ?_⟩
    refine ar_hp (mP_Ni w0 ff w1 gg z) ?_
    refine ar_if_ne (pc := 8) (tgt := 13) dX6_bestHeight_8 (by decide) (fun c8 => ?_) (fun c8 => absurd c8 (by decide))
    refine ar_aload_n (i := 0) (pc := 13) dX6_bestHeight_13 rfl rfl ?_
    refine ar_getf (pc := 14) dX6_bestHeight_14 fX6_10 rfl rfl ?_
    refine ar_iload_n (i := 1) (pc := 17) dX6_bestHeight_17 rfl rfl ?_
    refine ar_mc (pc := 18) (l := [0, 1, 3, 4, 5, 6, 7, 8, 9, 10]) (ar_rV dX6_bestHeight_18 cal_X3_isStanding kX6_161 rfl (sX3_isStanding (pN z) n hn h8 (show j < 8 by omega)) rfl rfl rfl rfl rfl okp_N rfl rfl) okp_N rfl rfl rfl rfl (fun r h1 hp => ?_)
    obtain ⟨⟨h18, rfl⟩ | ⟨h18, rfl⟩, rfl⟩ := hp
    · refine ⟨rfl, ?_⟩
      refine ar_hp (mP_Ni w0 ff w1 gg z) ?_
      refine ar_if_ne (pc := 21) (tgt := 27) dX6_bestHeight_21 (by decide) (fun c21 => ?_) (fun c21 => absurd c21 (by decide))
      exact absurd h18 hs
    · refine ⟨rfl, ?_⟩
      refine ar_hp (mP_Ni w0 ff w1 gg z) ?_
      refine ar_if_ne (pc := 21) (tgt := 27) dX6_bestHeight_21 (by decide) (fun c21 => absurd c21 (by decide)) (fun c21 => ?_)
      refine ar_bipush (pc := 24) dX6_bestHeight_24 q_bipush_m5 ?_
      exact ar_iret (pc := 26) dX6_bestHeight_26 rfl rfl rfl ⟨rfl, rfl⟩
  · refine ⟨rfl, ?_⟩
    refine ar_hp (mP_Ni w0 ff w1 gg z) ?_
    refine ar_if_ne (pc := 8) (tgt := 13) dX6_bestHeight_8 (by decide) (fun c8 => absurd c8 (by decide)) (fun c8 => ?_)
    refine ar_iconst (pc := 11) dX6_bestHeight_11 q_iconst_m1 ?_
    exact absurd (bk_j h8 hj) h5

set_option maxHeartbeats 4000000 in
set_option maxRecDepth 100000 in
theorem sX6_bestHeight_n (w0 : Bool) (ff : Nat → Int32) (w1 : Bool) (gg : Nat → Int32) (z : PV) (n : Nat) (hn : vBo (pN z) = nI n) (h8 : n ≤ 8) (b : Int32) (hb : ¬ bkP n b) : am_Sp mX6_bestHeight [.ref 2, .int b] (ppH w0 ff w1 gg z) (am_rp (-1) (ppH w0 ff w1 gg z)) := by
  refine am_intro (by decide) (Nat.le_of_ble_eq_true rfl) ?_
  refine ar_aload_n (i := 0) (pc := 0) dX6_bestHeight_0 rfl rfl ?_
  refine ar_getf (pc := 1) dX6_bestHeight_1 fX6_10 rfl rfl ?_
  refine ar_iload_n (i := 1) (pc := 4) dX6_bestHeight_4 rfl rfl ?_
  refine ar_mc (pc := 5) (l := [0, 1, 3, 4, 5, 6, 7, 8, 9, 10]) (ar_rV dX6_bestHeight_5 cal_X3_isBooth kX6_85 rfl (sX3_isBooth (pN z) n hn h8 _) rfl rfl rfl rfl rfl okp_N rfl rfl) okp_N rfl rfl rfl rfl (fun r h1 hp => ?_)
  obtain ⟨⟨h5, rfl⟩ | ⟨h5, rfl⟩, rfl⟩ := hp
  · refine ⟨rfl, ?_⟩
    refine ar_hp (mP_Ni w0 ff w1 gg z) ?_
    refine ar_if_ne (pc := 8) (tgt := 13) dX6_bestHeight_8 (by decide) (fun c8 => ?_) (fun c8 => absurd c8 (by decide))
    exact absurd h5 hb
  · refine ⟨rfl, ?_⟩
    refine ar_hp (mP_Ni w0 ff w1 gg z) ?_
    refine ar_if_ne (pc := 8) (tgt := 13) dX6_bestHeight_8 (by decide) (fun c8 => absurd c8 (by decide)) (fun c8 => ?_)
    refine ar_iconst (pc := 11) dX6_bestHeight_11 q_iconst_m1 ?_
    exact ar_iret (pc := 12) dX6_bestHeight_12 rfl rfl rfl ⟨rfl, rfl⟩
