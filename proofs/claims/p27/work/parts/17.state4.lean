/-! the class State: removeBooth, copyFrom, its constructor -/
theorem mixF_at (f g : Nat → Int32) (k : Nat) : mixF f g k k = g k := by simp [mixF]
theorem mixF_v {f g : Nat → Int32} {k : Nat} {c : Int32} (h : f k = c) : upd (mixF f g k) k c = mixF f g (k + 1) := h ▸ mixF_s f g k
theorem mixF_n {f g : Nat → Int32} {k : Nat} (h : f k = g k) : mixF f g k = mixF f g (k + 1) := by
  rw [← mixF_v h]
  funext j
  unfold upd
  by_cases e : j = k
  · rw [if_pos e, e, mixF_at]
  · rw [if_neg e]
theorem mixF_all {f g : Nat → Int32} {N j : Nat} (h : j < N) : mixF f g N j = f j := by simp [mixF, h]
theorem mrg1 (p : Nat) (f : Nat → Int32) (h : am_H) : am_mrg (am_mu [0, 1, p]) 0 (ar1 f) h = h.set p (some (am_ia 8 f)) := rfl
theorem okm1_4 : am_okmu [0, 1, 4] [none, none, some true] = true := by decide +kernel
theorem okm1_5 : am_okmu [0, 1, 5] [none, none, some true] = true := by decide +kernel
theorem okm1_6 : am_okmu [0, 1, 6] [none, none, some true] = true := by decide +kernel
theorem okm1_7 : am_okmu [0, 1, 7] [none, none, some true] = true := by decide +kernel
theorem okm1_8 : am_okmu [0, 1, 8] [none, none, some true] = true := by decide +kernel
def rmL (f : Nat → Int32) (j : Nat) : Nat → Int32 := fun k => if f k = nI j then -6 else if nI j < f k then f k - 1 else f k
def rmA (v : SV) (n j : Nat) : SV := uBo (uI (uF (uT (uP (uH v (clU (vH v) j)) (clU (vP v) j)) (clU (vT v) j)) (clU (vF v) j)) (clU (vI v) j)) (nI (n - 1))
def rmB (v : SV) (n j : Nat) : SV := uL (rmA v n j) (rmL (vL v) j)
set_option maxHeartbeats 4000000 in
set_option maxRecDepth 100000 in
theorem lX3_removeBooth (h0 : am_H) (w : SV) (j : Nat) : ∀ (d k : Nat), k + d = 8 → am_RW mX3_removeBooth h0 (am_vp (stH (uL w (rmL (vL w) j)))) 0 0 61 [some (.ref 2), some (.int (nI j)), some (.int (nI k))] [] (stH (uL w (mixF (rmL (vL w) j) (vL w) k))) := by
  intro d
  induction d with
  | zero =>
    intro k hk
    have e : k = 8 := by omega
    subst e
    refine ar_iload_n (i := 2) (pc := 61) dX3_removeBooth_61 rfl rfl ?_
    refine ar_aload_n (i := 0) (pc := 62) dX3_removeBooth_62 rfl rfl ?_
    refine ar_getf (pc := 63) dX3_removeBooth_63 fX3_41 rfl rfl ?_
    refine ar_alen (pc := 66) dX3_removeBooth_66 rfl ?_
    refine ar_icmp_ge (pc := 67) (tgt := 117) dX3_removeBooth_67 (by decide) (fun c67 => ?_) (fun c67 => False.elim (by (simp (disch := omega) only [Int32.lt_iff_toInt_lt, Int32.le_iff_toInt_le, ← Int32.toInt_inj, ti_m6, ti_m1, ti_0, ti_1, ti_2, ti_3, ti_4, ti_5, ti_6, ti_7, ti_8, ti_9, ti_12, ti_100, ti_9999, ti_60, nI_toInt] at c67) <;> omega))
    refine ar_cong (a := 9) (rmL (vL w) j) rfl (fun j hj => by rw [vu_L, mixF_all hj]) ?_
    exact ar_vret (pc := 117) dX3_removeBooth_117 rfl rfl rfl ⟨rfl, by rw [st_L, uu_L]⟩
  | succ d ih =>
    intro k hk
    refine ar_iload_n (i := 2) (pc := 61) dX3_removeBooth_61 rfl rfl ?_
    refine ar_aload_n (i := 0) (pc := 62) dX3_removeBooth_62 rfl rfl ?_
    refine ar_getf (pc := 63) dX3_removeBooth_63 fX3_41 rfl rfl ?_
    refine ar_alen (pc := 66) dX3_removeBooth_66 rfl ?_
    refine ar_icmp_ge (pc := 67) (tgt := 117) dX3_removeBooth_67 (by decide) (fun c67 => False.elim (by (simp (disch := omega) only [Int32.lt_iff_toInt_lt, Int32.le_iff_toInt_le, ← Int32.toInt_inj, ti_m6, ti_m1, ti_0, ti_1, ti_2, ti_3, ti_4, ti_5, ti_6, ti_7, ti_8, ti_9, ti_12, ti_100, ti_9999, ti_60, nI_toInt] at c67) <;> omega)) (fun c67 => ?_)
    refine ar_aload_n (i := 0) (pc := 70) dX3_removeBooth_70 rfl rfl ?_
    refine ar_getf (pc := 71) dX3_removeBooth_71 fX3_41 rfl rfl ?_
    refine ar_iload_n (i := 2) (pc := 74) dX3_removeBooth_74 rfl rfl ?_
    refine ar_iald (pc := 75) dX3_removeBooth_75 rfl (show k < 8 by omega) rfl ?_
    rw [vu_L, mixF_at]
    refine ar_iload_n (i := 1) (pc := 76) dX3_removeBooth_76 rfl rfl ?_
    refine ar_icmp_ne (pc := 77) (tgt := 91) dX3_removeBooth_77 (by decide) (fun c77 => ?_) (fun c77 => ?_)
    · refine ar_aload_n (i := 0) (pc := 91) dX3_removeBooth_91 rfl rfl ?_
      refine ar_getf (pc := 92) dX3_removeBooth_92 fX3_41 rfl rfl ?_
      refine ar_iload_n (i := 2) (pc := 95) dX3_removeBooth_95 rfl rfl ?_
      refine ar_iald (pc := 96) dX3_removeBooth_96 rfl (show k < 8 by omega) rfl ?_
      rw [vu_L, mixF_at]
      refine ar_iload_n (i := 1) (pc := 97) dX3_removeBooth_97 rfl rfl ?_
      refine ar_icmp_le (pc := 98) (tgt := 111) dX3_removeBooth_98 (by decide) (fun c98 => ?_) (fun c98 => ?_)
      · refine ar_iinc (pc := 111) dX3_removeBooth_111 rfl (ni_inc _) (Nat.le_of_ble_eq_true rfl) rfl ?_
        refine ar_goto (tgt := 61) (pc := 114) dX3_removeBooth_114 (by decide) ?_
        refine Eq.mp (congrArg _ ?_) (ih (k + 1) (by omega))
        first
          | (rw [st_L, uu_L, vu_L, mixF_v (by rw [rmL, if_pos c77])]; done)
          | (rw [st_L, uu_L, vu_L, mixF_v (by rw [rmL, if_neg c77, if_pos (Int32.not_le.mp c98), e109])]; done)
          | (rw [← mixF_n (f := rmL (vL w) j) (g := vL w) (k := k) (by rw [rmL, if_neg c77, if_neg (Int32.not_lt.mpr c98)])]; done)
      · refine ar_aload_n (i := 0) (pc := 101) dX3_removeBooth_101 rfl rfl ?_
        refine ar_getf (pc := 102) dX3_removeBooth_102 fX3_41 rfl rfl ?_
        refine ar_iload_n (i := 2) (pc := 105) dX3_removeBooth_105 rfl rfl ?_
        refine ar_dup2 (pc := 106) dX3_removeBooth_106 rfl rfl ?_
        refine ar_iald (pc := 107) dX3_removeBooth_107 rfl (show k < 8 by omega) rfl ?_
        rw [vu_L, mixF_at]
        refine ar_iconst (pc := 108) dX3_removeBooth_108 q_iconst_1 ?_
        refine ar_isub (pc := 109) dX3_removeBooth_109 ?_
        refine ar_topi (fun y109 e109 => ?_)
        refine ar_iast (pc := 110) dX3_removeBooth_110 rfl (show k < 8 by omega) rfl ?_
        refine ar_iinc (pc := 111) dX3_removeBooth_111 rfl (ni_inc _) (Nat.le_of_ble_eq_true rfl) rfl ?_
        refine ar_goto (tgt := 61) (pc := 114) dX3_removeBooth_114 (by decide) ?_
        refine Eq.mp (congrArg _ ?_) (ih (k + 1) (by omega))
        first
          | (rw [st_L, uu_L, vu_L, mixF_v (by rw [rmL, if_pos c77])]; done)
          | (rw [st_L, uu_L, vu_L, mixF_v (by rw [rmL, if_neg c77, if_pos (Int32.not_le.mp c98), e109])]; done)
          | (rw [← mixF_n (f := rmL (vL w) j) (g := vL w) (k := k) (by rw [rmL, if_neg c77, if_neg (Int32.not_lt.mpr c98)])]; done)
    · refine ar_aload_n (i := 0) (pc := 80) dX3_removeBooth_80 rfl rfl ?_
      refine ar_getf (pc := 81) dX3_removeBooth_81 fX3_41 rfl rfl ?_
      refine ar_iload_n (i := 2) (pc := 84) dX3_removeBooth_84 rfl rfl ?_
      refine ar_bipush (pc := 85) dX3_removeBooth_85 q_bipush_m6 ?_
      refine ar_iast (pc := 87) dX3_removeBooth_87 rfl (show k < 8 by omega) rfl ?_
      refine ar_goto (tgt := 111) (pc := 88) dX3_removeBooth_88 (by decide) ?_
      refine ar_iinc (pc := 111) dX3_removeBooth_111 rfl (ni_inc _) (Nat.le_of_ble_eq_true rfl) rfl ?_
      refine ar_goto (tgt := 61) (pc := 114) dX3_removeBooth_114 (by decide) ?_
      refine Eq.mp (congrArg _ ?_) (ih (k + 1) (by omega))
      first
        | (rw [st_L, uu_L, vu_L, mixF_v (by rw [rmL, if_pos c77])]; done)
        | (rw [st_L, uu_L, vu_L, mixF_v (by rw [rmL, if_neg c77, if_pos (Int32.not_le.mp c98), e109])]; done)
        | (rw [← mixF_n (f := rmL (vL w) j) (g := vL w) (k := k) (by rw [rmL, if_neg c77, if_neg (Int32.not_lt.mpr c98)])]; done)

set_option maxHeartbeats 4000000 in
set_option maxRecDepth 100000 in
theorem sX3_removeBooth (v : SV) (n : Nat) (hn : vBo v = nI n) (h8 : n ≤ 8) {j : Nat} (hj : j < n) : am_Sp mX3_removeBooth [.ref 2, .int (nI j)] (stH v) (am_vp (stH (rmB v n j))) := by
  refine am_intro (by decide) (Nat.le_of_ble_eq_true rfl) ?_
  refine ar_aload_n (i := 0) (pc := 0) dX3_removeBooth_0 rfl rfl ?_
  refine ar_iload_n (i := 1) (pc := 1) dX3_removeBooth_1 rfl rfl ?_
  refine ar_idV (pc := 2) dX3_removeBooth_2 cal_X3_isBooth kX3_67 rfl (sX3_isBooth v n hn h8 _) rfl rfl rfl rfl rfl rfl rfl (fun r h1 hp => ?_)
  obtain ⟨⟨h2, rfl⟩ | ⟨h2, rfl⟩, rfl⟩ := hp
  · refine ⟨rfl, ?_⟩
    refine ar_if_ne (pc := 5) (tgt := 9) dX3_removeBooth_5 (by decide) (fun c5 => ?_) (fun c5 => absurd c5 (by decide))
    refine ar_aload_n (i := 0) (pc := 9) dX3_removeBooth_9 rfl rfl ?_
    refine ar_getf (pc := 10) dX3_removeBooth_10 fX3_26 rfl rfl ?_
    refine ar_iload_n (i := 1) (pc := 13) dX3_removeBooth_13 rfl rfl ?_
    refine ar_mc (pc := 14) (l := [0, 1, 4]) (ar_rS dX3_removeBooth_14 cal_X3_closeUp kX3_81 rfl (sX3_closeUp _ (show j < 8 by omega)) rfl rfl rfl okm1_4 rfl rfl) okm1_4 rfl rfl rfl rfl (fun r h1 hp => ?_)
    obtain ⟨rfl, rfl⟩ := hp
    refine ⟨rfl, ?_⟩
    rw [mrg1, st_H]
    refine ar_aload_n (i := 0) (pc := 17) dX3_removeBooth_17 rfl rfl ?_
    refine ar_getf (pc := 18) dX3_removeBooth_18 fX3_29 rfl rfl ?_
    refine ar_iload_n (i := 1) (pc := 21) dX3_removeBooth_21 rfl rfl ?_
    refine ar_mc (pc := 22) (l := [0, 1, 5]) (ar_rS dX3_removeBooth_22 cal_X3_closeUp kX3_81 rfl (sX3_closeUp _ (show j < 8 by omega)) rfl rfl rfl okm1_5 rfl rfl) okm1_5 rfl rfl rfl rfl (fun r h1 hp => ?_)
    obtain ⟨rfl, rfl⟩ := hp
    refine ⟨rfl, ?_⟩
    rw [mrg1, st_P]
    refine ar_aload_n (i := 0) (pc := 25) dX3_removeBooth_25 rfl rfl ?_
    refine ar_getf (pc := 26) dX3_removeBooth_26 fX3_32 rfl rfl ?_
    refine ar_iload_n (i := 1) (pc := 29) dX3_removeBooth_29 rfl rfl ?_
    refine ar_mc (pc := 30) (l := [0, 1, 6]) (ar_rS dX3_removeBooth_30 cal_X3_closeUp kX3_81 rfl (sX3_closeUp _ (show j < 8 by omega)) rfl rfl rfl okm1_6 rfl rfl) okm1_6 rfl rfl rfl rfl (fun r h1 hp => ?_)
    obtain ⟨rfl, rfl⟩ := hp
    refine ⟨rfl, ?_⟩
    rw [mrg1, st_T]
    refine ar_aload_n (i := 0) (pc := 33) dX3_removeBooth_33 rfl rfl ?_
    refine ar_getf (pc := 34) dX3_removeBooth_34 fX3_35 rfl rfl ?_
    refine ar_iload_n (i := 1) (pc := 37) dX3_removeBooth_37 rfl rfl ?_
    refine ar_mc (pc := 38) (l := [0, 1, 7]) (ar_rS dX3_removeBooth_38 cal_X3_closeUp kX3_81 rfl (sX3_closeUp _ (show j < 8 by omega)) rfl rfl rfl okm1_7 rfl rfl) okm1_7 rfl rfl rfl rfl (fun r h1 hp => ?_)
    obtain ⟨rfl, rfl⟩ := hp
    refine ⟨rfl, ?_⟩
    rw [mrg1, st_F]
    refine ar_aload_n (i := 0) (pc := 41) dX3_removeBooth_41 rfl rfl ?_
    refine ar_getf (pc := 42) dX3_removeBooth_42 fX3_38 rfl rfl ?_
    refine ar_iload_n (i := 1) (pc := 45) dX3_removeBooth_45 rfl rfl ?_
    refine ar_mc (pc := 46) (l := [0, 1, 8]) (ar_rS dX3_removeBooth_46 cal_X3_closeUp kX3_81 rfl (sX3_closeUp _ (show j < 8 by omega)) rfl rfl rfl okm1_8 rfl rfl) okm1_8 rfl rfl rfl rfl (fun r h1 hp => ?_)
    obtain ⟨rfl, rfl⟩ := hp
    refine ⟨rfl, ?_⟩
    rw [mrg1, st_I]
    refine ar_aload_n (i := 0) (pc := 49) dX3_removeBooth_49 rfl rfl ?_
    refine ar_dup (pc := 50) dX3_removeBooth_50 rfl ?_
    refine ar_getf (pc := 51) dX3_removeBooth_51 fX3_60 rfl rfl ?_
    refine ar_iconst (pc := 54) dX3_removeBooth_54 q_iconst_1 ?_
    refine ar_isub (pc := 55) dX3_removeBooth_55 ?_
    refine ar_topi (fun y55 e55 => ?_)
    refine ar_putf (pc := 56) dX3_removeBooth_56 fX3_60 rfl (Nat.le_of_ble_eq_true rfl) (fun _ => ⟨rfl, rfl⟩) ?_
    rw [st_Bo]
    have e1 : y55 = nI (n - 1) := by
      rw [e55]
      show vBo v - 1 = _
      rw [hn, show n = n - 1 + 1 by omega]
      exact nI_pred _
    subst e1
    refine ar_iconst (pc := 59) dX3_removeBooth_59 q_iconst_0 ?_
    refine ar_istore_n (i := 2) (pc := 60) dX3_removeBooth_60 rfl (Nat.le_of_ble_eq_true rfl) rfl ?_
    have h := lX3_removeBooth (stH v) (rmA v n j) j 8 0 (by omega)
    rw [mixF_0] at h
    exact h
  · refine ⟨rfl, ?_⟩
    refine ar_if_ne (pc := 5) (tgt := 9) dX3_removeBooth_5 (by decide) (fun c5 => absurd c5 (by decide)) (fun c5 => ?_)
    exact ar_vret (pc := 8) dX3_removeBooth_8 rfl rfl rfl (h2 (by (simp (disch := omega) only [Int32.lt_iff_toInt_lt, Int32.le_iff_toInt_le, ← Int32.toInt_inj, ti_m6, ti_m1, ti_0, ti_1, ti_2, ti_3, ti_4, ti_5, ti_6, ti_7, ti_8, ti_9, ti_12, ti_100, ti_9999, ti_60, nI_toInt] at ⊢); omega)).elim

def st2 (v w : SV) : am_H := none :: none :: (stB 2 v ++ stB 10 w)
theorem mrg2 (a b N : Nat) (f g : Nat → Int32) (h : am_H) : am_mrg (am_mu [0, 1, a, b]) 0 (ar2 true N f g) h = (h.set a (some (am_ia N f))).set b (some (am_ia N g)) := rfl
theorem st2_S (v w : SV) (f : Nat → Int32) : ((st2 v w).set 11 (some (am_ia 6 (vS w)))).set 3 (some (am_ia 6 f)) = st2 (uS v f) w := by simp only [st2, List.cons_append, List.nil_append, stH, stB, stO, am_oj, List.set_cons_succ, List.set_cons_zero, uS, uX, uRo, uDa, uRa, uTa, uBo, uH, uP, uT, uF, uI, uL, vS, vX, vRo, vDa, vRa, vTa, vBo, vH, vP, vT, vF, vI, vL]
theorem okm2_0 : am_okmu [0, 1, 11, 3] [none, none, some true, some true] = true := by decide +kernel
theorem st2_H (v w : SV) (f : Nat → Int32) : ((st2 v w).set 12 (some (am_ia 8 (vH w)))).set 4 (some (am_ia 8 f)) = st2 (uH v f) w := by simp only [st2, List.cons_append, List.nil_append, stH, stB, stO, am_oj, List.set_cons_succ, List.set_cons_zero, uS, uX, uRo, uDa, uRa, uTa, uBo, uH, uP, uT, uF, uI, uL, vS, vX, vRo, vDa, vRa, vTa, vBo, vH, vP, vT, vF, vI, vL]
theorem okm2_1 : am_okmu [0, 1, 12, 4] [none, none, some true, some true] = true := by decide +kernel
theorem st2_P (v w : SV) (f : Nat → Int32) : ((st2 v w).set 13 (some (am_ia 8 (vP w)))).set 5 (some (am_ia 8 f)) = st2 (uP v f) w := by simp only [st2, List.cons_append, List.nil_append, stH, stB, stO, am_oj, List.set_cons_succ, List.set_cons_zero, uS, uX, uRo, uDa, uRa, uTa, uBo, uH, uP, uT, uF, uI, uL, vS, vX, vRo, vDa, vRa, vTa, vBo, vH, vP, vT, vF, vI, vL]
theorem okm2_2 : am_okmu [0, 1, 13, 5] [none, none, some true, some true] = true := by decide +kernel
theorem st2_T (v w : SV) (f : Nat → Int32) : ((st2 v w).set 14 (some (am_ia 8 (vT w)))).set 6 (some (am_ia 8 f)) = st2 (uT v f) w := by simp only [st2, List.cons_append, List.nil_append, stH, stB, stO, am_oj, List.set_cons_succ, List.set_cons_zero, uS, uX, uRo, uDa, uRa, uTa, uBo, uH, uP, uT, uF, uI, uL, vS, vX, vRo, vDa, vRa, vTa, vBo, vH, vP, vT, vF, vI, vL]
theorem okm2_3 : am_okmu [0, 1, 14, 6] [none, none, some true, some true] = true := by decide +kernel
theorem st2_F (v w : SV) (f : Nat → Int32) : ((st2 v w).set 15 (some (am_ia 8 (vF w)))).set 7 (some (am_ia 8 f)) = st2 (uF v f) w := by simp only [st2, List.cons_append, List.nil_append, stH, stB, stO, am_oj, List.set_cons_succ, List.set_cons_zero, uS, uX, uRo, uDa, uRa, uTa, uBo, uH, uP, uT, uF, uI, uL, vS, vX, vRo, vDa, vRa, vTa, vBo, vH, vP, vT, vF, vI, vL]
theorem okm2_4 : am_okmu [0, 1, 15, 7] [none, none, some true, some true] = true := by decide +kernel
theorem st2_I (v w : SV) (f : Nat → Int32) : ((st2 v w).set 16 (some (am_ia 8 (vI w)))).set 8 (some (am_ia 8 f)) = st2 (uI v f) w := by simp only [st2, List.cons_append, List.nil_append, stH, stB, stO, am_oj, List.set_cons_succ, List.set_cons_zero, uS, uX, uRo, uDa, uRa, uTa, uBo, uH, uP, uT, uF, uI, uL, vS, vX, vRo, vDa, vRa, vTa, vBo, vH, vP, vT, vF, vI, vL]
theorem okm2_5 : am_okmu [0, 1, 16, 8] [none, none, some true, some true] = true := by decide +kernel
theorem st2_L (v w : SV) (f : Nat → Int32) : ((st2 v w).set 17 (some (am_ia 8 (vL w)))).set 9 (some (am_ia 8 f)) = st2 (uL v f) w := by simp only [st2, List.cons_append, List.nil_append, stH, stB, stO, am_oj, List.set_cons_succ, List.set_cons_zero, uS, uX, uRo, uDa, uRa, uTa, uBo, uH, uP, uT, uF, uI, uL, vS, vX, vRo, vDa, vRa, vTa, vBo, vH, vP, vT, vF, vI, vL]
theorem okm2_6 : am_okmu [0, 1, 17, 9] [none, none, some true, some true] = true := by decide +kernel
theorem st2_X (v w : SV) (a : Int64) : (st2 v w).set 2 (some (.inl (2, ([.ref 3, .long (vX v), .int (vRo v), .int (vDa v), .int (vRa v), .int (vTa v), .int (vBo v), .ref 4, .ref 5, .ref 6, .ref 7, .ref 8, .ref 9] : List Value).set 1 (.long a)))) = st2 (uX v a) w := by simp only [st2, List.cons_append, List.nil_append, stH, stB, stO, am_oj, List.set_cons_succ, List.set_cons_zero, uS, uX, uRo, uDa, uRa, uTa, uBo, uH, uP, uT, uF, uI, uL, vS, vX, vRo, vDa, vRa, vTa, vBo, vH, vP, vT, vF, vI, vL]
theorem st2_Ro (v w : SV) (a : Int32) : (st2 v w).set 2 (some (.inl (2, ([.ref 3, .long (vX v), .int (vRo v), .int (vDa v), .int (vRa v), .int (vTa v), .int (vBo v), .ref 4, .ref 5, .ref 6, .ref 7, .ref 8, .ref 9] : List Value).set 2 (.int a)))) = st2 (uRo v a) w := by simp only [st2, List.cons_append, List.nil_append, stH, stB, stO, am_oj, List.set_cons_succ, List.set_cons_zero, uS, uX, uRo, uDa, uRa, uTa, uBo, uH, uP, uT, uF, uI, uL, vS, vX, vRo, vDa, vRa, vTa, vBo, vH, vP, vT, vF, vI, vL]
theorem st2_Da (v w : SV) (a : Int32) : (st2 v w).set 2 (some (.inl (2, ([.ref 3, .long (vX v), .int (vRo v), .int (vDa v), .int (vRa v), .int (vTa v), .int (vBo v), .ref 4, .ref 5, .ref 6, .ref 7, .ref 8, .ref 9] : List Value).set 3 (.int a)))) = st2 (uDa v a) w := by simp only [st2, List.cons_append, List.nil_append, stH, stB, stO, am_oj, List.set_cons_succ, List.set_cons_zero, uS, uX, uRo, uDa, uRa, uTa, uBo, uH, uP, uT, uF, uI, uL, vS, vX, vRo, vDa, vRa, vTa, vBo, vH, vP, vT, vF, vI, vL]
theorem st2_Ra (v w : SV) (a : Int32) : (st2 v w).set 2 (some (.inl (2, ([.ref 3, .long (vX v), .int (vRo v), .int (vDa v), .int (vRa v), .int (vTa v), .int (vBo v), .ref 4, .ref 5, .ref 6, .ref 7, .ref 8, .ref 9] : List Value).set 4 (.int a)))) = st2 (uRa v a) w := by simp only [st2, List.cons_append, List.nil_append, stH, stB, stO, am_oj, List.set_cons_succ, List.set_cons_zero, uS, uX, uRo, uDa, uRa, uTa, uBo, uH, uP, uT, uF, uI, uL, vS, vX, vRo, vDa, vRa, vTa, vBo, vH, vP, vT, vF, vI, vL]
theorem st2_Ta (v w : SV) (a : Int32) : (st2 v w).set 2 (some (.inl (2, ([.ref 3, .long (vX v), .int (vRo v), .int (vDa v), .int (vRa v), .int (vTa v), .int (vBo v), .ref 4, .ref 5, .ref 6, .ref 7, .ref 8, .ref 9] : List Value).set 5 (.int a)))) = st2 (uTa v a) w := by simp only [st2, List.cons_append, List.nil_append, stH, stB, stO, am_oj, List.set_cons_succ, List.set_cons_zero, uS, uX, uRo, uDa, uRa, uTa, uBo, uH, uP, uT, uF, uI, uL, vS, vX, vRo, vDa, vRa, vTa, vBo, vH, vP, vT, vF, vI, vL]
theorem st2_Bo (v w : SV) (a : Int32) : (st2 v w).set 2 (some (.inl (2, ([.ref 3, .long (vX v), .int (vRo v), .int (vDa v), .int (vRa v), .int (vTa v), .int (vBo v), .ref 4, .ref 5, .ref 6, .ref 7, .ref 8, .ref 9] : List Value).set 6 (.int a)))) = st2 (uBo v a) w := by simp only [st2, List.cons_append, List.nil_append, stH, stB, stO, am_oj, List.set_cons_succ, List.set_cons_zero, uS, uX, uRo, uDa, uRa, uTa, uBo, uH, uP, uT, uF, uI, uL, vS, vX, vRo, vDa, vRa, vTa, vBo, vH, vP, vT, vF, vI, vL]
set_option maxHeartbeats 4000000 in
set_option maxRecDepth 100000 in
theorem sX3_copyFrom (v w : SV) : am_Sp mX3_copyFrom [.ref 2, .ref 10] (st2 v w) (am_vp (st2 w w)) := by
  refine am_intro (by decide) (Nat.le_of_ble_eq_true rfl) ?_
  refine ar_aload_n (i := 1) (pc := 0) dX3_copyFrom_0 rfl rfl ?_
  refine ar_getf (pc := 1) dX3_copyFrom_1 fX3_13 rfl rfl ?_
  refine ar_aload_n (i := 0) (pc := 4) dX3_copyFrom_4 rfl rfl ?_
  refine ar_getf (pc := 5) dX3_copyFrom_5 fX3_13 rfl rfl ?_
  refine ar_mc (pc := 8) (l := [0, 1, 11, 3]) (ar_rSN dX3_copyFrom_8 cal_X6_copyRow kX3_44 rfl (sX6_copyRow true 6 (by decide) _ _) rfl rfl rfl okm2_0 rfl rfl) okm2_0 rfl rfl rfl rfl (fun r h1 hp => ?_)
  obtain ⟨rfl, rfl⟩ := hp
  refine ⟨rfl, ?_⟩
  rw [mrg2, st2_S]
  refine ar_aload_n (i := 0) (pc := 11) dX3_copyFrom_11 rfl rfl ?_
  refine ar_aload_n (i := 1) (pc := 12) dX3_copyFrom_12 rfl rfl ?_
  refine ar_getf (pc := 13) dX3_copyFrom_13 fX3_18 rfl rfl ?_
  refine ar_putf (pc := 16) dX3_copyFrom_16 fX3_18 rfl (Nat.le_of_ble_eq_true rfl) (fun _ => ⟨rfl, rfl⟩) ?_
  rw [st2_X]
  refine ar_aload_n (i := 0) (pc := 19) dX3_copyFrom_19 rfl rfl ?_
  refine ar_aload_n (i := 1) (pc := 20) dX3_copyFrom_20 rfl rfl ?_
  refine ar_getf (pc := 21) dX3_copyFrom_21 fX3_22 rfl rfl ?_
  refine ar_putf (pc := 24) dX3_copyFrom_24 fX3_22 rfl (Nat.le_of_ble_eq_true rfl) (fun _ => ⟨rfl, rfl⟩) ?_
  rw [st2_Ro]
  refine ar_aload_n (i := 0) (pc := 27) dX3_copyFrom_27 rfl rfl ?_
  refine ar_aload_n (i := 1) (pc := 28) dX3_copyFrom_28 rfl rfl ?_
  refine ar_getf (pc := 29) dX3_copyFrom_29 fX3_51 rfl rfl ?_
  refine ar_putf (pc := 32) dX3_copyFrom_32 fX3_51 rfl (Nat.le_of_ble_eq_true rfl) (fun _ => ⟨rfl, rfl⟩) ?_
  rw [st2_Da]
  refine ar_aload_n (i := 0) (pc := 35) dX3_copyFrom_35 rfl rfl ?_
  refine ar_aload_n (i := 1) (pc := 36) dX3_copyFrom_36 rfl rfl ?_
  refine ar_getf (pc := 37) dX3_copyFrom_37 fX3_54 rfl rfl ?_
  refine ar_putf (pc := 40) dX3_copyFrom_40 fX3_54 rfl (Nat.le_of_ble_eq_true rfl) (fun _ => ⟨rfl, rfl⟩) ?_
  rw [st2_Ra]
  refine ar_aload_n (i := 0) (pc := 43) dX3_copyFrom_43 rfl rfl ?_
  refine ar_aload_n (i := 1) (pc := 44) dX3_copyFrom_44 rfl rfl ?_
  refine ar_getf (pc := 45) dX3_copyFrom_45 fX3_57 rfl rfl ?_
  refine ar_putf (pc := 48) dX3_copyFrom_48 fX3_57 rfl (Nat.le_of_ble_eq_true rfl) (fun _ => ⟨rfl, rfl⟩) ?_
  rw [st2_Ta]
  refine ar_aload_n (i := 0) (pc := 51) dX3_copyFrom_51 rfl rfl ?_
  refine ar_aload_n (i := 1) (pc := 52) dX3_copyFrom_52 rfl rfl ?_
  refine ar_getf (pc := 53) dX3_copyFrom_53 fX3_60 rfl rfl ?_
  refine ar_putf (pc := 56) dX3_copyFrom_56 fX3_60 rfl (Nat.le_of_ble_eq_true rfl) (fun _ => ⟨rfl, rfl⟩) ?_
  rw [st2_Bo]
  refine ar_aload_n (i := 1) (pc := 59) dX3_copyFrom_59 rfl rfl ?_
  refine ar_getf (pc := 60) dX3_copyFrom_60 fX3_26 rfl rfl ?_
  refine ar_aload_n (i := 0) (pc := 63) dX3_copyFrom_63 rfl rfl ?_
  refine ar_getf (pc := 64) dX3_copyFrom_64 fX3_26 rfl rfl ?_
  refine ar_mc (pc := 67) (l := [0, 1, 12, 4]) (ar_rSN dX3_copyFrom_67 cal_X6_copyRow kX3_44 rfl (sX6_copyRow true 8 (by decide) _ _) rfl rfl rfl okm2_1 rfl rfl) okm2_1 rfl rfl rfl rfl (fun r h1 hp => ?_)
  obtain ⟨rfl, rfl⟩ := hp
  refine ⟨rfl, ?_⟩
  rw [mrg2, st2_H]
  refine ar_aload_n (i := 1) (pc := 70) dX3_copyFrom_70 rfl rfl ?_
  refine ar_getf (pc := 71) dX3_copyFrom_71 fX3_29 rfl rfl ?_
  refine ar_aload_n (i := 0) (pc := 74) dX3_copyFrom_74 rfl rfl ?_
  refine ar_getf (pc := 75) dX3_copyFrom_75 fX3_29 rfl rfl ?_
  refine ar_mc (pc := 78) (l := [0, 1, 13, 5]) (ar_rSN dX3_copyFrom_78 cal_X6_copyRow kX3_44 rfl (sX6_copyRow true 8 (by decide) _ _) rfl rfl rfl okm2_2 rfl rfl) okm2_2 rfl rfl rfl rfl (fun r h1 hp => ?_)
  obtain ⟨rfl, rfl⟩ := hp
  refine ⟨rfl, ?_⟩
  rw [mrg2, st2_P]
  refine ar_aload_n (i := 1) (pc := 81) dX3_copyFrom_81 rfl rfl ?_
  refine ar_getf (pc := 82) dX3_copyFrom_82 fX3_32 rfl rfl ?_
  refine ar_aload_n (i := 0) (pc := 85) dX3_copyFrom_85 rfl rfl ?_
  refine ar_getf (pc := 86) dX3_copyFrom_86 fX3_32 rfl rfl ?_
  refine ar_mc (pc := 89) (l := [0, 1, 14, 6]) (ar_rSN dX3_copyFrom_89 cal_X6_copyRow kX3_44 rfl (sX6_copyRow true 8 (by decide) _ _) rfl rfl rfl okm2_3 rfl rfl) okm2_3 rfl rfl rfl rfl (fun r h1 hp => ?_)
  obtain ⟨rfl, rfl⟩ := hp
  refine ⟨rfl, ?_⟩
  rw [mrg2, st2_T]
  refine ar_aload_n (i := 1) (pc := 92) dX3_copyFrom_92 rfl rfl ?_
  refine ar_getf (pc := 93) dX3_copyFrom_93 fX3_35 rfl rfl ?_
  refine ar_aload_n (i := 0) (pc := 96) dX3_copyFrom_96 rfl rfl ?_
  refine ar_getf (pc := 97) dX3_copyFrom_97 fX3_35 rfl rfl ?_
  refine ar_mc (pc := 100) (l := [0, 1, 15, 7]) (ar_rSN dX3_copyFrom_100 cal_X6_copyRow kX3_44 rfl (sX6_copyRow true 8 (by decide) _ _) rfl rfl rfl okm2_4 rfl rfl) okm2_4 rfl rfl rfl rfl (fun r h1 hp => ?_)
  obtain ⟨rfl, rfl⟩ := hp
  refine ⟨rfl, ?_⟩
  rw [mrg2, st2_F]
  refine ar_aload_n (i := 1) (pc := 103) dX3_copyFrom_103 rfl rfl ?_
  refine ar_getf (pc := 104) dX3_copyFrom_104 fX3_38 rfl rfl ?_
  refine ar_aload_n (i := 0) (pc := 107) dX3_copyFrom_107 rfl rfl ?_
  refine ar_getf (pc := 108) dX3_copyFrom_108 fX3_38 rfl rfl ?_
  refine ar_mc (pc := 111) (l := [0, 1, 16, 8]) (ar_rSN dX3_copyFrom_111 cal_X6_copyRow kX3_44 rfl (sX6_copyRow true 8 (by decide) _ _) rfl rfl rfl okm2_5 rfl rfl) okm2_5 rfl rfl rfl rfl (fun r h1 hp => ?_)
  obtain ⟨rfl, rfl⟩ := hp
  refine ⟨rfl, ?_⟩
  rw [mrg2, st2_I]
  refine ar_aload_n (i := 1) (pc := 114) dX3_copyFrom_114 rfl rfl ?_
  refine ar_getf (pc := 115) dX3_copyFrom_115 fX3_41 rfl rfl ?_
  refine ar_aload_n (i := 0) (pc := 118) dX3_copyFrom_118 rfl rfl ?_
  refine ar_getf (pc := 119) dX3_copyFrom_119 fX3_41 rfl rfl ?_
  refine ar_mc (pc := 122) (l := [0, 1, 17, 9]) (ar_rSN dX3_copyFrom_122 cal_X6_copyRow kX3_44 rfl (sX6_copyRow true 8 (by decide) _ _) rfl rfl rfl okm2_6 rfl rfl) okm2_6 rfl rfl rfl rfl (fun r h1 hp => ?_)
  obtain ⟨rfl, rfl⟩ := hp
  refine ⟨rfl, ?_⟩
  rw [mrg2, st2_L]
  exact ar_vret (pc := 125) dX3_copyFrom_125 rfl rfl rfl ⟨rfl, rfl⟩
