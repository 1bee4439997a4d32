theorem vs_P (tp : Nat → Int32) (la lt : Nat → Int32) (ls lp : Int32) (ra rt : Nat → Int32) (rs rp : Int32) (v : SV) (f : Nat → Int32) : (vsH tp la lt ls lp ra rt rs rp v).set 13 (some (am_ia 8 f)) = vsH tp la lt ls lp ra rt rs rp (uP v f) := by simp only [vsH, vwB, smB, List.cons_append, List.nil_append, stB, stO, am_oj, List.set_cons_succ, List.set_cons_zero, uS, uX, uRo, uDa, uRa, uTa, uBo, uH, uP, uT, uF, uI, uL, vS, vX, vRo, vDa, vRa, vTa, vBo, vH, vP, vT, vF, vI, vL]
theorem vs_T (tp : Nat → Int32) (la lt : Nat → Int32) (ls lp : Int32) (ra rt : Nat → Int32) (rs rp : Int32) (v : SV) (f : Nat → Int32) : (vsH tp la lt ls lp ra rt rs rp v).set 14 (some (am_ia 8 f)) = vsH tp la lt ls lp ra rt rs rp (uT v f) := by simp only [vsH, vwB, smB, List.cons_append, List.nil_append, stB, stO, am_oj, List.set_cons_succ, List.set_cons_zero, uS, uX, uRo, uDa, uRa, uTa, uBo, uH, uP, uT, uF, uI, uL, vS, vX, vRo, vDa, vRa, vTa, vBo, vH, vP, vT, vF, vI, vL]
theorem vs_I (tp : Nat → Int32) (la lt : Nat → Int32) (ls lp : Int32) (ra rt : Nat → Int32) (rs rp : Int32) (v : SV) (f : Nat → Int32) : (vsH tp la lt ls lp ra rt rs rp v).set 16 (some (am_ia 8 f)) = vsH tp la lt ls lp ra rt rs rp (uI v f) := by simp only [vsH, vwB, smB, List.cons_append, List.nil_append, stB, stO, am_oj, List.set_cons_succ, List.set_cons_zero, uS, uX, uRo, uDa, uRa, uTa, uBo, uH, uP, uT, uF, uI, uL, vS, vX, vRo, vDa, vRa, vTa, vBo, vH, vP, vT, vF, vI, vL]
theorem vs_Da (tp : Nat → Int32) (la lt : Nat → Int32) (ls lp : Int32) (ra rt : Nat → Int32) (rs rp : Int32) (v : SV) (a : Int32) : (vsH tp la lt ls lp ra rt rs rp v).set 10 (some (.inl (2, ([.ref 11, .long (vX v), .int (vRo v), .int (vDa v), .int (vRa v), .int (vTa v), .int (vBo v), .ref 12, .ref 13, .ref 14, .ref 15, .ref 16, .ref 17] : List Value).set 3 (.int a)))) = vsH tp la lt ls lp ra rt rs rp (uDa v a) := by simp only [vsH, vwB, smB, List.cons_append, List.nil_append, stB, stO, am_oj, List.set_cons_succ, List.set_cons_zero, uS, uX, uRo, uDa, uRa, uTa, uBo, uH, uP, uT, uF, uI, uL, vS, vX, vRo, vDa, vRa, vTa, vBo, vH, vP, vT, vF, vI, vL]
theorem vs_Ra (tp : Nat → Int32) (la lt : Nat → Int32) (ls lp : Int32) (ra rt : Nat → Int32) (rs rp : Int32) (v : SV) (a : Int32) : (vsH tp la lt ls lp ra rt rs rp v).set 10 (some (.inl (2, ([.ref 11, .long (vX v), .int (vRo v), .int (vDa v), .int (vRa v), .int (vTa v), .int (vBo v), .ref 12, .ref 13, .ref 14, .ref 15, .ref 16, .ref 17] : List Value).set 4 (.int a)))) = vsH tp la lt ls lp ra rt rs rp (uRa v a) := by simp only [vsH, vwB, smB, List.cons_append, List.nil_append, stB, stO, am_oj, List.set_cons_succ, List.set_cons_zero, uS, uX, uRo, uDa, uRa, uTa, uBo, uH, uP, uT, uF, uI, uL, vS, vX, vRo, vDa, vRa, vTa, vBo, vH, vP, vT, vF, vI, vL]
theorem vs_Ta (tp : Nat → Int32) (la lt : Nat → Int32) (ls lp : Int32) (ra rt : Nat → Int32) (rs rp : Int32) (v : SV) (a : Int32) : (vsH tp la lt ls lp ra rt rs rp v).set 10 (some (.inl (2, ([.ref 11, .long (vX v), .int (vRo v), .int (vDa v), .int (vRa v), .int (vTa v), .int (vBo v), .ref 12, .ref 13, .ref 14, .ref 15, .ref 16, .ref 17] : List Value).set 5 (.int a)))) = vsH tp la lt ls lp ra rt rs rp (uTa v a) := by simp only [vsH, vwB, smB, List.cons_append, List.nil_append, stB, stO, am_oj, List.set_cons_succ, List.set_cons_zero, uS, uX, uRo, uDa, uRa, uTa, uBo, uH, uP, uT, uF, uI, uL, vS, vX, vRo, vDa, vRa, vTa, vBo, vH, vP, vT, vF, vI, vL]
def filI (n : Nat) : Nat → Int32 := fun k => if k < n then nI k else -6
def swp (f : Nat → Int32) (i j : Nat) : Nat → Int32 := upd (upd f i (f j)) j (f i)
abbrev in8 (o : Int32) : Prop := 0 ≤ o.toInt ∧ o.toInt < 8
def dsw (p : Nat) (o : Int32) (f : Nat → Int32) : Nat → Int32 := if in8 o then swp f (p + 1) (ix o) else f
theorem dsw_y {p : Nat} {o : Int32} {f : Nat → Int32} (h : in8 o) : dsw p o f = swp f (p + 1) (ix o) := by rw [dsw, if_pos h]
theorem dsw_n {p : Nat} {o : Int32} {f : Nat → Int32} (h : ¬ in8 o) : dsw p o f = f := by rw [dsw, if_neg h]
def dstep (p : Nat) (r : Int64 → (Nat → Int32) → Int64 × (Nat → Int32)) (x : Int64) (f : Nat → Int32) : Int64 × (Nat → Int32) := r (lcg x) (dsw p (drw x (p + 1 + 1)) f)
/-- the lots from the place p down to 1 -/
noncomputable def dlots (p : Nat) : Int64 → (Nat → Int32) → Int64 × (Nat → Int32) := Nat.rec (fun x f => (x, f)) dstep p
theorem dlots_0 (x : Int64) (f : Nat → Int32) : dlots 0 x f = (x, f) := rfl
theorem dlots_f (p : Nat) : dlots (p + 1) = dstep p (dlots p) := rfl
theorem dstep_e (p : Nat) (r : Int64 → (Nat → Int32) → Int64 × (Nat → Int32)) (x : Int64) (f : Nat → Int32) : dstep p r x f = r (lcg x) (dsw p (drw x (p + 1 + 1)) f) := rfl
theorem dlots_s (p : Nat) (x : Int64) (f : Nat → Int32) : dlots (p + 1) x f = dlots p (lcg x) (dsw p (drw x (p + 1 + 1)) f) := by rw [dlots_f, dstep_e]
def fin1 (n : Nat) (w : SV) : SV := uF w (if bkP n (vL w 0) then upd (vF w) (ix (vL w 0)) (vF w (ix (vL w 0)) + 1) else vF w)
noncomputable def dlV (v : SV) (n : Nat) : SV := fin1 n (uL (uX v (dlots (n - 1) (vX v) (filI n)).1) (dlots (n - 1) (vX v) (filI n)).2)
theorem uXuL (v : SV) (x y : Int64) (f : Nat → Int32) : uX (uL (uX v x) f) y = uL (uX v y) f := rfl
theorem vX_uL (v : SV) (x : Int64) (f : Nat → Int32) : vX (uL (uX v x) f) = x := rfl
theorem dlots_y {x : Int64} {f : Nat → Int32} {p : Nat} {o : Int32} (eo : o = drw x (p + 1 + 1)) (h : in8 o) : dlots (p + 1) x f = dlots p (lcg x) (swp f (p + 1) (ix o)) := by
  subst eo
  rw [dlots_s, dsw_y h]
theorem dlots_n {x : Int64} {f : Nat → Int32} {p : Nat} {o : Int32} (eo : o = drw x (p + 1 + 1)) (h : ¬ in8 o) : dlots (p + 1) x f = dlots p (lcg x) f := by
  subst eo
  rw [dlots_s, dsw_n h]
theorem pat_st (v w : SV) : am_pat (stH v) = am_pat (stH w) := rfl
theorem swp_e (f : Nat → Int32) (i j : Nat) : upd (upd f i (f j)) j (f i) = swp f i j := rfl
set_option maxHeartbeats 4000000 in
set_option maxRecDepth 100000 in
theorem lX0_drawLots_93 (h0 : am_H) (v : SV) (n : Nat) (hn : vBo v = nI n) (h8 : n ≤ 8) (x2 : Int32) (o3 o4 : Option Value) : am_RW mX0_drawLots h0 (am_vp (stH (fin1 n v))) 0 0 93 [some (.ref 2), some (.ref 9), some (.int x2), o3, o4] [] (stH v) := by
  refine ar_aload_n (i := 1) (pc := 93) dX0_drawLots_93 rfl rfl ?_
  refine ar_iconst (pc := 94) dX0_drawLots_94 q_iconst_0 ?_
  refine ar_iald (pc := 95) dX0_drawLots_95 rfl (show 0 < 8 by decide) nI_0.symm ?_
  refine ar_istore_n (i := 2) (pc := 96) dX0_drawLots_96 rfl (Nat.le_of_ble_eq_true rfl) rfl ?_
  refine ar_aload_n (i := 0) (pc := 97) dX0_drawLots_97 rfl rfl ?_
  refine ar_iload_n (i := 2) (pc := 98) dX0_drawLots_98 rfl rfl ?_
  refine ar_idV (pc := 99) dX0_drawLots_99 cal_X3_isBooth kX0_43 rfl (sX3_isBooth v n hn h8 _) rfl rfl rfl rfl rfl rfl rfl (fun r h1 hp => ?_)
  obtain ⟨⟨h99, rfl⟩ | ⟨h99, rfl⟩, rfl⟩ := hp
  · refine ⟨rfl, ?_⟩
    refine ar_if_eq (pc := 102) (tgt := 115) dX0_drawLots_102 (by decide) (fun c102 => absurd c102 (by decide)) (fun c102 => ?_)
    refine ar_aload_n (i := 0) (pc := 105) dX0_drawLots_105 rfl rfl ?_
    refine ar_getf (pc := 106) dX0_drawLots_106 fX0_56 rfl rfl ?_
    refine ar_iload_n (i := 2) (pc := 109) dX0_drawLots_109 rfl rfl ?_
    refine ar_dup2 (pc := 110) dX0_drawLots_110 rfl rfl ?_
    refine ar_iald (pc := 111) dX0_drawLots_111 rfl (show ix (vL v 0) < 8 by have := h99; unfold ix; omega) (ix_eq h99.1) ?_
    refine ar_iconst (pc := 112) dX0_drawLots_112 q_iconst_1 ?_
    refine ar_iadd (pc := 113) dX0_drawLots_113 ?_
    refine ar_iast (pc := 114) dX0_drawLots_114 rfl (show ix (vL v 0) < 8 by have := h99; unfold ix; omega) (ix_eq h99.1) ?_
    exact ar_vret (pc := 115) dX0_drawLots_115 rfl rfl rfl ⟨rfl, by rw [fin1, if_pos h99, st_F]⟩
  · refine ⟨rfl, ?_⟩
    refine ar_if_eq (pc := 102) (tgt := 115) dX0_drawLots_102 (by decide) (fun c102 => ?_) (fun c102 => absurd c102 (by decide))
    exact ar_vret (pc := 115) dX0_drawLots_115 rfl rfl rfl ⟨rfl, by rw [fin1, if_neg h99, ← st_F]; rfl⟩
set_option maxHeartbeats 4000000 in
set_option maxRecDepth 100000 in
theorem lX0_drawLots_48 (h0 : am_H) (v : SV) (n : Nat) (hn : vBo v = nI n) (h8 : n ≤ 8) : ∀ (p : Nat) (x : Int64) (f : Nat → Int32) (o3 o4 : Option Value), p < 8 → am_RW mX0_drawLots h0 (am_vp (stH (fin1 n (uL (uX v (dlots p x f).1) (dlots p x f).2)))) 0 0 48 [some (.ref 2), some (.ref 9), some (.int (nI p)), o3, o4] [] (stH (uL (uX v x) f)) := by
  intro p
  induction p with
  | zero =>
    intro x f o3 o4 hp
    refine ar_iload_n (i := 2) (pc := 48) dX0_drawLots_48 rfl rfl ?_
    refine ar_iconst (pc := 49) dX0_drawLots_49 q_iconst_1 ?_
    refine ar_icmp_lt (pc := 50) (tgt := 93) dX0_drawLots_50 (by decide) (fun c50 => ?_) (fun c50 => False.elim (by (simp (disch := omega) only [Int32.lt_iff_toInt_lt, Int32.le_iff_toInt_le, ← Int32.toInt_inj, ti_m6, ti_m1, ti_0, ti_1, ti_2, ti_3, ti_4, ti_5, ti_6, ti_7, ti_8, ti_9, ti_12, ti_100, ti_9999, ti_60, nI_toInt] at c50) <;> omega))
    rw [dlots_0]
    exact lX0_drawLots_93 h0 (uL (uX v x) f) n hn h8 _ _ _
  | succ p ih =>
    intro x f o3 o4 hp
    refine ar_iload_n (i := 2) (pc := 48) dX0_drawLots_48 rfl rfl ?_
    refine ar_iconst (pc := 49) dX0_drawLots_49 q_iconst_1 ?_
    refine ar_icmp_lt (pc := 50) (tgt := 93) dX0_drawLots_50 (by decide) (fun c50 => False.elim (by (simp (disch := omega) only [Int32.lt_iff_toInt_lt, Int32.le_iff_toInt_le, ← Int32.toInt_inj, ti_m6, ti_m1, ti_0, ti_1, ti_2, ti_3, ti_4, ti_5, ti_6, ti_7, ti_8, ti_9, ti_12, ti_100, ti_9999, ti_60, nI_toInt] at c50) <;> omega)) (fun c50 => ?_)
    refine ar_aload_n (i := 0) (pc := 53) dX0_drawLots_53 rfl rfl ?_
    refine ar_iload_n (i := 2) (pc := 54) dX0_drawLots_54 rfl rfl ?_
    refine ar_iconst (pc := 55) dX0_drawLots_55 q_iconst_1 ?_
    refine ar_iadd (pc := 56) dX0_drawLots_56 ?_
    rw [nI_1]
    refine ar_idV (pc := 57) dX0_drawLots_57 cal_X3_draw kX0_19 rfl (sX3_draw (uL (uX v x) f) (m := p + 1 + 1) (by omega) (by omega)) rfl rfl rfl rfl rfl rfl rfl (fun r h1 hp => ?_)
    obtain ⟨rfl, rfl⟩ := hp
    refine ⟨pat_st _ _, ?_⟩
    rw [vX_uL, uXuL]
    refine ar_topi (fun o eo => ?_)
    refine ar_istore_n (i := 3) (pc := 60) dX0_drawLots_60 rfl (Nat.le_of_ble_eq_true rfl) rfl ?_
    refine ar_iload_n (i := 3) (pc := 61) dX0_drawLots_61 rfl rfl ?_
    refine ar_if_lt (pc := 62) (tgt := 87) dX0_drawLots_62 (by decide) (fun c62 => ?_) (fun c62 => ?_)
    · refine ar_iinc (pc := 87) dX0_drawLots_87 rfl (ni_dec p) (Nat.le_of_ble_eq_true rfl) rfl ?_
      refine ar_goto (tgt := 48) (pc := 90) dX0_drawLots_90 (by decide) ?_
      have hin : ¬ in8 o := fun z => by obtain ⟨z1, z2⟩ := z; (simp (disch := omega) only [Int32.lt_iff_toInt_lt, Int32.le_iff_toInt_le, ← Int32.toInt_inj, ti_m6, ti_m1, ti_0, ti_1, ti_2, ti_3, ti_4, ti_5, ti_6, ti_7, ti_8, ti_9, ti_12, ti_100, ti_9999, ti_60, nI_toInt] at c62) <;> omega
      have ih' := ih (lcg x) f (some (.int o)) o4 (by omega)
      rw [dlots_n eo hin]
      exact ih'
    · refine ar_iload_n (i := 3) (pc := 65) dX0_drawLots_65 rfl rfl ?_
      refine ar_aload_n (i := 1) (pc := 66) dX0_drawLots_66 rfl rfl ?_
      refine ar_alen (pc := 67) dX0_drawLots_67 rfl ?_
      refine ar_icmp_ge (pc := 68) (tgt := 87) dX0_drawLots_68 (by decide) (fun c68 => ?_) (fun c68 => ?_)
      · refine ar_iinc (pc := 87) dX0_drawLots_87 rfl (ni_dec p) (Nat.le_of_ble_eq_true rfl) rfl ?_
        refine ar_goto (tgt := 48) (pc := 90) dX0_drawLots_90 (by decide) ?_
        have hin : ¬ in8 o := fun z => by obtain ⟨z1, z2⟩ := z; (simp (disch := omega) only [Int32.lt_iff_toInt_lt, Int32.le_iff_toInt_le, ← Int32.toInt_inj, ti_m6, ti_m1, ti_0, ti_1, ti_2, ti_3, ti_4, ti_5, ti_6, ti_7, ti_8, ti_9, ti_12, ti_100, ti_9999, ti_60, nI_toInt] at c68) <;> omega
        have ih' := ih (lcg x) f (some (.int o)) o4 (by omega)
        rw [dlots_n eo hin]
        exact ih'
      · refine ar_aload_n (i := 1) (pc := 71) dX0_drawLots_71 rfl rfl ?_
        refine ar_iload_n (i := 2) (pc := 72) dX0_drawLots_72 rfl rfl ?_
        refine ar_iald (pc := 73) dX0_drawLots_73 rfl (show p + 1 < 8 by omega) rfl ?_
        refine ar_istore (pc := 74) dX0_drawLots_74 (Nat.le_of_ble_eq_true rfl) rfl ?_
        refine ar_aload_n (i := 1) (pc := 76) dX0_drawLots_76 rfl rfl ?_
        refine ar_iload_n (i := 2) (pc := 77) dX0_drawLots_77 rfl rfl ?_
        refine ar_aload_n (i := 1) (pc := 78) dX0_drawLots_78 rfl rfl ?_
        refine ar_iload_n (i := 3) (pc := 79) dX0_drawLots_79 rfl rfl ?_
        refine ar_iald (pc := 80) dX0_drawLots_80 rfl (show ix o < 8 by (simp (disch := omega) only [Int32.lt_iff_toInt_lt, Int32.le_iff_toInt_le, ← Int32.toInt_inj, ti_m6, ti_m1, ti_0, ti_1, ti_2, ti_3, ti_4, ti_5, ti_6, ti_7, ti_8, ti_9, ti_12, ti_100, ti_9999, ti_60, nI_toInt] at c68); (simp (disch := omega) only [Int32.lt_iff_toInt_lt, Int32.le_iff_toInt_le, ← Int32.toInt_inj, ti_m6, ti_m1, ti_0, ti_1, ti_2, ti_3, ti_4, ti_5, ti_6, ti_7, ti_8, ti_9, ti_12, ti_100, ti_9999, ti_60, nI_toInt] at c62); unfold ix; omega) (ix_eq (show 0 ≤ o.toInt by (simp (disch := omega) only [Int32.lt_iff_toInt_lt, Int32.le_iff_toInt_le, ← Int32.toInt_inj, ti_m6, ti_m1, ti_0, ti_1, ti_2, ti_3, ti_4, ti_5, ti_6, ti_7, ti_8, ti_9, ti_12, ti_100, ti_9999, ti_60, nI_toInt] at c62); omega)) ?_
        refine ar_iast (pc := 81) dX0_drawLots_81 rfl (show p + 1 < 8 by omega) rfl ?_
        refine ar_aload_n (i := 1) (pc := 82) dX0_drawLots_82 rfl rfl ?_
        refine ar_iload_n (i := 3) (pc := 83) dX0_drawLots_83 rfl rfl ?_
        refine ar_iload (pc := 84) dX0_drawLots_84 rfl ?_
        refine ar_iast (pc := 86) dX0_drawLots_86 rfl (show ix o < 8 by (simp (disch := omega) only [Int32.lt_iff_toInt_lt, Int32.le_iff_toInt_le, ← Int32.toInt_inj, ti_m6, ti_m1, ti_0, ti_1, ti_2, ti_3, ti_4, ti_5, ti_6, ti_7, ti_8, ti_9, ti_12, ti_100, ti_9999, ti_60, nI_toInt] at c68); (simp (disch := omega) only [Int32.lt_iff_toInt_lt, Int32.le_iff_toInt_le, ← Int32.toInt_inj, ti_m6, ti_m1, ti_0, ti_1, ti_2, ti_3, ti_4, ti_5, ti_6, ti_7, ti_8, ti_9, ti_12, ti_100, ti_9999, ti_60, nI_toInt] at c62); unfold ix; omega) (ix_eq (show 0 ≤ o.toInt by (simp (disch := omega) only [Int32.lt_iff_toInt_lt, Int32.le_iff_toInt_le, ← Int32.toInt_inj, ti_m6, ti_m1, ti_0, ti_1, ti_2, ti_3, ti_4, ti_5, ti_6, ti_7, ti_8, ti_9, ti_12, ti_100, ti_9999, ti_60, nI_toInt] at c62); omega)) ?_
        refine ar_iinc (pc := 87) dX0_drawLots_87 rfl (ni_dec p) (Nat.le_of_ble_eq_true rfl) rfl ?_
        refine ar_goto (tgt := 48) (pc := 90) dX0_drawLots_90 (by decide) ?_
        have hin : in8 o := by (simp (disch := omega) only [Int32.lt_iff_toInt_lt, Int32.le_iff_toInt_le, ← Int32.toInt_inj, ti_m6, ti_m1, ti_0, ti_1, ti_2, ti_3, ti_4, ti_5, ti_6, ti_7, ti_8, ti_9, ti_12, ti_100, ti_9999, ti_60, nI_toInt] at c62); (simp (disch := omega) only [Int32.lt_iff_toInt_lt, Int32.le_iff_toInt_le, ← Int32.toInt_inj, ti_m6, ti_m1, ti_0, ti_1, ti_2, ti_3, ti_4, ti_5, ti_6, ti_7, ti_8, ti_9, ti_12, ti_100, ti_9999, ti_60, nI_toInt] at c68); exact ⟨by omega, by omega⟩
        have ih' := ih (lcg x) (swp f (p + 1) (ix o)) (some (.int o)) (some (.int (f (p + 1)))) (by omega)
        rw [dlots_y eo hin]
        rw [st_L, st_L, uu_L, uu_L, vu_L, swp_e]
        exact ih'
set_option maxHeartbeats 4000000 in
set_option maxRecDepth 100000 in
theorem lX0_drawLots_7 (h0 : am_H) (v : SV) (n : Nat) (hn : vBo v = nI n) (h8 : n ≤ 8) (o3 o4 : Option Value) : ∀ (d k : Nat), k + d = 8 → am_RW mX0_drawLots h0 (am_vp (stH (dlV v n))) 0 0 7 [some (.ref 2), some (.ref 9), some (.int (nI k)), o3, o4] [] (stH (uL v (mixF (filI n) (vL v) k))) := by
  intro d
  induction d with
  | zero =>
    intro k hk
    have e : k = 8 := by omega
    subst e
    refine ar_iload_n (i := 2) (pc := 7) dX0_drawLots_7 rfl rfl ?_
    refine ar_aload_n (i := 1) (pc := 8) dX0_drawLots_8 rfl rfl ?_
    refine ar_alen (pc := 9) dX0_drawLots_9 rfl ?_
    refine ar_icmp_ge (pc := 10) (tgt := 36) dX0_drawLots_10 (by decide) (fun c10 => ?_) (fun c10 => False.elim (by (simp (disch := omega) only [Int32.lt_iff_toInt_lt, Int32.le_iff_toInt_le, ← Int32.toInt_inj, ti_m6, ti_m1, ti_0, ti_1, ti_2, ti_3, ti_4, ti_5, ti_6, ti_7, ti_8, ti_9, ti_12, ti_100, ti_9999, ti_60, nI_toInt] at c10) <;> omega))
    refine ar_cong (a := 9) (filI n) rfl (fun j hj => by rw [vu_L, mixF_all hj]) ?_
    rw [st_L, uu_L]
    refine ar_aload_n (i := 0) (pc := 36) dX0_drawLots_36 rfl rfl ?_
    refine ar_getf (pc := 37) dX0_drawLots_37 fX0_47 rfl rfl ?_
    refine ar_aload_n (i := 1) (pc := 40) dX0_drawLots_40 rfl rfl ?_
    refine ar_alen (pc := 41) dX0_drawLots_41 rfl ?_
    refine ar_min (pc := 42) dX0_drawLots_42 kX0_50 rfl rfl rfl rfl ?_
    
    by_cases hn0 : 0 < n
    · obtain ⟨m, rfl⟩ : ∃ m, n = m + 1 := ⟨n - 1, by omega⟩
      rw [show (if nI 8 < vBo (uL v (filI (m + 1))) then nI 8 else vBo (uL v (filI (m + 1)))) = nI (m + 1) by rw [show vBo (uL v (filI (m + 1))) = nI (m + 1) from hn, if_neg (nI_nlt (by omega) (by omega))]]
      refine ar_iconst (pc := 45) dX0_drawLots_45 q_iconst_1 ?_
      refine ar_isub (pc := 46) dX0_drawLots_46 ?_
      rw [nI_pred]
      refine ar_istore_n (i := 2) (pc := 47) dX0_drawLots_47 rfl (Nat.le_of_ble_eq_true rfl) rfl ?_
      have h := lX0_drawLots_48 h0 v (m + 1) hn h8 m (vX v) (filI (m + 1)) o3 o4 (by omega)
      exact h
    · have e0 : n = 0 := Nat.le_zero.mp (Nat.not_lt.mp hn0)
      subst e0
      rw [show (if nI 8 < vBo (uL v (filI 0)) then nI 8 else vBo (uL v (filI 0))) = 0 by rw [show vBo (uL v (filI 0)) = nI 0 from hn]; decide +kernel]
      refine ar_iconst (pc := 45) dX0_drawLots_45 q_iconst_1 ?_
      refine ar_isub (pc := 46) dX0_drawLots_46 ?_
      rw [show (0 : Int32) - 1 = -1 by decide +kernel]
      refine ar_istore_n (i := 2) (pc := 47) dX0_drawLots_47 rfl (Nat.le_of_ble_eq_true rfl) rfl ?_
      refine ar_iload_n (i := 2) (pc := 48) dX0_drawLots_48 rfl rfl ?_
      refine ar_iconst (pc := 49) dX0_drawLots_49 q_iconst_1 ?_
      refine ar_icmp_lt (pc := 50) (tgt := 93) dX0_drawLots_50 (by decide) (fun c50 => ?_) (fun c50 => absurd (show (-1 : Int32) < 1 by decide +kernel) c50)
      have h := lX0_drawLots_93 h0 (uL (uX v (vX v)) (filI 0)) 0 hn (Nat.zero_le _) (-1) o3 o4
      exact h
  | succ d ih =>
    intro k hk
    refine ar_iload_n (i := 2) (pc := 7) dX0_drawLots_7 rfl rfl ?_
    refine ar_aload_n (i := 1) (pc := 8) dX0_drawLots_8 rfl rfl ?_
    refine ar_alen (pc := 9) dX0_drawLots_9 rfl ?_
    refine ar_icmp_ge (pc := 10) (tgt := 36) dX0_drawLots_10 (by decide) (fun c10 => False.elim (by (simp (disch := omega) only [Int32.lt_iff_toInt_lt, Int32.le_iff_toInt_le, ← Int32.toInt_inj, ti_m6, ti_m1, ti_0, ti_1, ti_2, ti_3, ti_4, ti_5, ti_6, ti_7, ti_8, ti_9, ti_12, ti_100, ti_9999, ti_60, nI_toInt] at c10) <;> omega)) (fun c10 => ?_)
    refine ar_aload_n (i := 1) (pc := 13) dX0_drawLots_13 rfl rfl ?_
    refine ar_iload_n (i := 2) (pc := 14) dX0_drawLots_14 rfl rfl ?_
    refine ar_aload_n (i := 0) (pc := 15) dX0_drawLots_15 rfl rfl ?_
    refine ar_iload_n (i := 2) (pc := 16) dX0_drawLots_16 rfl rfl ?_
    refine ar_idV (pc := 17) dX0_drawLots_17 cal_X3_isBooth kX0_43 rfl (sX3_isBooth (uL v (mixF (filI n) (vL v) k)) n hn h8 _) rfl rfl rfl rfl rfl rfl rfl (fun r h1 hp => ?_)
    obtain ⟨⟨h17, rfl⟩ | ⟨h17, rfl⟩, rfl⟩ := hp
    · refine ⟨rfl, ?_⟩
      refine ar_if_eq (pc := 20) (tgt := 27) dX0_drawLots_20 (by decide) (fun c20 => absurd c20 (by decide)) (fun c20 => ?_)
      refine ar_iload_n (i := 2) (pc := 23) dX0_drawLots_23 rfl rfl ?_
      refine ar_goto (tgt := 29) (pc := 24) dX0_drawLots_24 (by decide) ?_
      refine ar_iast (pc := 29) dX0_drawLots_29 rfl (show k < 8 by omega) rfl ?_
      refine ar_iinc (pc := 30) dX0_drawLots_30 rfl (ni_inc _) (Nat.le_of_ble_eq_true rfl) rfl ?_
      refine ar_goto (tgt := 7) (pc := 33) dX0_drawLots_33 (by decide) ?_
      have ih' := ih (k + 1) (by omega)
      rw [st_L, uu_L, vu_L, mixF_v (show filI n k = nI k by rw [filI, if_pos (by (simp (disch := omega) only [Int32.lt_iff_toInt_lt, Int32.le_iff_toInt_le, ← Int32.toInt_inj, ti_m6, ti_m1, ti_0, ti_1, ti_2, ti_3, ti_4, ti_5, ti_6, ti_7, ti_8, ti_9, ti_12, ti_100, ti_9999, ti_60, nI_toInt] at h17); omega)])]
      exact ih'
    · refine ⟨rfl, ?_⟩
      refine ar_if_eq (pc := 20) (tgt := 27) dX0_drawLots_20 (by decide) (fun c20 => ?_) (fun c20 => absurd c20 (by decide))
      refine ar_bipush (pc := 27) dX0_drawLots_27 q_bipush_m6 ?_
      refine ar_iast (pc := 29) dX0_drawLots_29 rfl (show k < 8 by omega) rfl ?_
      refine ar_iinc (pc := 30) dX0_drawLots_30 rfl (ni_inc _) (Nat.le_of_ble_eq_true rfl) rfl ?_
      refine ar_goto (tgt := 7) (pc := 33) dX0_drawLots_33 (by decide) ?_
      have ih' := ih (k + 1) (by omega)
      rw [st_L, uu_L, vu_L, mixF_v (show filI n k = -6 by rw [filI, if_neg (fun z => h17 (by (simp (disch := omega) only [Int32.lt_iff_toInt_lt, Int32.le_iff_toInt_le, ← Int32.toInt_inj, ti_m6, ti_m1, ti_0, ti_1, ti_2, ti_3, ti_4, ti_5, ti_6, ti_7, ti_8, ti_9, ti_12, ti_100, ti_9999, ti_60, nI_toInt] at ⊢); omega))])]
      exact ih'
set_option maxHeartbeats 4000000 in
set_option maxRecDepth 100000 in
theorem sX0_drawLots (v : SV) (n : Nat) (hn : vBo v = nI n) (h8 : n ≤ 8) : am_Sp mX0_drawLots [.ref 2] (stH v) (am_vp (stH (dlV v n))) := by
  refine am_intro (by decide) (Nat.le_of_ble_eq_true rfl) ?_
  refine ar_aload_n (i := 0) (pc := 0) dX0_drawLots_0 rfl rfl ?_
  refine ar_getf (pc := 1) dX0_drawLots_1 fX0_39 rfl rfl ?_
  refine ar_astore_n (i := 1) (pc := 4) dX0_drawLots_4 rfl (Nat.le_of_ble_eq_true rfl) rfl ?_
  refine ar_iconst (pc := 5) dX0_drawLots_5 q_iconst_0 ?_
  refine ar_istore_n (i := 2) (pc := 6) dX0_drawLots_6 rfl (Nat.le_of_ble_eq_true rfl) rfl ?_
  have h := lX0_drawLots_7 (stH v) v n hn h8 none none 8 0 (by omega)
  rw [mixF_0] at h
  exact h
