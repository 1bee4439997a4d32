/-! the class Stream, and View without State -/
/-- people who walk along t: how many go on, the greatest height so far -/
def wk (t : Nat → Int32) (w s : Int32) : Nat → Int32 × Int32
  | 0 => (w, 0)
  | k + 1 => if (wk t w s k).2 < t k then ((wk t w s k).1 - (wk t w s k).1 * s / 100, t k) else wk t w s k
/-- the pitch of the k-th step; a left stream has l = 1 -/
def pi (l : Int32) (k : Nat) : Nat := if l = 0 then 11 - k else k
theorem pi_lt {l : Int32} {k : Nat} (h : k < 12) : pi l k < 12 := by unfold pi; split <;> omega
theorem pi_pi {l : Int32} {k : Nat} (h : k < 12) : pi l (pi l k) = k := by unfold pi; split <;> omega
def mixP (l : Int32) (F g : Nat → Int32) (k : Nat) : Nat → Int32 := fun j => if pi l j < k then F (pi l j) else g j
theorem mixP_s {l : Int32} {F g : Nat → Int32} {k j : Nat} (hk : k < 12) (hj : j < 12) : upd (mixP l F g k) (pi l k) (F k) j = mixP l F g (k + 1) j := by
  unfold upd mixP
  by_cases e : j = pi l k
  · subst e
    rw [if_pos rfl, pi_pi hk, if_pos (by omega)]
  · rw [if_neg e]
    have e2 : pi l j ≠ k := fun z => e (by rw [← z, pi_pi hj])
    by_cases e3 : pi l j < k
    · rw [if_pos e3, if_pos (by omega)]
    · rw [if_neg e3, if_neg (by omega)]
theorem mixP_all {l : Int32} {F g : Nat → Int32} {j : Nat} (hj : j < 12) : mixP l F g 12 j = F (pi l j) := by simp [mixP, pi_lt hj]
theorem mixP_0 (l : Int32) (F g : Nat → Int32) : mixP l F g 0 = g := by funext j; simp [mixP]
theorem sub11 {k : Nat} (h : k < 12) : (11 : Int32) - nI k = nI (11 - k) := by
  rw [show (11 : Int32) = nI 11 from rfl, pk_sub (by omega)]
def smB (p : Nat) (l : Int32) (ar ta : Nat → Int32) (sh ps : Int32) : am_H := [some (am_oj 3 [.int l, .ref (p + 1), .ref (p + 2), .int sh, .int ps]), some (am_ia 12 ar), some (am_ia 12 ta)]
def wkH (l : Int32) (ar ta : Nat → Int32) (sh ps : Int32) (tp : Nat → Int32) : am_H := none :: none :: (smB 2 l ar ta sh ps ++ [some (am_ia 12 tp)])
abbrev wkt (l : Int32) (tp : Nat → Int32) (w s : Int32) : Nat → Int32 × Int32 := wk (fun k => tp (pi l k)) w s
def arF (l : Int32) (tp : Nat → Int32) (w s : Int32) : Nat → Int32 := fun j => (wkt l tp w s (pi l j)).1
def taF (l : Int32) (tp : Nat → Int32) (w s : Int32) : Nat → Int32 := fun j => (wkt l tp w s (pi l j)).2
def paF (l : Int32) (tp : Nat → Int32) (w s : Int32) : Int32 := (wkt l tp w s 12).1
set_option maxHeartbeats 4000000 in
set_option maxRecDepth 100000 in
theorem lX4_walk (h0 : am_H) (l : Int32) (ar ta : Nat → Int32) (ps : Int32) (tp : Nat → Int32) (w s : Int32) : ∀ (d k : Nat), ∀ o7 : Option Value, k + d = 12 → am_RW mX4_walk h0 (am_vp (wkH l (arF l tp w s) (taF l tp w s) s (paF l tp w s) tp)) 0 0 14 [some (.ref 2), some (.ref 5), some (.int w), some (.int s), some (.int (wkt l tp w s k).1), some (.int (wkt l tp w s k).2), some (.int (nI k)), o7] [] (wkH l (mixP l (fun i => (wkt l tp w s i).1) ar (k)) (mixP l (fun i => (wkt l tp w s i).2) ta (k)) s ps tp) := by
  intro d
  induction d with
  | zero =>
    intro k o7 hk
    have e : k = 12 := by omega
    subst e
    refine ar_iload (pc := 14) dX4_walk_14 rfl ?_
    refine ar_bipush (pc := 16) dX4_walk_16 q_bipush_12 ?_
    refine ar_icmp_ge (pc := 18) (tgt := 98) dX4_walk_18 (by decide) (fun c18 => ?_) (fun c18 => False.elim (by (simp (disch := omega) only [Int32.lt_iff_toInt_lt, Int32.le_iff_toInt_le, ← Int32.toInt_inj, ti_m6, ti_m1, ti_0, ti_1, ti_2, ti_3, ti_4, ti_5, ti_6, ti_7, ti_8, ti_9, ti_12, ti_100, ti_9999, ti_60, nI_toInt] at c18) <;> omega))
    refine ar_cong (a := 3) (arF l tp w s) rfl (fun j hj => mixP_all hj) ?_
    refine ar_cong (a := 4) (taF l tp w s) rfl (fun j hj => mixP_all hj) ?_
    refine ar_aload_n (i := 0) (pc := 98) dX4_walk_98 rfl rfl ?_
    refine ar_iload (pc := 99) dX4_walk_99 rfl ?_
    refine ar_putf (pc := 101) dX4_walk_101 fX4_26 rfl (Nat.le_of_ble_eq_true rfl) (fun _ => ⟨rfl, rfl⟩) ?_
    exact ar_vret (pc := 104) dX4_walk_104 rfl rfl rfl ⟨rfl, rfl⟩
  | succ d ih =>
    intro k o7 hk
    refine ar_iload (pc := 14) dX4_walk_14 rfl ?_
    refine ar_bipush (pc := 16) dX4_walk_16 q_bipush_12 ?_
    refine ar_icmp_ge (pc := 18) (tgt := 98) dX4_walk_18 (by decide) (fun c18 => False.elim (by (simp (disch := omega) only [Int32.lt_iff_toInt_lt, Int32.le_iff_toInt_le, ← Int32.toInt_inj, ti_m6, ti_m1, ti_0, ti_1, ti_2, ti_3, ti_4, ti_5, ti_6, ti_7, ti_8, ti_9, ti_12, ti_100, ti_9999, ti_60, nI_toInt] at c18) <;> omega)) (fun c18 => ?_)
    refine ar_aload_n (i := 0) (pc := 21) dX4_walk_21 rfl rfl ?_
    refine ar_getf (pc := 22) dX4_walk_22 fX4_18 rfl rfl ?_
    refine ar_if_eq (pc := 25) (tgt := 33) dX4_walk_25 (by decide) (fun c25 => ?_) (fun c25 => ?_)
    · refine ar_bipush (pc := 33) dX4_walk_33 q_bipush_11 ?_
      refine ar_iload (pc := 35) dX4_walk_35 rfl ?_
      refine ar_isub (pc := 37) dX4_walk_37 ?_
      refine ar_topi (fun y37 e37 => ?_)
      have e7 : y37 = nI (pi l k) := by rw [e37]; rw [sub11 (by omega), pi, if_pos c25]
      clear e37
      subst e7
      refine ar_istore (pc := 38) dX4_walk_38 (Nat.le_of_ble_eq_true rfl) rfl ?_
      refine ar_aload_n (i := 0) (pc := 40) dX4_walk_40 rfl rfl ?_
      refine ar_getf (pc := 41) dX4_walk_41 fX4_9 rfl rfl ?_
      refine ar_iload (pc := 44) dX4_walk_44 rfl ?_
      refine ar_iload (pc := 46) dX4_walk_46 rfl ?_
      refine ar_iast (pc := 48) dX4_walk_48 rfl (pi_lt (show k < 12 by omega)) rfl ?_
      refine ar_aload_n (i := 0) (pc := 49) dX4_walk_49 rfl rfl ?_
      refine ar_getf (pc := 50) dX4_walk_50 fX4_15 rfl rfl ?_
      refine ar_iload (pc := 53) dX4_walk_53 rfl ?_
      refine ar_iload (pc := 55) dX4_walk_55 rfl ?_
      refine ar_iast (pc := 57) dX4_walk_57 rfl (pi_lt (show k < 12 by omega)) rfl ?_
      refine ar_cong (a := 3) (mixP l (fun i => (wkt l tp w s i).1) ar (k + 1)) rfl (fun j hj => mixP_s (F := fun i => (wkt l tp w s i).1) (show k < 12 by omega) hj) ?_
      refine ar_cong (a := 4) (mixP l (fun i => (wkt l tp w s i).2) ta (k + 1)) rfl (fun j hj => mixP_s (F := fun i => (wkt l tp w s i).2) (show k < 12 by omega) hj) ?_
      refine ar_iload (pc := 58) dX4_walk_58 rfl ?_
      refine ar_aload_n (i := 1) (pc := 60) dX4_walk_60 rfl rfl ?_
      refine ar_alen (pc := 61) dX4_walk_61 rfl ?_
      refine ar_icmp_ge (pc := 62) (tgt := 92) dX4_walk_62 (by decide) (fun c62 => False.elim (by have hp := pi_lt (l := l) (show k < 12 by omega); (simp (disch := omega) only [Int32.lt_iff_toInt_lt, Int32.le_iff_toInt_le, ← Int32.toInt_inj, ti_m6, ti_m1, ti_0, ti_1, ti_2, ti_3, ti_4, ti_5, ti_6, ti_7, ti_8, ti_9, ti_12, ti_100, ti_9999, ti_60, nI_toInt, show nI (pi l k) = nI (pi l k) from rfl] at c62) <;> omega)) (fun c62 => ?_)
      refine ar_aload_n (i := 1) (pc := 65) dX4_walk_65 rfl rfl ?_
      refine ar_iload (pc := 66) dX4_walk_66 rfl ?_
      refine ar_iald (pc := 68) dX4_walk_68 rfl (pi_lt (show k < 12 by omega)) rfl ?_
      refine ar_iload (pc := 69) dX4_walk_69 rfl ?_
      refine ar_icmp_le (pc := 71) (tgt := 92) dX4_walk_71 (by decide) (fun c71 => ?_) (fun c71 => ?_)
      · refine ar_iinc (pc := 92) dX4_walk_92 rfl (ni_inc _) (Nat.le_of_ble_eq_true rfl) rfl ?_
        refine ar_goto (tgt := 14) (pc := 95) dX4_walk_95 (by decide) ?_
        have ih' := ih (k + 1) (some (.int (nI (pi l k)))) (by omega)
        first
          | (have ew : wkt l tp w s (k + 1) = wkt l tp w s k := by
               rw [wkt, wk, if_neg (Int32.not_lt.mpr c71)]
             rw [ew] at ih'
             exact ih')
          | (have ew : wkt l tp w s (k + 1) = (y83, tp (pi l k)) := by
               rw [wkt, wk, if_pos (Int32.not_le.mp c71), e83]
             rw [ew] at ih'
             exact ih')
      · refine ar_iload (pc := 74) dX4_walk_74 rfl ?_
        refine ar_iload (pc := 76) dX4_walk_76 rfl ?_
        refine ar_iload_n (i := 3) (pc := 78) dX4_walk_78 rfl rfl ?_
        refine ar_imul (pc := 79) dX4_walk_79 ?_
        refine ar_bipush (pc := 80) dX4_walk_80 q_bipush_100 ?_
        refine ar_idiv (pc := 82) dX4_walk_82 (by decide) ?_
        refine ar_isub (pc := 83) dX4_walk_83 ?_
        refine ar_topi (fun y83 e83 => ?_)
        refine ar_istore (pc := 84) dX4_walk_84 (Nat.le_of_ble_eq_true rfl) rfl ?_
        refine ar_aload_n (i := 1) (pc := 86) dX4_walk_86 rfl rfl ?_
        refine ar_iload (pc := 87) dX4_walk_87 rfl ?_
        refine ar_iald (pc := 89) dX4_walk_89 rfl (pi_lt (show k < 12 by omega)) rfl ?_
        refine ar_istore (pc := 90) dX4_walk_90 (Nat.le_of_ble_eq_true rfl) rfl ?_
        refine ar_iinc (pc := 92) dX4_walk_92 rfl (ni_inc _) (Nat.le_of_ble_eq_true rfl) rfl ?_
        refine ar_goto (tgt := 14) (pc := 95) dX4_walk_95 (by decide) ?_
        have ih' := ih (k + 1) (some (.int (nI (pi l k)))) (by omega)
        first
          | (have ew : wkt l tp w s (k + 1) = wkt l tp w s k := by
               rw [wkt, wk, if_neg (Int32.not_lt.mpr c71)]
             rw [ew] at ih'
             exact ih')
          | (have ew : wkt l tp w s (k + 1) = (y83, tp (pi l k)) := by
               rw [wkt, wk, if_pos (Int32.not_le.mp c71), e83]
             rw [ew] at ih'
             exact ih')
    · refine ar_iload (pc := 28) dX4_walk_28 rfl ?_
      refine ar_topi (fun y28 e28 => ?_)
      have e7 : y28 = nI (pi l k) := by rw [e28]; rw [pi, if_neg c25]
      clear e28
      subst e7
      refine ar_goto (tgt := 38) (pc := 30) dX4_walk_30 (by decide) ?_
      refine ar_istore (pc := 38) dX4_walk_38 (Nat.le_of_ble_eq_true rfl) rfl ?_
      refine ar_aload_n (i := 0) (pc := 40) dX4_walk_40 rfl rfl ?_
      refine ar_getf (pc := 41) dX4_walk_41 fX4_9 rfl rfl ?_
      refine ar_iload (pc := 44) dX4_walk_44 rfl ?_
      refine ar_iload (pc := 46) dX4_walk_46 rfl ?_
      refine ar_iast (pc := 48) dX4_walk_48 rfl (pi_lt (show k < 12 by omega)) rfl ?_
      refine ar_aload_n (i := 0) (pc := 49) dX4_walk_49 rfl rfl ?_
      refine ar_getf (pc := 50) dX4_walk_50 fX4_15 rfl rfl ?_
      refine ar_iload (pc := 53) dX4_walk_53 rfl ?_
      refine ar_iload (pc := 55) dX4_walk_55 rfl ?_
      refine ar_iast (pc := 57) dX4_walk_57 rfl (pi_lt (show k < 12 by omega)) rfl ?_
      refine ar_cong (a := 3) (mixP l (fun i => (wkt l tp w s i).1) ar (k + 1)) rfl (fun j hj => mixP_s (F := fun i => (wkt l tp w s i).1) (show k < 12 by omega) hj) ?_
      refine ar_cong (a := 4) (mixP l (fun i => (wkt l tp w s i).2) ta (k + 1)) rfl (fun j hj => mixP_s (F := fun i => (wkt l tp w s i).2) (show k < 12 by omega) hj) ?_
      refine ar_iload (pc := 58) dX4_walk_58 rfl ?_
      refine ar_aload_n (i := 1) (pc := 60) dX4_walk_60 rfl rfl ?_
      refine ar_alen (pc := 61) dX4_walk_61 rfl ?_
      refine ar_icmp_ge (pc := 62) (tgt := 92) dX4_walk_62 (by decide) (fun c62 => False.elim (by have hp := pi_lt (l := l) (show k < 12 by omega); (simp (disch := omega) only [Int32.lt_iff_toInt_lt, Int32.le_iff_toInt_le, ← Int32.toInt_inj, ti_m6, ti_m1, ti_0, ti_1, ti_2, ti_3, ti_4, ti_5, ti_6, ti_7, ti_8, ti_9, ti_12, ti_100, ti_9999, ti_60, nI_toInt, show nI (pi l k) = nI (pi l k) from rfl] at c62) <;> omega)) (fun c62 => ?_)
      refine ar_aload_n (i := 1) (pc := 65) dX4_walk_65 rfl rfl ?_
      refine ar_iload (pc := 66) dX4_walk_66 rfl ?_
      refine ar_iald (pc := 68) dX4_walk_68 rfl (pi_lt (show k < 12 by omega)) rfl ?_
      refine ar_iload (pc := 69) dX4_walk_69 rfl ?_
      refine ar_icmp_le (pc := 71) (tgt := 92) dX4_walk_71 (by decide) (fun c71 => ?_) (fun c71 => ?_)
      · refine ar_iinc (pc := 92) dX4_walk_92 rfl (ni_inc _) (Nat.le_of_ble_eq_true rfl) rfl ?_
        refine ar_goto (tgt := 14) (pc := 95) dX4_walk_95 (by decide) ?_
        have ih' := ih (k + 1) (some (.int (nI (pi l k)))) (by omega)
        first
          | (have ew : wkt l tp w s (k + 1) = wkt l tp w s k := by
               rw [wkt, wk, if_neg (Int32.not_lt.mpr c71)]
             rw [ew] at ih'
             exact ih')
          | (have ew : wkt l tp w s (k + 1) = (y83, tp (pi l k)) := by
               rw [wkt, wk, if_pos (Int32.not_le.mp c71), e83]
             rw [ew] at ih'
             exact ih')
      · refine ar_iload (pc := 74) dX4_walk_74 rfl ?_
        refine ar_iload (pc := 76) dX4_walk_76 rfl ?_
        refine ar_iload_n (i := 3) (pc := 78) dX4_walk_78 rfl rfl ?_
        refine ar_imul (pc := 79) dX4_walk_79 ?_
        refine ar_bipush (pc := 80) dX4_walk_80 q_bipush_100 ?_
        refine ar_idiv (pc := 82) dX4_walk_82 (by decide) ?_
        refine ar_isub (pc := 83) dX4_walk_83 ?_
        refine ar_topi (fun y83 e83 => ?_)
        refine ar_istore (pc := 84) dX4_walk_84 (Nat.le_of_ble_eq_true rfl) rfl ?_
        refine ar_aload_n (i := 1) (pc := 86) dX4_walk_86 rfl rfl ?_
        refine ar_iload (pc := 87) dX4_walk_87 rfl ?_
        refine ar_iald (pc := 89) dX4_walk_89 rfl (pi_lt (show k < 12 by omega)) rfl ?_
        refine ar_istore (pc := 90) dX4_walk_90 (Nat.le_of_ble_eq_true rfl) rfl ?_
        refine ar_iinc (pc := 92) dX4_walk_92 rfl (ni_inc _) (Nat.le_of_ble_eq_true rfl) rfl ?_
        refine ar_goto (tgt := 14) (pc := 95) dX4_walk_95 (by decide) ?_
        have ih' := ih (k + 1) (some (.int (nI (pi l k)))) (by omega)
        first
          | (have ew : wkt l tp w s (k + 1) = wkt l tp w s k := by
               rw [wkt, wk, if_neg (Int32.not_lt.mpr c71)]
             rw [ew] at ih'
             exact ih')
          | (have ew : wkt l tp w s (k + 1) = (y83, tp (pi l k)) := by
               rw [wkt, wk, if_pos (Int32.not_le.mp c71), e83]
             rw [ew] at ih'
             exact ih')

set_option maxHeartbeats 4000000 in
set_option maxRecDepth 100000 in
theorem sX4_walk (l : Int32) (ar ta : Nat → Int32) (sh ps : Int32) (tp : Nat → Int32) (w s : Int32) : am_Sp mX4_walk [.ref 2, .ref 5, .int w, .int s] (wkH l ar ta sh ps tp) (am_vp (wkH l (arF l tp w s) (taF l tp w s) s (paF l tp w s) tp)) := by
  refine am_intro (by decide) (Nat.le_of_ble_eq_true rfl) ?_
  refine ar_aload_n (i := 0) (pc := 0) dX4_walk_0 rfl rfl ?_
  refine ar_iload_n (i := 3) (pc := 1) dX4_walk_1 rfl rfl ?_
  refine ar_putf (pc := 2) dX4_walk_2 fX4_22 rfl (Nat.le_of_ble_eq_true rfl) (fun _ => ⟨rfl, rfl⟩) ?_
  refine ar_iload_n (i := 2) (pc := 5) dX4_walk_5 rfl rfl ?_
  refine ar_istore (pc := 6) dX4_walk_6 (Nat.le_of_ble_eq_true rfl) rfl ?_
  refine ar_iconst (pc := 8) dX4_walk_8 q_iconst_0 ?_
  refine ar_istore (pc := 9) dX4_walk_9 (Nat.le_of_ble_eq_true rfl) rfl ?_
  refine ar_iconst (pc := 11) dX4_walk_11 q_iconst_0 ?_
  refine ar_istore (pc := 12) dX4_walk_12 (Nat.le_of_ble_eq_true rfl) rfl ?_
  have h := lX4_walk (wkH l ar ta sh ps tp) l ar ta ps tp w s 12 0 none (by omega)
  rw [mixP_0, mixP_0] at h
  exact h

def smH (l : Int32) (ar ta : Nat → Int32) (sh ps : Int32) : am_H := none :: none :: smB 2 l ar ta sh ps
abbrev inP (p : Int32) : Prop := 0 ≤ p.toInt ∧ p.toInt < 12
def stpV (ar ta : Nat → Int32) (sh p h : Int32) : Int32 := if inP p ∧ ta (ix p) < h then ar (ix p) * sh / 100 else 0
set_option maxHeartbeats 4000000 in
set_option maxRecDepth 100000 in
theorem sX4_isSeen (l : Int32) (ar ta : Nat → Int32) (sh ps : Int32) (p h : Int32) : am_Sp mX4_isSeen [.ref 2, .int p, .int h] (smH l ar ta sh ps) (am_bp (inP p ∧ ta (ix p) < h) (smH l ar ta sh ps)) := by
  refine am_intro (by decide) (Nat.le_of_ble_eq_true rfl) ?_
  refine ar_iload_n (i := 1) (pc := 0) dX4_isSeen_0 rfl rfl ?_
  refine ar_idSN (pc := 1) dX4_isSeen_1 cal_X6_isPitch kX4_29 rfl (sX6_isPitchB _ _) rfl rfl rfl rfl rfl (fun r h1 hp => ?_)
  obtain ⟨⟨h1, rfl⟩ | ⟨h1, rfl⟩, rfl⟩ := hp
  · refine ⟨rfl, ?_⟩
    refine ar_if_eq (pc := 4) (tgt := 21) dX4_isSeen_4 (by decide) (fun c4 => absurd c4 (by decide)) (fun c4 => ?_)
    refine ar_iload_n (i := 2) (pc := 7) dX4_isSeen_7 rfl rfl ?_
    refine ar_aload_n (i := 0) (pc := 8) dX4_isSeen_8 rfl rfl ?_
    refine ar_getf (pc := 9) dX4_isSeen_9 fX4_15 rfl rfl ?_
    refine ar_iload_n (i := 1) (pc := 12) dX4_isSeen_12 rfl rfl ?_
    refine ar_iald (pc := 13) dX4_isSeen_13 rfl (show ix p < 12 by unfold ix; omega) (ix_eq h1.1) ?_
    refine ar_icmp_le (pc := 14) (tgt := 21) dX4_isSeen_14 (by decide) (fun c14 => ?_) (fun c14 => ?_)
    · refine ar_iconst (pc := 21) dX4_isSeen_21 q_iconst_0 ?_
      first
        | exact ar_zret (pc := 22) dX4_isSeen_22 rfl (Or.inr rfl) rfl rfl ⟨Or.inl ⟨⟨h1, Int32.not_le.mp c14⟩, rfl⟩, rfl⟩
        | exact ar_zret (pc := 22) dX4_isSeen_22 rfl (Or.inl rfl) rfl rfl ⟨Or.inr ⟨(fun z => by first | exact h1 z.1 | exact Int32.not_lt.mpr c14 z.2), rfl⟩, rfl⟩
    · refine ar_iconst (pc := 17) dX4_isSeen_17 q_iconst_1 ?_
      refine ar_goto (tgt := 22) (pc := 18) dX4_isSeen_18 (by decide) ?_
      first
        | exact ar_zret (pc := 22) dX4_isSeen_22 rfl (Or.inr rfl) rfl rfl ⟨Or.inl ⟨⟨h1, Int32.not_le.mp c14⟩, rfl⟩, rfl⟩
        | exact ar_zret (pc := 22) dX4_isSeen_22 rfl (Or.inl rfl) rfl rfl ⟨Or.inr ⟨(fun z => by first | exact h1 z.1 | exact Int32.not_lt.mpr c14 z.2), rfl⟩, rfl⟩
  · refine ⟨rfl, ?_⟩
    refine ar_if_eq (pc := 4) (tgt := 21) dX4_isSeen_4 (by decide) (fun c4 => ?_) (fun c4 => absurd c4 (by decide))
    refine ar_iconst (pc := 21) dX4_isSeen_21 q_iconst_0 ?_
    first
      | exact ar_zret (pc := 22) dX4_isSeen_22 rfl (Or.inr rfl) rfl rfl ⟨Or.inl ⟨⟨h1, Int32.not_le.mp c14⟩, rfl⟩, rfl⟩
      | exact ar_zret (pc := 22) dX4_isSeen_22 rfl (Or.inl rfl) rfl rfl ⟨Or.inr ⟨(fun z => by first | exact h1 z.1 | exact Int32.not_lt.mpr c14 z.2), rfl⟩, rfl⟩

set_option maxHeartbeats 4000000 in
set_option maxRecDepth 100000 in
theorem sX4_stopping (l : Int32) (ar ta : Nat → Int32) (sh ps : Int32) (p h : Int32) : am_Sp mX4_stopping [.ref 2, .int p, .int h] (smH l ar ta sh ps) (am_rp (stpV ar ta sh p h) (smH l ar ta sh ps)) := by
  refine am_intro (by decide) (Nat.le_of_ble_eq_true rfl) ?_
  refine ar_aload_n (i := 0) (pc := 0) dX4_stopping_0 rfl rfl ?_
  refine ar_iload_n (i := 1) (pc := 1) dX4_stopping_1 rfl rfl ?_
  refine ar_iload_n (i := 2) (pc := 2) dX4_stopping_2 rfl rfl ?_
  refine ar_idV (pc := 3) dX4_stopping_3 cal_X4_isSeen kX4_33 rfl (sX4_isSeen l ar ta sh ps p h) rfl rfl rfl rfl rfl rfl rfl (fun r h1 hp => ?_)
  obtain ⟨⟨h3, rfl⟩ | ⟨h3, rfl⟩, rfl⟩ := hp
  · refine ⟨rfl, ?_⟩
    refine ar_if_eq (pc := 6) (tgt := 26) dX4_stopping_6 (by decide) (fun c6 => absurd c6 (by decide)) (fun c6 => ?_)
    refine ar_aload_n (i := 0) (pc := 9) dX4_stopping_9 rfl rfl ?_
    refine ar_getf (pc := 10) dX4_stopping_10 fX4_9 rfl rfl ?_
    refine ar_iload_n (i := 1) (pc := 13) dX4_stopping_13 rfl rfl ?_
    refine ar_iald (pc := 14) dX4_stopping_14 rfl (show ix p < 12 by have := h3.1; unfold ix; omega) (ix_eq h3.1.1) ?_
    refine ar_aload_n (i := 0) (pc := 15) dX4_stopping_15 rfl rfl ?_
    refine ar_getf (pc := 16) dX4_stopping_16 fX4_22 rfl rfl ?_
    refine ar_imul (pc := 19) dX4_stopping_19 ?_
    refine ar_bipush (pc := 20) dX4_stopping_20 q_bipush_100 ?_
    refine ar_idiv (pc := 22) dX4_stopping_22 (by decide +kernel) ?_
    refine ar_goto (tgt := 27) (pc := 23) dX4_stopping_23 (by decide) ?_
    exact ar_iret (pc := 27) dX4_stopping_27 rfl rfl rfl ⟨by first | rw [stpV, if_pos h3] | rw [stpV, if_neg h3], rfl⟩
  · refine ⟨rfl, ?_⟩
    refine ar_if_eq (pc := 6) (tgt := 26) dX4_stopping_6 (by decide) (fun c6 => ?_) (fun c6 => absurd c6 (by decide))
    refine ar_iconst (pc := 26) dX4_stopping_26 q_iconst_0 ?_
    exact ar_iret (pc := 27) dX4_stopping_27 rfl rfl rfl ⟨by first | rw [stpV, if_pos h3] | rw [stpV, if_neg h3], rfl⟩

def vwB (p : Nat) (tp : Nat → Int32) (la lt : Nat → Int32) (ls lp : Int32) (ra rt : Nat → Int32) (rs rp : Int32) : am_H :=
  some (am_oj 4 [.ref (p + 1), .ref (p + 2), .ref (p + 5)]) :: some (am_ia 12 tp) :: (smB (p + 2) 1 la lt ls lp ++ smB (p + 5) 0 ra rt rs rp)
def vwH (tp : Nat → Int32) (la lt : Nat → Int32) (ls lp : Int32) (ra rt : Nat → Int32) (rs rp : Int32) : am_H := none :: none :: vwB 2 tp la lt ls lp ra rt rs rp
set_option maxHeartbeats 4000000 in
set_option maxRecDepth 100000 in
theorem lX5_clear (h0 : am_H) (tp : Nat → Int32) (la lt : Nat → Int32) (ls lp : Int32) (ra rt : Nat → Int32) (rs rp : Int32) : ∀ (d k : Nat), k + d = 12 → am_RW mX5_clear h0 (am_vp (vwH (fun _ => 0) la lt ls lp ra rt rs rp)) 0 0 2 [some (.ref 2), some (.int (nI k))] [] (vwH (mixF (fun _ => 0) tp k) la lt ls lp ra rt rs rp) := by
  intro d
  induction d with
  | zero =>
    intro k hk
    have e : k = 12 := by omega
    subst e
    refine ar_iload_n (i := 1) (pc := 2) dX5_clear_2 rfl rfl ?_
    refine ar_aload_n (i := 0) (pc := 3) dX5_clear_3 rfl rfl ?_
    refine ar_getf (pc := 4) dX5_clear_4 fX5_9 rfl rfl ?_
    refine ar_alen (pc := 7) dX5_clear_7 rfl ?_
    refine ar_icmp_ge (pc := 8) (tgt := 24) dX5_clear_8 (by decide) (fun c8 => ?_) (fun c8 => False.elim (by (simp (disch := omega) only [Int32.lt_iff_toInt_lt, Int32.le_iff_toInt_le, ← Int32.toInt_inj, ti_m6, ti_m1, ti_0, ti_1, ti_2, ti_3, ti_4, ti_5, ti_6, ti_7, ti_8, ti_9, ti_12, ti_100, ti_9999, ti_60, nI_toInt] at c8) <;> omega))
    refine ar_cong (a := 3) (fun _ => 0) rfl (fun j hj => by simp only [mixF, hj, if_true]) ?_
    exact ar_vret (pc := 24) dX5_clear_24 rfl rfl rfl ⟨rfl, rfl⟩
  | succ d ih =>
    intro k hk
    refine ar_iload_n (i := 1) (pc := 2) dX5_clear_2 rfl rfl ?_
    refine ar_aload_n (i := 0) (pc := 3) dX5_clear_3 rfl rfl ?_
    refine ar_getf (pc := 4) dX5_clear_4 fX5_9 rfl rfl ?_
    refine ar_alen (pc := 7) dX5_clear_7 rfl ?_
    refine ar_icmp_ge (pc := 8) (tgt := 24) dX5_clear_8 (by decide) (fun c8 => False.elim (by (simp (disch := omega) only [Int32.lt_iff_toInt_lt, Int32.le_iff_toInt_le, ← Int32.toInt_inj, ti_m6, ti_m1, ti_0, ti_1, ti_2, ti_3, ti_4, ti_5, ti_6, ti_7, ti_8, ti_9, ti_12, ti_100, ti_9999, ti_60, nI_toInt] at c8) <;> omega)) (fun c8 => ?_)
    refine ar_aload_n (i := 0) (pc := 11) dX5_clear_11 rfl rfl ?_
    refine ar_getf (pc := 12) dX5_clear_12 fX5_9 rfl rfl ?_
    refine ar_iload_n (i := 1) (pc := 15) dX5_clear_15 rfl rfl ?_
    refine ar_iconst (pc := 16) dX5_clear_16 q_iconst_0 ?_
    refine ar_iast (pc := 17) dX5_clear_17 rfl (show k < 12 by omega) rfl ?_
    refine ar_iinc (pc := 18) dX5_clear_18 rfl (ni_inc _) (Nat.le_of_ble_eq_true rfl) rfl ?_
    refine ar_goto (tgt := 2) (pc := 21) dX5_clear_21 (by decide) ?_
    have ih' := ih (k + 1) (by omega)
    rw [← mixF_c] at ih'
    exact ih'

set_option maxHeartbeats 4000000 in
set_option maxRecDepth 100000 in
theorem sX5_clear (tp : Nat → Int32) (la lt : Nat → Int32) (ls lp : Int32) (ra rt : Nat → Int32) (rs rp : Int32) : am_Sp mX5_clear [.ref 2] (vwH tp la lt ls lp ra rt rs rp) (am_vp (vwH (fun _ => 0) la lt ls lp ra rt rs rp)) := by
  refine am_intro (by decide) (Nat.le_of_ble_eq_true rfl) ?_
  refine ar_iconst (pc := 0) dX5_clear_0 q_iconst_0 ?_
  refine ar_istore_n (i := 1) (pc := 1) dX5_clear_1 rfl (Nat.le_of_ble_eq_true rfl) rfl ?_
  have h := lX5_clear (vwH tp la lt ls lp ra rt rs rp) tp la lt ls lp ra rt rs rp 12 0 (by omega)
  rw [mixF_0] at h
  exact h

def rsT (tp : Nat → Int32) (p h : Int32) : Nat → Int32 := if inP p then upd tp (ix p) h else tp
set_option maxHeartbeats 4000000 in
set_option maxRecDepth 100000 in
theorem sX5_raise (tp : Nat → Int32) (la lt : Nat → Int32) (ls lp : Int32) (ra rt : Nat → Int32) (rs rp : Int32) (p h : Int32) : am_Sp mX5_raise [.ref 2, .int p, .int h] (vwH tp la lt ls lp ra rt rs rp) (am_vp (vwH (rsT tp p h) la lt ls lp ra rt rs rp)) := by
  refine am_intro (by decide) (Nat.le_of_ble_eq_true rfl) ?_
  refine ar_iload_n (i := 1) (pc := 0) dX5_raise_0 rfl rfl ?_
  refine ar_idSN (pc := 1) dX5_raise_1 cal_X6_isPitch kX5_50 rfl (sX6_isPitchB _ _) rfl rfl rfl rfl rfl (fun r h1 hp => ?_)
  obtain ⟨⟨h1, rfl⟩ | ⟨h1, rfl⟩, rfl⟩ := hp
  · refine ⟨rfl, ?_⟩
    refine ar_if_eq (pc := 4) (tgt := 14) dX5_raise_4 (by decide) (fun c4 => absurd c4 (by decide)) (fun c4 => ?_)
    refine ar_aload_n (i := 0) (pc := 7) dX5_raise_7 rfl rfl ?_
    refine ar_getf (pc := 8) dX5_raise_8 fX5_9 rfl rfl ?_
    refine ar_iload_n (i := 1) (pc := 11) dX5_raise_11 rfl rfl ?_
    refine ar_iload_n (i := 2) (pc := 12) dX5_raise_12 rfl rfl ?_
    refine ar_iast (pc := 13) dX5_raise_13 rfl (show ix p < 12 by unfold ix; omega) (ix_eq h1.1) ?_
    exact ar_vret (pc := 14) dX5_raise_14 rfl rfl rfl ⟨rfl, by first | (rw [rsT, if_pos h1]; rfl) | (rw [rsT, if_neg h1])⟩
  · refine ⟨rfl, ?_⟩
    refine ar_if_eq (pc := 4) (tgt := 14) dX5_raise_4 (by decide) (fun c4 => ?_) (fun c4 => absurd c4 (by decide))
    exact ar_vret (pc := 14) dX5_raise_14 rfl rfl rfl ⟨rfl, by first | (rw [rsT, if_pos h1]; rfl) | (rw [rsT, if_neg h1])⟩

theorem okmL : am_okmu [0, 1, 4, 5, 6] [none, none, some true, some true, some true] = true := by decide +kernel
theorem okmR : am_okmu [0, 1, 7, 8, 9] [none, none, some true, some true, some true] = true := by decide +kernel
set_option maxHeartbeats 4000000 in
set_option maxRecDepth 100000 in
theorem sX5_crowdAt (tp : Nat → Int32) (la lt : Nat → Int32) (ls lp : Int32) (ra rt : Nat → Int32) (rs rp : Int32) (p h : Int32) : am_Sp mX5_crowdAt [.ref 2, .int p, .int h] (vwH tp la lt ls lp ra rt rs rp) (am_rp (stpV la lt ls p h + stpV ra rt rs p h) (vwH tp la lt ls lp ra rt rs rp)) := by
  refine am_intro (by decide) (Nat.le_of_ble_eq_true rfl) ?_
  refine ar_aload_n (i := 0) (pc := 0) dX5_crowdAt_0 rfl rfl ?_
  refine ar_getf (pc := 1) dX5_crowdAt_1 fX5_20 rfl rfl ?_
  refine ar_iload_n (i := 1) (pc := 4) dX5_crowdAt_4 rfl rfl ?_
  refine ar_iload_n (i := 2) (pc := 5) dX5_crowdAt_5 rfl rfl ?_
  refine ar_mc (pc := 6) (l := [0, 1, 4, 5, 6]) (ar_rV dX5_crowdAt_6 cal_X4_stopping kX5_61 rfl (sX4_stopping 1 la lt ls lp p h) rfl rfl rfl rfl rfl okmL rfl rfl) okmL rfl rfl rfl rfl (fun r h1 hp => ?_)
  obtain ⟨rfl, rfl⟩ := hp
  refine ⟨rfl, ?_⟩
  refine ar_aload_n (i := 0) (pc := 9) dX5_crowdAt_9 rfl rfl ?_
  refine ar_getf (pc := 10) dX5_crowdAt_10 fX5_24 rfl rfl ?_
  refine ar_iload_n (i := 1) (pc := 13) dX5_crowdAt_13 rfl rfl ?_
  refine ar_iload_n (i := 2) (pc := 14) dX5_crowdAt_14 rfl rfl ?_
  refine ar_mc (pc := 15) (l := [0, 1, 7, 8, 9]) (ar_rV dX5_crowdAt_15 cal_X4_stopping kX5_61 rfl (sX4_stopping 0 ra rt rs rp p h) rfl rfl rfl rfl rfl okmR rfl rfl) okmR rfl rfl rfl rfl (fun r h1 hp => ?_)
  obtain ⟨rfl, rfl⟩ := hp
  refine ⟨rfl, ?_⟩
  refine ar_iadd (pc := 18) dX5_crowdAt_18 ?_
  exact ar_iret (pc := 19) dX5_crowdAt_19 rfl rfl rfl ⟨rfl, rfl⟩

set_option maxHeartbeats 4000000 in
set_option maxRecDepth 100000 in
theorem sX5_streamFrom (tp : Nat → Int32) (la lt : Nat → Int32) (ls lp : Int32) (ra rt : Nat → Int32) (rs rp : Int32) (b : Int32) : am_Sp mX5_streamFrom [.ref 2, .int b] (vwH tp la lt ls lp ra rt rs rp) (fun r h1 => r = some (.ref (if b = 0 then 7 else 4)) ∧ h1 = vwH tp la lt ls lp ra rt rs rp) := by
  refine am_intro (by decide) (Nat.le_of_ble_eq_true rfl) ?_
  refine ar_iload_n (i := 1) (pc := 0) dX5_streamFrom_0 rfl rfl ?_
  refine ar_if_eq (pc := 1) (tgt := 11) dX5_streamFrom_1 (by decide) (fun c1 => ?_) (fun c1 => ?_)
  · refine ar_aload_n (i := 0) (pc := 11) dX5_streamFrom_11 rfl rfl ?_
    refine ar_getf (pc := 12) dX5_streamFrom_12 fX5_24 rfl rfl ?_
    exact ar_aret (pc := 15) dX5_streamFrom_15 rfl rfl rfl ⟨by first | rw [if_pos c1] | rw [if_neg c1], rfl⟩
  · refine ar_aload_n (i := 0) (pc := 4) dX5_streamFrom_4 rfl rfl ?_
    refine ar_getf (pc := 5) dX5_streamFrom_5 fX5_20 rfl rfl ?_
    refine ar_goto (tgt := 15) (pc := 8) dX5_streamFrom_8 (by decide) ?_
    exact ar_aret (pc := 15) dX5_streamFrom_15 rfl rfl rfl ⟨by first | rw [if_pos c1] | rw [if_neg c1], rfl⟩

def dst (o j : Nat) : Nat := if o < j then j - o else o - j
theorem abs_dst {o j : Nat} (ho : o < 12) (hj : j < 12) : (if 0 ≤ nI o - nI j then nI o - nI j else 0 - (nI o - nI j)) = nI (dst o j) := by
  have : ∀ o, o < 12 → ∀ j, j < 12 → (if 0 ≤ nI o - nI j then nI o - nI j else 0 - (nI o - nI j)) = nI (dst o j) := by decide +kernel
  exact this o ho j hj
abbrev opP (tp : Nat → Int32) (j : Nat) (g : Int32) : Prop := ∀ o, o < 12 → ¬ (0 < tp o ∧ nI (dst o j) ≤ g)
set_option maxHeartbeats 4000000 in
set_option maxRecDepth 100000 in
theorem lX5_isOpen (h0 : am_H) (tp : Nat → Int32) (la lt : Nat → Int32) (ls lp : Int32) (ra rt : Nat → Int32) (rs rp : Int32) {j : Nat} (hj : j < 12) (g : Int32) : ∀ (d k : Nat), k + d = 12 → (∀ o, o < k → ¬ (0 < tp o ∧ nI (dst o j) ≤ g)) → am_RW mX5_isOpen h0 (am_bp (opP tp j g) (vwH tp la lt ls lp ra rt rs rp)) 0 0 2 [some (.ref 2), some (.int (nI j)), some (.int g), some (.int (nI k))] [] (vwH tp la lt ls lp ra rt rs rp) := by
  intro d
  induction d with
  | zero =>
    intro k hk hq
    have e : k = 12 := by omega
    subst e
    refine ar_iload_n (i := 3) (pc := 2) dX5_isOpen_2 rfl rfl ?_
    refine ar_aload_n (i := 0) (pc := 3) dX5_isOpen_3 rfl rfl ?_
    refine ar_getf (pc := 4) dX5_isOpen_4 fX5_9 rfl rfl ?_
    refine ar_alen (pc := 7) dX5_isOpen_7 rfl ?_
    refine ar_icmp_ge (pc := 8) (tgt := 38) dX5_isOpen_8 (by decide) (fun c8 => ?_) (fun c8 => False.elim (by (simp (disch := omega) only [Int32.lt_iff_toInt_lt, Int32.le_iff_toInt_le, ← Int32.toInt_inj, ti_m6, ti_m1, ti_0, ti_1, ti_2, ti_3, ti_4, ti_5, ti_6, ti_7, ti_8, ti_9, ti_12, ti_100, ti_9999, ti_60, nI_toInt] at c8) <;> omega))
    refine ar_iconst (pc := 38) dX5_isOpen_38 q_iconst_1 ?_
    first
      | exact ar_zret (pc := 39) dX5_isOpen_39 rfl (Or.inr rfl) rfl rfl ⟨Or.inl ⟨hq, rfl⟩, rfl⟩
      | exact ar_zret (pc := 39) dX5_isOpen_39 rfl (Or.inl rfl) rfl rfl ⟨Or.inr ⟨(hq.elim), rfl⟩, rfl⟩
  | succ d ih =>
    intro k hk hq
    refine ar_iload_n (i := 3) (pc := 2) dX5_isOpen_2 rfl rfl ?_
    refine ar_aload_n (i := 0) (pc := 3) dX5_isOpen_3 rfl rfl ?_
    refine ar_getf (pc := 4) dX5_isOpen_4 fX5_9 rfl rfl ?_
    refine ar_alen (pc := 7) dX5_isOpen_7 rfl ?_
    refine ar_icmp_ge (pc := 8) (tgt := 38) dX5_isOpen_8 (by decide) (fun c8 => False.elim (by (simp (disch := omega) only [Int32.lt_iff_toInt_lt, Int32.le_iff_toInt_le, ← Int32.toInt_inj, ti_m6, ti_m1, ti_0, ti_1, ti_2, ti_3, ti_4, ti_5, ti_6, ti_7, ti_8, ti_9, ti_12, ti_100, ti_9999, ti_60, nI_toInt] at c8) <;> omega)) (fun c8 => ?_)
    refine ar_aload_n (i := 0) (pc := 11) dX5_isOpen_11 rfl rfl ?_
    refine ar_getf (pc := 12) dX5_isOpen_12 fX5_9 rfl rfl ?_
    refine ar_iload_n (i := 3) (pc := 15) dX5_isOpen_15 rfl rfl ?_
    refine ar_iald (pc := 16) dX5_isOpen_16 rfl (show k < 12 by omega) rfl ?_
    refine ar_if_le (pc := 17) (tgt := 32) dX5_isOpen_17 (by decide) (fun c17 => ?_) (fun c17 => ?_)
    · refine ar_iinc (pc := 32) dX5_isOpen_32 rfl (ni_inc _) (Nat.le_of_ble_eq_true rfl) rfl ?_
      refine ar_goto (tgt := 2) (pc := 35) dX5_isOpen_35 (by decide) ?_
      refine ih (k + 1) (by omega) fun o o1 o2 => ?_
      by_cases e : o = k
      · subst e
        first | exact Int32.not_lt.mpr c17 o2.1 | exact Int32.not_lt.mpr o2.2 c27
      · exact hq o (by omega) o2
    · refine ar_iload_n (i := 3) (pc := 20) dX5_isOpen_20 rfl rfl ?_
      refine ar_iload_n (i := 1) (pc := 21) dX5_isOpen_21 rfl rfl ?_
      refine ar_isub (pc := 22) dX5_isOpen_22 ?_
      refine ar_abs (pc := 23) dX5_isOpen_23 kX5_65 rfl rfl rfl rfl ?_
      rw [abs_dst (show k < 12 by omega) hj]
      refine ar_iload_n (i := 2) (pc := 26) dX5_isOpen_26 rfl rfl ?_
      refine ar_icmp_gt (pc := 27) (tgt := 32) dX5_isOpen_27 (by decide) (fun c27 => ?_) (fun c27 => ?_)
      · refine ar_iinc (pc := 32) dX5_isOpen_32 rfl (ni_inc _) (Nat.le_of_ble_eq_true rfl) rfl ?_
        refine ar_goto (tgt := 2) (pc := 35) dX5_isOpen_35 (by decide) ?_
        refine ih (k + 1) (by omega) fun o o1 o2 => ?_
        by_cases e : o = k
        · subst e
          first | exact Int32.not_lt.mpr c17 o2.1 | exact Int32.not_lt.mpr o2.2 c27
        · exact hq o (by omega) o2
      · refine ar_iconst (pc := 30) dX5_isOpen_30 q_iconst_0 ?_
        first
          | exact ar_zret (pc := 31) dX5_isOpen_31 rfl (Or.inr rfl) rfl rfl ⟨Or.inl ⟨(hq.elim), rfl⟩, rfl⟩
          | exact ar_zret (pc := 31) dX5_isOpen_31 rfl (Or.inl rfl) rfl rfl ⟨Or.inr ⟨(fun z => z k (by omega) ⟨Int32.not_le.mp c17, Int32.not_lt.mp c27⟩), rfl⟩, rfl⟩

set_option maxHeartbeats 4000000 in
set_option maxRecDepth 100000 in
theorem sX5_isOpen (tp : Nat → Int32) (la lt : Nat → Int32) (ls lp : Int32) (ra rt : Nat → Int32) (rs rp : Int32) {j : Nat} (hj : j < 12) (g : Int32) : am_Sp mX5_isOpen [.ref 2, .int (nI j), .int g] (vwH tp la lt ls lp ra rt rs rp) (am_bp (opP tp j g) (vwH tp la lt ls lp ra rt rs rp)) := by
  refine am_intro (by decide) (Nat.le_of_ble_eq_true rfl) ?_
  refine ar_iconst (pc := 0) dX5_isOpen_0 q_iconst_0 ?_
  refine ar_istore_n (i := 3) (pc := 1) dX5_isOpen_1 rfl (Nat.le_of_ble_eq_true rfl) rfl ?_
  exact lX5_isOpen (vwH tp la lt ls lp ra rt rs rp) tp la lt ls lp ra rt rs rp hj g 12 0 (by omega) (fun o ho => absurd ho (Nat.not_lt_zero o))

/-- the best of the pitches below k, and its crowd -/
def bop (cr : Nat → Int32) (op : Nat → Prop) [∀ k, Decidable (op k)] : Nat → Int32 × Int32
  | 0 => (-6, -1)
  | k + 1 => if (bop cr op k).2 < cr k ∧ op k then (nI k, cr k) else bop cr op k
noncomputable def bopC (cr : Nat → Int32) (op : Nat → Prop) : Nat → Int32 × Int32 := @bop cr op (fun k => Classical.propDecidable (op k))
theorem bopC_s (cr : Nat → Int32) (op : Nat → Prop) (k : Nat) (h : (bopC cr op k).2 < cr k ∧ op k) : bopC cr op (k + 1) = (nI k, cr k) := by
  show (@bop cr op (fun k => Classical.propDecidable (op k)) (k + 1)) = _
  rw [bop]
  exact if_pos h
theorem bopC_n (cr : Nat → Int32) (op : Nat → Prop) (k : Nat) (h : ¬ ((bopC cr op k).2 < cr k ∧ op k)) : bopC cr op (k + 1) = bopC cr op k := by
  show (@bop cr op (fun k => Classical.propDecidable (op k)) (k + 1)) = _
  rw [bop]
  exact if_neg h
abbrev crV (la lt : Nat → Int32) (ls : Int32) (ra rt : Nat → Int32) (rs h : Int32) : Nat → Int32 := fun k => stpV la lt ls (nI k) h + stpV ra rt rs (nI k) h
set_option maxHeartbeats 4000000 in
set_option maxRecDepth 100000 in
theorem lX5_bestOpenPitch (h0 : am_H) (tp : Nat → Int32) (la lt : Nat → Int32) (ls lp : Int32) (ra rt : Nat → Int32) (rs rp : Int32) (h g : Int32) : ∀ (d k : Nat), ∀ o6 : Option Value, k + d = 12 → am_RW mX5_bestOpenPitch h0 (am_rp (bopC (crV la lt ls ra rt rs h) (fun k => opP tp k g) 12).1 (vwH tp la lt ls lp ra rt rs rp)) 0 0 9 [some (.ref 2), some (.int h), some (.int g), some (.int (bopC (crV la lt ls ra rt rs h) (fun k => opP tp k g) k).1), some (.int (bopC (crV la lt ls ra rt rs h) (fun k => opP tp k g) k).2), some (.int (nI k)), o6] [] (vwH tp la lt ls lp ra rt rs rp) := by
  intro d
  induction d with
  | zero =>
    intro k o6 hk
    have e : k = 12 := by omega
    subst e
    refine ar_iload (pc := 9) dX5_bestOpenPitch_9 rfl ?_
    refine ar_bipush (pc := 11) dX5_bestOpenPitch_11 q_bipush_12 ?_
    refine ar_icmp_ge (pc := 13) (tgt := 55) dX5_bestOpenPitch_13 (by decide) (fun c13 => ?_) (fun c13 => False.elim (by (simp (disch := omega) only [Int32.lt_iff_toInt_lt, Int32.le_iff_toInt_le, ← Int32.toInt_inj, ti_m6, ti_m1, ti_0, ti_1, ti_2, ti_3, ti_4, ti_5, ti_6, ti_7, ti_8, ti_9, ti_12, ti_100, ti_9999, ti_60, nI_toInt] at c13) <;> omega))
    refine ar_iload_n (i := 3) (pc := 55) dX5_bestOpenPitch_55 rfl rfl ?_
    exact ar_iret (pc := 56) dX5_bestOpenPitch_56 rfl rfl rfl ⟨rfl, rfl⟩
  | succ d ih =>
    intro k o6 hk
    refine ar_iload (pc := 9) dX5_bestOpenPitch_9 rfl ?_
    refine ar_bipush (pc := 11) dX5_bestOpenPitch_11 q_bipush_12 ?_
    refine ar_icmp_ge (pc := 13) (tgt := 55) dX5_bestOpenPitch_13 (by decide) (fun c13 => False.elim (by (simp (disch := omega) only [Int32.lt_iff_toInt_lt, Int32.le_iff_toInt_le, ← Int32.toInt_inj, ti_m6, ti_m1, ti_0, ti_1, ti_2, ti_3, ti_4, ti_5, ti_6, ti_7, ti_8, ti_9, ti_12, ti_100, ti_9999, ti_60, nI_toInt] at c13) <;> omega)) (fun c13 => ?_)
    refine ar_aload_n (i := 0) (pc := 16) dX5_bestOpenPitch_16 rfl rfl ?_
    refine ar_iload (pc := 17) dX5_bestOpenPitch_17 rfl ?_
    refine ar_iload_n (i := 1) (pc := 19) dX5_bestOpenPitch_19 rfl rfl ?_
    refine ar_idV (pc := 20) dX5_bestOpenPitch_20 cal_X5_crowdAt kX5_70 rfl (sX5_crowdAt tp la lt ls lp ra rt rs rp (nI k) h) rfl rfl rfl rfl rfl rfl rfl (fun r h1 hp => ?_)
    obtain ⟨rfl, rfl⟩ := hp
    refine ⟨rfl, ?_⟩
    refine ar_topi (fun y20 e20 => ?_)
    refine ar_istore (pc := 23) dX5_bestOpenPitch_23 (Nat.le_of_ble_eq_true rfl) rfl ?_
    refine ar_iload (pc := 25) dX5_bestOpenPitch_25 rfl ?_
    refine ar_iload (pc := 27) dX5_bestOpenPitch_27 rfl ?_
    refine ar_icmp_le (pc := 29) (tgt := 49) dX5_bestOpenPitch_29 (by decide) (fun c29 => ?_) (fun c29 => ?_)
    · refine ar_iinc (pc := 49) dX5_bestOpenPitch_49 rfl (ni_inc _) (Nat.le_of_ble_eq_true rfl) rfl ?_
      refine ar_goto (tgt := 9) (pc := 52) dX5_bestOpenPitch_52 (by decide) ?_
      have ih' := ih (k + 1) (some (.int y20)) (by omega)
      first
        | (have hc : (bopC (crV la lt ls ra rt rs h) (fun k => opP tp k g) k).2 < crV la lt ls ra rt rs h k := by
             show _ < stpV la lt ls (nI k) h + stpV ra rt rs (nI k) h
             rw [← e20]; exact Int32.not_le.mp c29
           have hy : y20 = crV la lt ls ra rt rs h k := e20
           rw [bopC_s (crV la lt ls ra rt rs h) (fun k => opP tp k g) k ⟨hc, h36⟩, ← hy] at ih'; exact ih')
        | (rw [bopC_n (crV la lt ls ra rt rs h) (fun k => opP tp k g) k (fun z => h36 z.2)] at ih'; exact ih')
        | (have hc : ¬ (bopC (crV la lt ls ra rt rs h) (fun k => opP tp k g) k).2 < crV la lt ls ra rt rs h k := by
             show ¬ _ < stpV la lt ls (nI k) h + stpV ra rt rs (nI k) h
             rw [← e20]; exact Int32.not_lt.mpr c29
           rw [bopC_n (crV la lt ls ra rt rs h) (fun k => opP tp k g) k (fun z => hc z.1)] at ih'; exact ih')
    · refine ar_aload_n (i := 0) (pc := 32) dX5_bestOpenPitch_32 rfl rfl ?_
      refine ar_iload (pc := 33) dX5_bestOpenPitch_33 rfl ?_
      refine ar_iload_n (i := 2) (pc := 35) dX5_bestOpenPitch_35 rfl rfl ?_
      refine ar_idV (pc := 36) dX5_bestOpenPitch_36 cal_X5_isOpen kX5_73 rfl (sX5_isOpen tp la lt ls lp ra rt rs rp (show k < 12 by omega) g) rfl rfl rfl rfl rfl rfl rfl (fun r h1 hp => ?_)
      obtain ⟨⟨h36, rfl⟩ | ⟨h36, rfl⟩, rfl⟩ := hp
      · refine ⟨rfl, ?_⟩
        refine ar_if_eq (pc := 39) (tgt := 49) dX5_bestOpenPitch_39 (by decide) (fun c39 => absurd c39 (by decide)) (fun c39 => ?_)
        refine ar_iload (pc := 42) dX5_bestOpenPitch_42 rfl ?_
        refine ar_istore_n (i := 3) (pc := 44) dX5_bestOpenPitch_44 rfl (Nat.le_of_ble_eq_true rfl) rfl ?_
        refine ar_iload (pc := 45) dX5_bestOpenPitch_45 rfl ?_
        refine ar_istore (pc := 47) dX5_bestOpenPitch_47 (Nat.le_of_ble_eq_true rfl) rfl ?_
        refine ar_iinc (pc := 49) dX5_bestOpenPitch_49 rfl (ni_inc _) (Nat.le_of_ble_eq_true rfl) rfl ?_
        refine ar_goto (tgt := 9) (pc := 52) dX5_bestOpenPitch_52 (by decide) ?_
        have ih' := ih (k + 1) (some (.int y20)) (by omega)
        first
          | (have hc : (bopC (crV la lt ls ra rt rs h) (fun k => opP tp k g) k).2 < crV la lt ls ra rt rs h k := by
               show _ < stpV la lt ls (nI k) h + stpV ra rt rs (nI k) h
               rw [← e20]; exact Int32.not_le.mp c29
             have hy : y20 = crV la lt ls ra rt rs h k := e20
             rw [bopC_s (crV la lt ls ra rt rs h) (fun k => opP tp k g) k ⟨hc, h36⟩, ← hy] at ih'; exact ih')
          | (rw [bopC_n (crV la lt ls ra rt rs h) (fun k => opP tp k g) k (fun z => h36 z.2)] at ih'; exact ih')
          | (have hc : ¬ (bopC (crV la lt ls ra rt rs h) (fun k => opP tp k g) k).2 < crV la lt ls ra rt rs h k := by
               show ¬ _ < stpV la lt ls (nI k) h + stpV ra rt rs (nI k) h
               rw [← e20]; exact Int32.not_lt.mpr c29
             rw [bopC_n (crV la lt ls ra rt rs h) (fun k => opP tp k g) k (fun z => hc z.1)] at ih'; exact ih')
      · refine ⟨rfl, ?_⟩
        refine ar_if_eq (pc := 39) (tgt := 49) dX5_bestOpenPitch_39 (by decide) (fun c39 => ?_) (fun c39 => absurd c39 (by decide))
        refine ar_iinc (pc := 49) dX5_bestOpenPitch_49 rfl (ni_inc _) (Nat.le_of_ble_eq_true rfl) rfl ?_
        refine ar_goto (tgt := 9) (pc := 52) dX5_bestOpenPitch_52 (by decide) ?_
        have ih' := ih (k + 1) (some (.int y20)) (by omega)
        first
          | (have hc : (bopC (crV la lt ls ra rt rs h) (fun k => opP tp k g) k).2 < crV la lt ls ra rt rs h k := by
               show _ < stpV la lt ls (nI k) h + stpV ra rt rs (nI k) h
               rw [← e20]; exact Int32.not_le.mp c29
             have hy : y20 = crV la lt ls ra rt rs h k := e20
             rw [bopC_s (crV la lt ls ra rt rs h) (fun k => opP tp k g) k ⟨hc, h36⟩, ← hy] at ih'; exact ih')
          | (rw [bopC_n (crV la lt ls ra rt rs h) (fun k => opP tp k g) k (fun z => h36 z.2)] at ih'; exact ih')
          | (have hc : ¬ (bopC (crV la lt ls ra rt rs h) (fun k => opP tp k g) k).2 < crV la lt ls ra rt rs h k := by
               show ¬ _ < stpV la lt ls (nI k) h + stpV ra rt rs (nI k) h
               rw [← e20]; exact Int32.not_lt.mpr c29
             rw [bopC_n (crV la lt ls ra rt rs h) (fun k => opP tp k g) k (fun z => hc z.1)] at ih'; exact ih')

set_option maxHeartbeats 4000000 in
set_option maxRecDepth 100000 in
theorem sX5_bestOpenPitch (tp : Nat → Int32) (la lt : Nat → Int32) (ls lp : Int32) (ra rt : Nat → Int32) (rs rp : Int32) (h g : Int32) : am_Sp mX5_bestOpenPitch [.ref 2, .int h, .int g] (vwH tp la lt ls lp ra rt rs rp) (am_rp (bopC (crV la lt ls ra rt rs h) (fun k => opP tp k g) 12).1 (vwH tp la lt ls lp ra rt rs rp)) := by
  refine am_intro (by decide) (Nat.le_of_ble_eq_true rfl) ?_
  refine ar_bipush (pc := 0) dX5_bestOpenPitch_0 q_bipush_m6 ?_
  refine ar_istore_n (i := 3) (pc := 2) dX5_bestOpenPitch_2 rfl (Nat.le_of_ble_eq_true rfl) rfl ?_
  refine ar_iconst (pc := 3) dX5_bestOpenPitch_3 q_iconst_m1 ?_
  refine ar_istore (pc := 4) dX5_bestOpenPitch_4 (Nat.le_of_ble_eq_true rfl) rfl ?_
  refine ar_iconst (pc := 6) dX5_bestOpenPitch_6 q_iconst_0 ?_
  refine ar_istore (pc := 7) dX5_bestOpenPitch_7 (Nat.le_of_ble_eq_true rfl) rfl ?_
  exact lX5_bestOpenPitch (vwH tp la lt ls lp ra rt rs rp) tp la lt ls lp ra rt rs rp h g 12 0 none (by omega)
