/-! the whole asked: what is foretold -/
theorem vBo_uTa (v : SV) (a : Int32) : vBo (uTa v a) = vBo v := rfl
theorem vBo_uTI (v : SV) (a b : Nat → Int32) : vBo (uTI v a b) = vBo v := rfl
theorem vP_uTa (v : SV) (a : Int32) : vP (uTa v a) = vP v := rfl
theorem vBo_phV (q : SV) (n : Nat) (t : Nat → Int32) (r : Int32) : vBo (phV q n t r) = vBo q := by rw [phV, vBo_uTa, vBo_uTI]
theorem vP_phV (q : SV) (n : Nat) (t : Nat → Int32) (r : Int32) : vP (phV q n t r) = vP q := by rw [phV, vP_uTa, vP_uTI]
/-- the State behind a day, and the day's coins -/
noncomputable def dyV (v : SV) (n : Nat) : SV := phV (pqV v n) n (ptV v n) (rnV (puV v n))
noncomputable def dyC (v : SV) (n : Nat) : Int32 := cns (pqV v n) n (ptV v n) (rnV (puV v n)) 8
theorem vBo_dyV (v : SV) (n : Nat) : vBo (dyV v n) = vBo v := by rw [dyV, vBo_phV, pqV, vBo_daV, vBo_uX, vBo_puV]
theorem vP_dyV (v : SV) (n : Nat) : vP (dyV v n) = (chs (dlV v n) n 8).2 := by rw [dyV, vP_phV, pqV, vP_daV, vP_uX, puV, vP_uP]
theorem dyV_in (v : SV) (n : Nat) (hp : ∀ k, k < 8 → vP v k = -6 ∨ inP (vP v k)) : ∀ k, k < 8 → vP (dyV v n) k = -6 ∨ inP (vP (dyV v n) k) := by
  rw [vP_dyV]
  exact chs_in (dlV v n) n (by rw [vP_dlV]; exact hp) 8
/-- the State and the coins behind k days -/
noncomputable def itV (v : SV) (n k : Nat) : SV × Int32 := Nat.rec (motive := fun _ => SV × Int32) (v, 0) (fun _ s => (dyV s.1 n, s.2 + dyC s.1 n)) k
theorem itV_0 (v : SV) (n : Nat) : itV v n 0 = (v, 0) := rfl
theorem itV_s {v : SV} {n k : Nat} {u : SV} {c : Int32} (e : (u, c) = itV v n k) : (dyV u n, c + dyC u n) = itV v n (k + 1) := by
  show _ = (dyV (itV v n k).1 n, (itV v n k).2 + dyC (itV v n k).1 n)
  rw [← e]
theorem mP_C (w0 : Bool) (ff : Nat → Int32) (w1 : Bool) (gg : Nat → Int32) (z : PV) : am_mrg (am_mu [0, 1, 11, 12, 13, 14, 15, 16, 17, 18, 3, 4, 5, 6, 7, 8, 9, 10]) 0 (st2 (pN z) (pN z)) (ppH w0 ff w1 gg z) = ppH w0 ff w1 gg (sU z (pN z)) := (mP_UN w0 ff w1 gg z (pN z) (pN z)).trans rfl
theorem mP_Y (w0 : Bool) (ff : Nat → Int32) (w1 : Bool) (gg : Nat → Int32) (z : PV) (u : SV) (x y : VWt) (w : SV) : am_mrg (am_mu [0, 1, 19, 20, 21, 22, 23, 24, 25, 26, 11, 12, 13, 14, 15, 16, 17, 18]) 0 (none :: none :: (vwT 2 y ++ stB 10 w)) (ppH w0 ff w1 gg (sW (sU z u) x)) = ppH w0 ff w1 gg (sW (sU z w) y) := (mP_WU w0 ff w1 gg (sW (sU z u) x) y w).trans rfl
/-- a question of days to come leaves View and foretold changed -/
def rpU (x : Int32) (w0 : Bool) (ff : Nat → Int32) (w1 : Bool) (gg : Nat → Int32) (z : PV) : Option Value → am_H → Prop := fun r h1 => r = some (.int x) ∧ ∃ u x', h1 = ppH w0 ff w1 gg (sW (sU z u) x')
set_option maxHeartbeats 4000000 in
set_option maxRecDepth 100000 in
theorem lX6_ifPlayed_39 (h0 : am_H) (w0 : Bool) (ff : Nat → Int32) (w1 : Bool) (gg : Nat → Int32) (z : PV) (n : Nat) (hn : vBo (pN z) = nI n) (h8 : n ≤ 8) (m : Nat) (hm : m ≤ 100) (w : Int32) : ∀ (d k : Nat) (u : SV) (c : Int32) (x : VWt), k + d = m → (u, c) = itV (pN z) n k → vBo u = nI n → (∀ k, k < 8 → vP u k = -6 ∨ inP (vP u k)) → am_RW mX6_ifPlayed h0 (rpU (if w = 0 then (itV (pN z) n m).2 else vRa (itV (pN z) n m).1 - vRa (pN z)) w0 ff w1 gg z) 0 0 39 [some (.ref 2), some (.int (nI m)), some (.int w), some (.int c), some (.int (nI k))] [] (ppH w0 ff w1 gg (sW (sU z u) x)) := by
  intro d
  induction d with
  | zero =>
    intro k u c x hk he hb hq
    have e : k = m := by omega
    subst e
    refine ar_iload (pc := 39) dX6_ifPlayed_39 rfl ?_
    refine ar_iload_n (i := 1) (pc := 41) dX6_ifPlayed_41 rfl rfl ?_
    refine ar_icmp_ge (pc := 42) (tgt := 65) dX6_ifPlayed_42 (by decide) (fun c42 => ?_) (fun c42 => False.elim (by (simp (disch := omega) only [Int32.lt_iff_toInt_lt, Int32.le_iff_toInt_le, ← Int32.toInt_inj, ti_m6, ti_m1, ti_0, ti_1, ti_2, ti_3, ti_4, ti_5, ti_6, ti_7, ti_8, ti_9, ti_12, ti_100, ti_9999, ti_60, nI_toInt] at c42) <;> omega))
    refine ar_iload_n (i := 2) (pc := 65) dX6_ifPlayed_65 rfl rfl ?_
    refine ar_if_ne (pc := 66) (tgt := 73) dX6_ifPlayed_66 (by decide) (fun c66 => ?_) (fun c66 => ?_)
    · refine ar_aload_n (i := 0) (pc := 73) dX6_ifPlayed_73 rfl rfl ?_
      refine ar_getf (pc := 74) dX6_ifPlayed_74 fX6_16 rfl rfl ?_
      refine ar_getf (pc := 77) dX6_ifPlayed_77 fX6_186 rfl rfl ?_
      refine ar_aload_n (i := 0) (pc := 80) dX6_ifPlayed_80 rfl rfl ?_
      refine ar_getf (pc := 81) dX6_ifPlayed_81 fX6_10 rfl rfl ?_
      refine ar_getf (pc := 84) dX6_ifPlayed_84 fX6_186 rfl rfl ?_
      refine ar_isub (pc := 87) dX6_ifPlayed_87 ?_
      exact ar_iret (pc := 88) dX6_ifPlayed_88 rfl rfl rfl ⟨by rw [if_neg c66, ← he, show pU (sW (sU z u) x) = u from rfl, show pN (sW (sU z u) x) = pN z from rfl], _, _, rfl⟩
    · refine ar_iload_n (i := 3) (pc := 69) dX6_ifPlayed_69 rfl rfl ?_
      refine ar_goto (tgt := 88) (pc := 70) dX6_ifPlayed_70 (by decide) ?_
      exact ar_iret (pc := 88) dX6_ifPlayed_88 rfl rfl rfl ⟨by rw [if_pos c66, ← he], _, _, rfl⟩
  | succ d ih =>
    intro k u c x hk he hb hq
    refine ar_iload (pc := 39) dX6_ifPlayed_39 rfl ?_
    refine ar_iload_n (i := 1) (pc := 41) dX6_ifPlayed_41 rfl rfl ?_
    refine ar_icmp_ge (pc := 42) (tgt := 65) dX6_ifPlayed_42 (by decide) (fun c42 => False.elim (by (simp (disch := omega) only [Int32.lt_iff_toInt_lt, Int32.le_iff_toInt_le, ← Int32.toInt_inj, ti_m6, ti_m1, ti_0, ti_1, ti_2, ti_3, ti_4, ti_5, ti_6, ti_7, ti_8, ti_9, ti_12, ti_100, ti_9999, ti_60, nI_toInt] at c42) <;> omega)) (fun c42 => ?_)
    refine ar_iload_n (i := 3) (pc := 45) dX6_ifPlayed_45 rfl rfl ?_
    refine ar_aload_n (i := 0) (pc := 46) dX6_ifPlayed_46 rfl rfl ?_
    refine ar_getf (pc := 47) dX6_ifPlayed_47 fX6_16 rfl rfl ?_
    refine ar_aload_n (i := 0) (pc := 50) dX6_ifPlayed_50 rfl rfl ?_
    refine ar_getf (pc := 51) dX6_ifPlayed_51 fX6_22 rfl rfl ?_
    refine ar_mc (pc := 54) (l := [0, 1, 19, 20, 21, 22, 23, 24, 25, 26, 11, 12, 13, 14, 15, 16, 17, 18]) (ar_rS dX6_ifPlayed_54 cal_X0_pass kX6_112 rfl (sX0_pass x.1 x.2.1 x.2.2.1 x.2.2.2.1 x.2.2.2.2.1 x.2.2.2.2.2.1 x.2.2.2.2.2.2.1 x.2.2.2.2.2.2.2.1 x.2.2.2.2.2.2.2.2 u n hb h8 hq) rfl rfl rfl okp_WU rfl rfl) okp_WU rfl rfl rfl rfl (fun r h1 hp => ?_)
    obtain ⟨rfl, rfl⟩ := hp
    refine ⟨rfl, ?_⟩
    refine ar_hp (mP_Y w0 ff w1 gg z u x (vwOf (ptV u n) (pqV u n)) (dyV u n)) ?_
    refine ar_iadd (pc := 57) dX6_ifPlayed_57 ?_
    refine ar_istore_n (i := 3) (pc := 58) dX6_ifPlayed_58 rfl (Nat.le_of_ble_eq_true rfl) rfl ?_
    refine ar_iinc (pc := 59) dX6_ifPlayed_59 rfl (ni_inc _) (Nat.le_of_ble_eq_true rfl) rfl ?_
    refine ar_goto (tgt := 39) (pc := 62) dX6_ifPlayed_62 (by decide) ?_
    exact ih (k + 1) _ _ _ (by omega) (itV_s he) ((vBo_dyV u n).trans hb) (dyV_in u n hq)
set_option maxHeartbeats 4000000 in
set_option maxRecDepth 100000 in
theorem sX6_ifPlayed_s (w0 : Bool) (ff : Nat → Int32) (w1 : Bool) (gg : Nat → Int32) (z : PV) (n : Nat) (hn : vBo (pN z) = nI n) (h8 : n ≤ 8) (hp : ∀ k, k < 8 → vP (pN z) k = -6 ∨ inP (vP (pN z) k)) (m : Nat) (h1 : 1 ≤ m) (hm : m ≤ 100) (w : Int32) (hw : w = 0 ∨ w = 1) : am_Sp mX6_ifPlayed [.ref 2, .int (nI m), .int w] (ppH w0 ff w1 gg z) (rpU (if w = 0 then (itV (pN z) n m).2 else vRa (itV (pN z) n m).1 - vRa (pN z)) w0 ff w1 gg z) := by
  refine am_intro (by decide) (Nat.le_of_ble_eq_true rfl) ?_
  refine ar_iload_n (i := 1) (pc := 0) dX6_ifPlayed_0 rfl rfl ?_
  refine ar_iconst (pc := 1) dX6_ifPlayed_1 q_iconst_1 ?_
  refine ar_icmp_lt (pc := 2) (tgt := 20) dX6_ifPlayed_2 (by decide) (fun c2 => False.elim (by (simp (disch := omega) only [Int32.lt_iff_toInt_lt, Int32.le_iff_toInt_le, ← Int32.toInt_inj, ti_m6, ti_m1, ti_0, ti_1, ti_2, ti_3, ti_4, ti_5, ti_6, ti_7, ti_8, ti_9, ti_12, ti_100, ti_9999, ti_60, nI_toInt] at c2) <;> omega)) (fun c2 => ?_)
  refine ar_iload_n (i := 1) (pc := 5) dX6_ifPlayed_5 rfl rfl ?_
  refine ar_bipush (pc := 6) dX6_ifPlayed_6 q_bipush_100 ?_
  refine ar_icmp_gt (pc := 8) (tgt := 20) dX6_ifPlayed_8 (by decide) (fun c8 => False.elim (by (simp (disch := omega) only [Int32.lt_iff_toInt_lt, Int32.le_iff_toInt_le, ← Int32.toInt_inj, ti_m6, ti_m1, ti_0, ti_1, ti_2, ti_3, ti_4, ti_5, ti_6, ti_7, ti_8, ti_9, ti_12, ti_100, ti_9999, ti_60, nI_toInt] at c8) <;> omega)) (fun c8 => ?_)
  refine ar_iload_n (i := 2) (pc := 11) dX6_ifPlayed_11 rfl rfl ?_
  refine ar_if_eq (pc := 12) (tgt := 23) dX6_ifPlayed_12 (by decide) (fun c12 => ?_) (fun c12 => ?_)
  · refine ar_aload_n (i := 0) (pc := 23) dX6_ifPlayed_23 rfl rfl ?_
    refine ar_getf (pc := 24) dX6_ifPlayed_24 fX6_16 rfl rfl ?_
    refine ar_aload_n (i := 0) (pc := 27) dX6_ifPlayed_27 rfl rfl ?_
    refine ar_getf (pc := 28) dX6_ifPlayed_28 fX6_10 rfl rfl ?_
    refine ar_mc (pc := 31) (l := [0, 1, 11, 12, 13, 14, 15, 16, 17, 18, 3, 4, 5, 6, 7, 8, 9, 10]) (ar_rV dX6_ifPlayed_31 cal_X3_copyFrom kX6_201 rfl (sX3_copyFrom (pU z) (pN z)) rfl rfl rfl rfl rfl okp_UN rfl rfl) okp_UN rfl rfl rfl rfl (fun r h1 hp => ?_)
    obtain ⟨rfl, rfl⟩ := hp
    refine ⟨rfl, ?_⟩
    refine ar_hp (mP_C w0 ff w1 gg z) ?_
    refine ar_iconst (pc := 34) dX6_ifPlayed_34 q_iconst_0 ?_
    refine ar_istore_n (i := 3) (pc := 35) dX6_ifPlayed_35 rfl (Nat.le_of_ble_eq_true rfl) rfl ?_
    refine ar_iconst (pc := 36) dX6_ifPlayed_36 q_iconst_0 ?_
    refine ar_istore (pc := 37) dX6_ifPlayed_37 (Nat.le_of_ble_eq_true rfl) rfl ?_
    rw [← nI_0]
    exact lX6_ifPlayed_39 _ w0 ff w1 gg z n hn h8 m hm w m 0 (pN z) (nI 0) (pW z) (by omega) (by rw [itV_0, nI_0]) hn hp
  · refine ar_iload_n (i := 2) (pc := 15) dX6_ifPlayed_15 rfl rfl ?_
    refine ar_iconst (pc := 16) dX6_ifPlayed_16 q_iconst_1 ?_
    refine ar_icmp_eq (pc := 17) (tgt := 23) dX6_ifPlayed_17 (by decide) (fun c17 => ?_) (fun c17 => ?_)
    · refine ar_aload_n (i := 0) (pc := 23) dX6_ifPlayed_23 rfl rfl ?_
      refine ar_getf (pc := 24) dX6_ifPlayed_24 fX6_16 rfl rfl ?_
      refine ar_aload_n (i := 0) (pc := 27) dX6_ifPlayed_27 rfl rfl ?_
      refine ar_getf (pc := 28) dX6_ifPlayed_28 fX6_10 rfl rfl ?_
      refine ar_mc (pc := 31) (l := [0, 1, 11, 12, 13, 14, 15, 16, 17, 18, 3, 4, 5, 6, 7, 8, 9, 10]) (ar_rV dX6_ifPlayed_31 cal_X3_copyFrom kX6_201 rfl (sX3_copyFrom (pU z) (pN z)) rfl rfl rfl rfl rfl okp_UN rfl rfl) okp_UN rfl rfl rfl rfl (fun r h1 hp => ?_)
      obtain ⟨rfl, rfl⟩ := hp
      refine ⟨rfl, ?_⟩
      refine ar_hp (mP_C w0 ff w1 gg z) ?_
      refine ar_iconst (pc := 34) dX6_ifPlayed_34 q_iconst_0 ?_
      refine ar_istore_n (i := 3) (pc := 35) dX6_ifPlayed_35 rfl (Nat.le_of_ble_eq_true rfl) rfl ?_
      refine ar_iconst (pc := 36) dX6_ifPlayed_36 q_iconst_0 ?_
      refine ar_istore (pc := 37) dX6_ifPlayed_37 (Nat.le_of_ble_eq_true rfl) rfl ?_
      rw [← nI_0]
      exact lX6_ifPlayed_39 _ w0 ff w1 gg z n hn h8 m hm w m 0 (pN z) (nI 0) (pW z) (by omega) (by rw [itV_0, nI_0]) hn hp
    · exfalso
      rcases hw with hw | hw
      · exact c12 hw
      · exact c17 hw

set_option maxHeartbeats 4000000 in
set_option maxRecDepth 100000 in
theorem sX6_ifPlayed_o (w0 : Bool) (ff : Nat → Int32) (w1 : Bool) (gg : Nat → Int32) (z : PV) (a w : Int32) (ho : a < 1 ∨ 100 < a ∨ (¬ w = 0 ∧ ¬ w = 1)) : am_Sp mX6_ifPlayed [.ref 2, .int a, .int w] (ppH w0 ff w1 gg z) (am_rp (-2) (ppH w0 ff w1 gg z)) := by
  refine am_intro (by decide) (Nat.le_of_ble_eq_true rfl) ?_
  refine ar_iload_n (i := 1) (pc := 0) dX6_ifPlayed_0 rfl rfl ?_
  refine ar_iconst (pc := 1) dX6_ifPlayed_1 q_iconst_1 ?_
  refine ar_icmp_lt (pc := 2) (tgt := 20) dX6_ifPlayed_2 (by decide) (fun c2 => ?_) (fun c2 => ?_)
  · refine ar_bipush (pc := 20) dX6_ifPlayed_20 q_bipush_m2 ?_
    exact ar_iret (pc := 22) dX6_ifPlayed_22 rfl rfl rfl ⟨rfl, rfl⟩
  · refine ar_iload_n (i := 1) (pc := 5) dX6_ifPlayed_5 rfl rfl ?_
    refine ar_bipush (pc := 6) dX6_ifPlayed_6 q_bipush_100 ?_
    refine ar_icmp_gt (pc := 8) (tgt := 20) dX6_ifPlayed_8 (by decide) (fun c8 => ?_) (fun c8 => ?_)
    · refine ar_bipush (pc := 20) dX6_ifPlayed_20 q_bipush_m2 ?_
      exact ar_iret (pc := 22) dX6_ifPlayed_22 rfl rfl rfl ⟨rfl, rfl⟩
    · refine ar_iload_n (i := 2) (pc := 11) dX6_ifPlayed_11 rfl rfl ?_
      refine ar_if_eq (pc := 12) (tgt := 23) dX6_ifPlayed_12 (by decide) (fun c12 => ?_) (fun c12 => ?_)
      · exfalso
        rcases ho with q | q | ⟨q1, q2⟩
        · exact c2 q
        · exact c8 q
        · first | exact q1 c12 | exact q2 c17
      · refine ar_iload_n (i := 2) (pc := 15) dX6_ifPlayed_15 rfl rfl ?_
        refine ar_iconst (pc := 16) dX6_ifPlayed_16 q_iconst_1 ?_
        refine ar_icmp_eq (pc := 17) (tgt := 23) dX6_ifPlayed_17 (by decide) (fun c17 => ?_) (fun c17 => ?_)
        · exfalso
          rcases ho with q | q | ⟨q1, q2⟩
          · exact c2 q
          · exact c8 q
          · first | exact q1 c12 | exact q2 c17
        · refine ar_bipush (pc := 20) dX6_ifPlayed_20 q_bipush_m2 ?_
          exact ar_iret (pc := 22) dX6_ifPlayed_22 rfl rfl rfl ⟨rfl, rfl⟩
