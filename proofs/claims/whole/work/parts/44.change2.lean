/-! the whole changed: read, undo, save, restore -/
/-- the State behind k parts that were read -/
def rdS (v : SV) (q : PQ) : Nat → SV
  | 0 => uL (uBo v 0) (fun _ => -6)
  | k + 1 => adB (rdS v q k) k (q.2.1 k) (q.2.2 k)
theorem rdS_Bo (v : SV) (q : PQ) (k : Nat) : vBo (rdS v q k) = nI k := by
  cases k with
  | zero => rw [nI_0]; rfl
  | succ k => rfl
def rdZ (z : PV) : PQ × Int32 := fnF (pD z).2.1 (ix (pD z).1) 0 0 (0, (pD z).2.2.2)
/-- the pad is read for its fault -/
def rdA (z : PV) : PV := sD z ((pD z).1, (pD z).2.1, (rdZ z).1)
set_option maxHeartbeats 4000000 in
set_option maxRecDepth 100000 in
theorem sX6_read_b (w0 : Bool) (ff : Nat → Int32) (w1 : Bool) (gg : Nat → Int32) (z : PV) (hL : ∃ L, L ≤ 60 ∧ (pD z).1 = nI L) (hb : (rdZ z).2 ≠ -6) : am_Sp mX6_read [.ref 2] (ppH w0 ff w1 gg z) (am_rp (-3) (ppH w0 ff w1 gg (rdA z))) := by
  refine am_intro (by decide) (Nat.le_of_ble_eq_true rfl) ?_
  refine ar_aload_n (i := 0) (pc := 0) dX6_read_0 rfl rfl ?_
  refine ar_getf (pc := 1) dX6_read_1 fX6_29 rfl rfl ?_
  obtain ⟨L, hL, hl⟩ : ∃ L, L ≤ 60 ∧ (pD z).1 = nI L := hL
  refine ar_mc (pc := 4) (l := [0, 1, 27, 28, 29, 30]) (ar_rV dX6_read_4 cal_X2_findFault kX6_118 rfl (sX2_findFault (pD z).2.1 L hL (pD z).2.2) rfl rfl rfl rfl rfl okp_D rfl (by rw [← hl]; rfl)) okp_D rfl (by rw [← hl]; rfl) rfl rfl (fun r h1 hp => ?_)
  obtain ⟨rfl, rfl⟩ := hp
  refine ⟨rfl, ?_⟩
  refine ar_hp ((mP_D w0 ff w1 gg z (nI L, (pD z).2.1, (fnF (pD z).2.1 L 0 0 (0, (pD z).2.2.2)).1)).trans (show _ = ppH w0 ff w1 gg (rdA z) by rw [rdA, rdZ, hl, ix_nI (by omega)])) ?_
  rw [show (fnF (pD z).2.1 L 0 0 (0, (pD z).2.2.2)).2 = (rdZ z).2 by rw [rdZ, hl, ix_nI (by omega)]]
  refine ar_bipush (pc := 7) dX6_read_7 q_bipush_m6 ?_
  refine ar_icmp_eq (pc := 9) (tgt := 15) dX6_read_9 (by decide) (fun c9 => ?_) (fun c9 => ?_)
  · exact absurd c9 hb
  · refine ar_bipush (pc := 12) dX6_read_12 q_bipush_m3 ?_
    exact ar_iret (pc := 14) dX6_read_14 rfl rfl rfl ⟨rfl, rfl⟩

set_option maxHeartbeats 4000000 in
set_option maxRecDepth 100000 in
theorem sX6_read_t (w0 : Bool) (ff : Nat → Int32) (w1 : Bool) (gg : Nat → Int32) (z : PV) (hL : ∃ L, L ≤ 60 ∧ (pD z).1 = nI L) (hb : (rdZ z).2 = -6) (h8 : (rdZ z).1.1 ≤ 8) (hs : shd (rdZ z).1.2.2 (rdZ z).1.1 0 0) : am_Sp mX6_read [.ref 2] (ppH w0 ff w1 gg z) (am_rp (-5) (ppH w0 ff w1 gg (rdA z))) := by
  refine am_intro (by decide) (Nat.le_of_ble_eq_true rfl) ?_
  refine ar_aload_n (i := 0) (pc := 0) dX6_read_0 rfl rfl ?_
  refine ar_getf (pc := 1) dX6_read_1 fX6_29 rfl rfl ?_
  obtain ⟨L, hL, hl⟩ : ∃ L, L ≤ 60 ∧ (pD z).1 = nI L := hL
  refine ar_mc (pc := 4) (l := [0, 1, 27, 28, 29, 30]) (ar_rV dX6_read_4 cal_X2_findFault kX6_118 rfl (sX2_findFault (pD z).2.1 L hL (pD z).2.2) rfl rfl rfl rfl rfl okp_D rfl (by rw [← hl]; rfl)) okp_D rfl (by rw [← hl]; rfl) rfl rfl (fun r h1 hp => ?_)
  obtain ⟨rfl, rfl⟩ := hp
  refine ⟨rfl, ?_⟩
  refine ar_hp ((mP_D w0 ff w1 gg z (nI L, (pD z).2.1, (fnF (pD z).2.1 L 0 0 (0, (pD z).2.2.2)).1)).trans (show _ = ppH w0 ff w1 gg (rdA z) by rw [rdA, rdZ, hl, ix_nI (by omega)])) ?_
  rw [show (fnF (pD z).2.1 L 0 0 (0, (pD z).2.2.2)).2 = (rdZ z).2 by rw [rdZ, hl, ix_nI (by omega)]]
  refine ar_bipush (pc := 7) dX6_read_7 q_bipush_m6 ?_
  refine ar_icmp_eq (pc := 9) (tgt := 15) dX6_read_9 (by decide) (fun c9 => ?_) (fun c9 => absurd hb c9)
  refine ar_aload_n (i := 0) (pc := 15) dX6_read_15 rfl rfl ?_
  refine ar_getf (pc := 16) dX6_read_16 fX6_29 rfl rfl ?_
  refine ar_mc (pc := 19) (l := [0, 1, 27, 28, 29, 30]) (ar_rV dX6_read_19 cal_X2_hasSharedPitch kX6_122 rfl (sX2_hasSharedPitch (pD z).1 (pD z).2.1 (rdZ z).1 h8) rfl rfl rfl rfl rfl okp_D rfl rfl) okp_D rfl rfl rfl rfl (fun r h1 hp => ?_)
  obtain ⟨⟨h19, rfl⟩ | ⟨h19, rfl⟩, rfl⟩ := hp
  · refine ⟨rfl, ?_⟩
    refine ar_hp ((mP_D w0 ff w1 gg (rdA z) ((pD z).1, (pD z).2.1, (rdZ z).1)).trans (by rw [rdA, sD_sD])) ?_
    refine ar_if_eq (pc := 22) (tgt := 28) dX6_read_22 (by decide) (fun c22 => absurd c22 (by decide)) (fun c22 => ?_)
    refine ar_bipush (pc := 25) dX6_read_25 q_bipush_m5 ?_
    exact ar_iret (pc := 27) dX6_read_27 rfl rfl rfl ⟨rfl, rfl⟩
  · refine ⟨rfl, ?_⟩
    refine ar_hp ((mP_D w0 ff w1 gg (rdA z) ((pD z).1, (pD z).2.1, (rdZ z).1)).trans (by rw [rdA, sD_sD])) ?_
    refine ar_if_eq (pc := 22) (tgt := 28) dX6_read_22 (by decide) (fun c22 => ?_) (fun c22 => absurd c22 (by decide))
    exact absurd hs h19

theorem pp_pad (w0 : Bool) (ff : Nat → Int32) (w1 : Bool) (gg : Nat → Int32) (z : PV) (w : SV) : (ppH w0 ff w1 gg (sN (rcZ (rdA z)) w)).set 27 (some (.inl (1, ([.ref 28, .int (pD z).1, .int (nI (rdZ z).1.1), .ref 29, .ref 30] : List Value).set 1 (.int 0)))) = ppH w0 ff w1 gg (sD (sN (rcZ (rdA z)) w) (0, (pD z).2.1, (rdZ z).1)) := rfl
set_option maxHeartbeats 4000000 in
set_option maxRecDepth 100000 in
theorem lX6_read_48 (h0 : am_H) (w0 : Bool) (ff : Nat → Int32) (w1 : Bool) (gg : Nat → Int32) (z : PV) (h8 : (rdZ z).1.1 ≤ 8) : ∀ (d k : Nat), k + d = (rdZ z).1.1 → am_RW mX6_read h0 (am_rp (nI (rdZ z).1.1) (ppH w0 ff w1 gg (sD (sN (rcZ (rdA z)) (rdS (pN z) (rdZ z).1 (rdZ z).1.1)) (0, (pD z).2.1, (rdZ z).1)))) (0 + am_nc mX1_record) (0 + am_ns mX1_record) 48 [some (.ref 2), some (.int (nI k))] [] (ppH w0 ff w1 gg (sN (rcZ (rdA z)) (rdS (pN z) (rdZ z).1 k))) := by
  intro d
  induction d with
  | zero =>
    intro k hk
    have e : k = (rdZ z).1.1 := by omega
    subst e
    refine ar_iload_n (i := 1) (pc := 48) dX6_read_48 rfl rfl ?_
    refine ar_aload_n (i := 0) (pc := 49) dX6_read_49 rfl rfl ?_
    refine ar_getf (pc := 50) dX6_read_50 fX6_29 rfl rfl ?_
    refine ar_getf (pc := 53) dX6_read_53 fX6_129 rfl rfl ?_
    refine ar_icmp_ge (pc := 56) (tgt := 96) dX6_read_56 (by decide) (fun c56 => ?_) (fun c56 => absurd (Int32.le_refl _) c56)
    refine ar_aload_n (i := 0) (pc := 96) dX6_read_96 rfl rfl ?_
    refine ar_getf (pc := 97) dX6_read_97 fX6_29 rfl rfl ?_
    refine ar_iconst (pc := 100) dX6_read_100 q_iconst_0 ?_
    refine ar_putf (pc := 101) dX6_read_101 fX6_134 rfl (Nat.le_of_ble_eq_true rfl) (fun _ => ⟨rfl, rfl⟩) ?_
    refine ar_aload_n (i := 0) (pc := 104) dX6_read_104 rfl rfl ?_
    refine ar_getf (pc := 105) dX6_read_105 fX6_10 rfl rfl ?_
    refine ar_getf (pc := 108) dX6_read_108 fX6_79 rfl rfl ?_
    exact ar_iret (pc := 111) dX6_read_111 rfl rfl rfl ⟨congrArg (fun x => some (Value.int x)) (rdS_Bo (pN z) (rdZ z).1 (rdZ z).1.1), rfl⟩
  | succ d ih =>
    intro k hk
    refine ar_iload_n (i := 1) (pc := 48) dX6_read_48 rfl rfl ?_
    refine ar_aload_n (i := 0) (pc := 49) dX6_read_49 rfl rfl ?_
    refine ar_getf (pc := 50) dX6_read_50 fX6_29 rfl rfl ?_
    refine ar_getf (pc := 53) dX6_read_53 fX6_129 rfl rfl ?_
    refine ar_icmp_ge (pc := 56) (tgt := 96) dX6_read_56 (by decide) (fun c56 => False.elim (by have c56 : nI (rdZ z).1.1 ≤ nI k := c56; (simp (disch := omega) only [Int32.lt_iff_toInt_lt, Int32.le_iff_toInt_le, ← Int32.toInt_inj, ti_m6, ti_m1, ti_0, ti_1, ti_2, ti_3, ti_4, ti_5, ti_6, ti_7, ti_8, ti_9, ti_12, ti_100, ti_9999, ti_60, nI_toInt] at c56); omega)) (fun c56 => ?_)
    refine ar_iload_n (i := 1) (pc := 59) dX6_read_59 rfl rfl ?_
    refine ar_bipush (pc := 60) dX6_read_60 q_bipush_8 ?_
    refine ar_icmp_ge (pc := 62) (tgt := 96) dX6_read_62 (by decide) (fun c62 => False.elim (by (simp (disch := omega) only [Int32.lt_iff_toInt_lt, Int32.le_iff_toInt_le, ← Int32.toInt_inj, ti_m6, ti_m1, ti_0, ti_1, ti_2, ti_3, ti_4, ti_5, ti_6, ti_7, ti_8, ti_9, ti_12, ti_100, ti_9999, ti_60, nI_toInt] at c62) <;> omega)) (fun c62 => ?_)
    refine ar_aload_n (i := 0) (pc := 65) dX6_read_65 rfl rfl ?_
    refine ar_getf (pc := 66) dX6_read_66 fX6_10 rfl rfl ?_
    refine ar_aload_n (i := 0) (pc := 69) dX6_read_69 rfl rfl ?_
    refine ar_getf (pc := 70) dX6_read_70 fX6_29 rfl rfl ?_
    refine ar_getf (pc := 73) dX6_read_73 fX6_132 rfl rfl ?_
    refine ar_iload_n (i := 1) (pc := 76) dX6_read_76 rfl rfl ?_
    refine ar_iald (pc := 77) dX6_read_77 rfl (show k < 8 by omega) rfl ?_
    refine ar_aload_n (i := 0) (pc := 78) dX6_read_78 rfl rfl ?_
    refine ar_getf (pc := 79) dX6_read_79 fX6_29 rfl rfl ?_
    refine ar_getf (pc := 82) dX6_read_82 fX6_133 rfl rfl ?_
    refine ar_iload_n (i := 1) (pc := 85) dX6_read_85 rfl rfl ?_
    refine ar_iald (pc := 86) dX6_read_86 rfl (show k < 8 by omega) rfl ?_
    refine ar_mc (pc := 87) (l := [0, 1, 3, 4, 5, 6, 7, 8, 9, 10]) (ar_rV dX6_read_87 cal_X3_addBooth kX6_82 rfl (sX3_addBooth (rdS (pN z) (rdZ z).1 k) k (rdS_Bo _ _ _) (show k < 8 by omega) ((rdZ z).1.2.1 k) ((rdZ z).1.2.2 k)) rfl rfl rfl rfl rfl okp_N rfl rfl) okp_N rfl rfl rfl rfl (fun r h1 hp => ?_)
    obtain ⟨rfl, rfl⟩ := hp
    refine ⟨rfl, ?_⟩
    refine ar_hp (mP_N w0 ff w1 gg (sN (rcZ (rdA z)) (rdS (pN z) (rdZ z).1 k)) (adB (rdS (pN z) (rdZ z).1 k) k ((rdZ z).1.2.1 k) ((rdZ z).1.2.2 k))) ?_
    refine ar_iinc (pc := 90) dX6_read_90 rfl (ni_inc _) (Nat.le_of_ble_eq_true rfl) rfl ?_
    refine ar_goto (tgt := 48) (pc := 93) dX6_read_93 (by decide) ?_
    exact ih (k + 1) (by omega)
set_option maxHeartbeats 4000000 in
set_option maxRecDepth 100000 in
theorem sX6_read_s (w0 : Bool) (ff : Nat → Int32) (w1 : Bool) (gg : Nat → Int32) (z : PV) (hL : ∃ L, L ≤ 60 ∧ (pD z).1 = nI L) (hb : (rdZ z).2 = -6) (h8 : (rdZ z).1.1 ≤ 8) (hs : ¬ shd (rdZ z).1.2.2 (rdZ z).1.1 0 0) (hyn : (pY z).2.1 < 6) (hyk : (pY z).2.2 ≤ 6) : am_Sp mX6_read [.ref 2] (ppH w0 ff w1 gg z) (am_rp (nI (rdZ z).1.1) (ppH w0 ff w1 gg (sD (sN (rcZ (rdA z)) (rdS (pN z) (rdZ z).1 (rdZ z).1.1)) (0, (pD z).2.1, (rdZ z).1)))) := by
  refine am_intro (by decide) (Nat.le_of_ble_eq_true rfl) ?_
  refine ar_aload_n (i := 0) (pc := 0) dX6_read_0 rfl rfl ?_
  refine ar_getf (pc := 1) dX6_read_1 fX6_29 rfl rfl ?_
  obtain ⟨L, hL, hl⟩ : ∃ L, L ≤ 60 ∧ (pD z).1 = nI L := hL
  refine ar_mc (pc := 4) (l := [0, 1, 27, 28, 29, 30]) (ar_rV dX6_read_4 cal_X2_findFault kX6_118 rfl (sX2_findFault (pD z).2.1 L hL (pD z).2.2) rfl rfl rfl rfl rfl okp_D rfl (by rw [← hl]; rfl)) okp_D rfl (by rw [← hl]; rfl) rfl rfl (fun r h1 hp => ?_)
  obtain ⟨rfl, rfl⟩ := hp
  refine ⟨rfl, ?_⟩
  refine ar_hp ((mP_D w0 ff w1 gg z (nI L, (pD z).2.1, (fnF (pD z).2.1 L 0 0 (0, (pD z).2.2.2)).1)).trans (show _ = ppH w0 ff w1 gg (rdA z) by rw [rdA, rdZ, hl, ix_nI (by omega)])) ?_
  rw [show (fnF (pD z).2.1 L 0 0 (0, (pD z).2.2.2)).2 = (rdZ z).2 by rw [rdZ, hl, ix_nI (by omega)]]
  refine ar_bipush (pc := 7) dX6_read_7 q_bipush_m6 ?_
  refine ar_icmp_eq (pc := 9) (tgt := 15) dX6_read_9 (by decide) (fun c9 => ?_) (fun c9 => absurd hb c9)
  refine ar_aload_n (i := 0) (pc := 15) dX6_read_15 rfl rfl ?_
  refine ar_getf (pc := 16) dX6_read_16 fX6_29 rfl rfl ?_
  refine ar_mc (pc := 19) (l := [0, 1, 27, 28, 29, 30]) (ar_rV dX6_read_19 cal_X2_hasSharedPitch kX6_122 rfl (sX2_hasSharedPitch (pD z).1 (pD z).2.1 (rdZ z).1 h8) rfl rfl rfl rfl rfl okp_D rfl rfl) okp_D rfl rfl rfl rfl (fun r h1 hp => ?_)
  obtain ⟨⟨h19, rfl⟩ | ⟨h19, rfl⟩, rfl⟩ := hp
  · refine ⟨rfl, ?_⟩
    refine ar_hp ((mP_D w0 ff w1 gg (rdA z) ((pD z).1, (pD z).2.1, (rdZ z).1)).trans (by rw [rdA, sD_sD])) ?_
    refine ar_if_eq (pc := 22) (tgt := 28) dX6_read_22 (by decide) (fun c22 => absurd c22 (by decide)) (fun c22 => ?_)
    refine ar_bipush (pc := 25) dX6_read_25 q_bipush_m5 ?_
    exact absurd h19 hs
  · refine ⟨rfl, ?_⟩
    refine ar_hp ((mP_D w0 ff w1 gg (rdA z) ((pD z).1, (pD z).2.1, (rdZ z).1)).trans (by rw [rdA, sD_sD])) ?_
    refine ar_if_eq (pc := 22) (tgt := 28) dX6_read_22 (by decide) (fun c22 => ?_) (fun c22 => absurd c22 (by decide))
    refine ar_aload_n (i := 0) (pc := 28) dX6_read_28 rfl rfl ?_
    refine ar_getf (pc := 29) dX6_read_29 fX6_36 rfl rfl ?_
    refine ar_aload_n (i := 0) (pc := 32) dX6_read_32 rfl rfl ?_
    refine ar_getf (pc := 33) dX6_read_33 fX6_10 rfl rfl ?_
    refine ar_rec (pc := 36) dX6_read_36 kX6_48 rfl rfl rfl rfl rfl hyn hyk ?_
    refine ar_aload_n (i := 0) (pc := 39) dX6_read_39 rfl rfl ?_
    refine ar_getf (pc := 40) dX6_read_40 fX6_10 rfl rfl ?_
    refine ar_mc (pc := 43) (l := [0, 1, 3, 4, 5, 6, 7, 8, 9, 10]) (ar_rV dX6_read_43 cal_X3_forgetBooths kX6_126 rfl (sX3_forgetBooths (pN z)) rfl rfl rfl rfl rfl okp_N rfl rfl) okp_N rfl rfl rfl rfl (fun r h1 hp => ?_)
    obtain ⟨rfl, rfl⟩ := hp
    refine ⟨rfl, ?_⟩
    refine ar_hp (mP_N w0 ff w1 gg (rcZ (rdA z)) (uL (uBo (pN z) 0) (fun _ => -6))) ?_
    refine ar_iconst (pc := 46) dX6_read_46 q_iconst_0 ?_
    refine ar_istore_n (i := 1) (pc := 47) dX6_read_47 rfl (Nat.le_of_ble_eq_true rfl) rfl ?_
    rw [← nI_0]
    exact lX6_read_48 _ w0 ff w1 gg z h8 (rdZ z).1.1 0 (by omega)

set_option maxHeartbeats 4000000 in
set_option maxRecDepth 100000 in
theorem sX6_undo_z (w0 : Bool) (ff : Nat → Int32) (w1 : Bool) (gg : Nat → Int32) (z : PV) (hk : (pY z).2.2 = 0) : am_Sp mX6_undo [.ref 2] (ppH w0 ff w1 gg z) (am_rp (-5) (ppH w0 ff w1 gg z)) := by
  refine am_intro (by decide) (Nat.le_of_ble_eq_true rfl) ?_
  refine ar_aload_n (i := 0) (pc := 0) dX6_undo_0 rfl rfl ?_
  refine ar_getf (pc := 1) dX6_undo_1 fX6_36 rfl rfl ?_
  refine ar_getf (pc := 4) dX6_undo_4 fX6_192 rfl rfl ?_
  refine ar_if_ne (pc := 7) (tgt := 13) dX6_undo_7 (by decide) (fun c7 => absurd (by rw [hk, nI_0]) c7) (fun c7 => ?_)
  refine ar_bipush (pc := 10) dX6_undo_10 q_bipush_m5 ?_
  exact ar_iret (pc := 12) dX6_undo_12 rfl rfl rfl ⟨rfl, rfl⟩

set_option maxHeartbeats 4000000 in
set_option maxRecDepth 100000 in
theorem sX6_undo_s (w0 : Bool) (ff : Nat → Int32) (w1 : Bool) (gg : Nat → Int32) (z : PV) (hk : 1 ≤ (pY z).2.2) (u : SV) (hu : (pY z).1 (lat (pY z).2.1) = some u) (hyn : (pY z).2.1 < 6) (hyk : (pY z).2.2 ≤ 6) : am_Sp mX6_undo [.ref 2] (ppH w0 ff w1 gg z) (am_rp (nI ((pY z).2.2 - 1)) (ppH w0 ff w1 gg (tbZ z u))) := by
  refine am_intro (by decide) (Nat.le_of_ble_eq_true rfl) ?_
  refine ar_aload_n (i := 0) (pc := 0) dX6_undo_0 rfl rfl ?_
  refine ar_getf (pc := 1) dX6_undo_1 fX6_36 rfl rfl ?_
  refine ar_getf (pc := 4) dX6_undo_4 fX6_192 rfl rfl ?_
  refine ar_if_ne (pc := 7) (tgt := 13) dX6_undo_7 (by decide) (fun c7 => ?_) (fun c7 => False.elim (by (simp (disch := omega) only [Int32.lt_iff_toInt_lt, Int32.le_iff_toInt_le, ← Int32.toInt_inj, ti_m6, ti_m1, ti_0, ti_1, ti_2, ti_3, ti_4, ti_5, ti_6, ti_7, ti_8, ti_9, ti_12, ti_100, ti_9999, ti_60, nI_toInt] at c7); omega))
  refine ar_aload_n (i := 0) (pc := 13) dX6_undo_13 rfl rfl ?_
  refine ar_getf (pc := 14) dX6_undo_14 fX6_36 rfl rfl ?_
  refine ar_aload_n (i := 0) (pc := 17) dX6_undo_17 rfl rfl ?_
  refine ar_getf (pc := 18) dX6_undo_18 fX6_10 rfl rfl ?_
  refine ar_tb (pc := 21) dX6_undo_21 kX6_212 rfl rfl rfl rfl rfl hyn hyk hk u hu ?_
  refine ar_aload_n (i := 0) (pc := 24) dX6_undo_24 rfl rfl ?_
  refine ar_getf (pc := 25) dX6_undo_25 fX6_36 rfl rfl ?_
  refine ar_getf (pc := 28) dX6_undo_28 fX6_192 rfl rfl ?_
  exact ar_iret (pc := 31) dX6_undo_31 rfl rfl rfl ⟨rfl, rfl⟩

theorem len2 (a b : Option Nat) : ([a, b] : List (Option Nat)).length = 2 := rfl
set_option maxHeartbeats 4000000 in
set_option maxRecDepth 100000 in
theorem sX6_save_o (w0 : Bool) (ff : Nat → Int32) (w1 : Bool) (gg : Nat → Int32) (z : PV) (s : Int32) (ho : s.toInt < 0 ∨ 1 < s.toInt) : am_Sp mX6_save [.ref 2, .int s] (ppH w0 ff w1 gg z) (am_rp (-2) (ppH w0 ff w1 gg z)) := by
  refine am_intro (by decide) (Nat.le_of_ble_eq_true rfl) ?_
  refine ar_iload_n (i := 1) (pc := 0) dX6_save_0 rfl rfl ?_
  refine ar_if_lt (pc := 1) (tgt := 13) dX6_save_1 (by decide) (fun c1 => ?_) (fun c1 => ?_)
  · refine ar_bipush (pc := 13) dX6_save_13 q_bipush_m2 ?_
    exact ar_iret (pc := 15) dX6_save_15 rfl rfl rfl ⟨rfl, rfl⟩
  · refine ar_iload_n (i := 1) (pc := 4) dX6_save_4 rfl rfl ?_
    refine ar_aload_n (i := 0) (pc := 5) dX6_save_5 rfl rfl ?_
    refine ar_getf (pc := 6) dX6_save_6 fX6_40 rfl rfl ?_
    refine ar_alenq (pc := 9) dX6_save_9 rfl ?_
    rw [len2]
    refine ar_icmp_lt (pc := 10) (tgt := 16) dX6_save_10 (by decide) (fun c10 => ?_) (fun c10 => ?_)
    · exact False.elim (by (simp (disch := omega) only [Int32.lt_iff_toInt_lt, Int32.le_iff_toInt_le, ← Int32.toInt_inj, ti_m6, ti_m1, ti_0, ti_1, ti_2, ti_3, ti_4, ti_5, ti_6, ti_7, ti_8, ti_9, ti_12, ti_100, ti_9999, ti_60, nI_toInt] at c1 c10); have e : (nI 2).toInt = 2 := nI_toInt (by omega); omega)
    · refine ar_bipush (pc := 13) dX6_save_13 q_bipush_m2 ?_
      exact ar_iret (pc := 15) dX6_save_15 rfl rfl rfl ⟨rfl, rfl⟩

set_option maxHeartbeats 4000000 in
set_option maxRecDepth 100000 in
theorem sX6_restore_o (w0 : Bool) (ff : Nat → Int32) (w1 : Bool) (gg : Nat → Int32) (z : PV) (s : Int32) (ho : s.toInt < 0 ∨ 1 < s.toInt) : am_Sp mX6_restore [.ref 2, .int s] (ppH w0 ff w1 gg z) (am_rp (-2) (ppH w0 ff w1 gg z)) := by
  refine am_intro (by decide) (Nat.le_of_ble_eq_true rfl) ?_
  refine ar_iload_n (i := 1) (pc := 0) dX6_restore_0 rfl rfl ?_
  refine ar_if_lt (pc := 1) (tgt := 13) dX6_restore_1 (by decide) (fun c1 => ?_) (fun c1 => ?_)
  · refine ar_bipush (pc := 13) dX6_restore_13 q_bipush_m2 ?_
    exact ar_iret (pc := 15) dX6_restore_15 rfl rfl rfl ⟨rfl, rfl⟩
  · refine ar_iload_n (i := 1) (pc := 4) dX6_restore_4 rfl rfl ?_
    refine ar_aload_n (i := 0) (pc := 5) dX6_restore_5 rfl rfl ?_
    refine ar_getf (pc := 6) dX6_restore_6 fX6_40 rfl rfl ?_
    refine ar_alenq (pc := 9) dX6_restore_9 rfl ?_
    rw [len2]
    refine ar_icmp_lt (pc := 10) (tgt := 16) dX6_restore_10 (by decide) (fun c10 => ?_) (fun c10 => ?_)
    · exact False.elim (by (simp (disch := omega) only [Int32.lt_iff_toInt_lt, Int32.le_iff_toInt_le, ← Int32.toInt_inj, ti_m6, ti_m1, ti_0, ti_1, ti_2, ti_3, ti_4, ti_5, ti_6, ti_7, ti_8, ti_9, ti_12, ti_100, ti_9999, ti_60, nI_toInt] at c1 c10); have e : (nI 2).toInt = 2 := nI_toInt (by omega); omega)
    · refine ar_bipush (pc := 13) dX6_restore_13 q_bipush_m2 ?_
      exact ar_iret (pc := 15) dX6_restore_15 rfl rfl rfl ⟨rfl, rfl⟩

theorem frH_set (k i : Nat) (c : am_C) (hc : k ∉ am_refs c) (h : am_H) (hh : frH k h = true) : frH k (h.set i (some c)) = true := by
  rw [frH, List.all_eq_true] at hh ⊢
  intro o ho
  rcases List.mem_or_eq_of_mem_set ho with q | q
  · exact hh o q
  · subst q
    show (!(am_refs c).contains k) = true
    rw [Bool.not_eq_true', List.contains_eq_mem, decide_eq_false_iff_not]
    exact hc
theorem nps_free {L : List (Option Value)} {S : List Value} {h : am_H} {ks : List Nat} (h1 : ks.all (fun k => frL k L S) = true) (h2 : ∀ k ∈ ks, frH k h = true) : ks.all (fun k => am_free k L S h) = true :=
  List.all_eq_true.mpr fun k hk => free_of (List.all_eq_true.mp h1 k hk) (h2 k hk)
set_option maxHeartbeats 4000000 in
set_option maxRecDepth 100000 in
theorem lX6_save_0t (h0 : am_H) (w0 : Bool) (ff : Nat → Int32) (w1 : Bool) (gg : Nat → Int32) (z : PV) (u : SV) (hu : (pL z).1 = some u) (kc ks : Nat) (hkc : (kc + am_nc mX3_copyFrom).ble (am_nc mX6_save) = true) (hks : (ks + am_ns mX3_copyFrom).ble (am_ns mX6_save) = true) : am_RW mX6_save h0 (am_rp (vBo (pN z)) (ppH w0 ff w1 gg (sL z (some (pN z), (pL z).2)))) kc ks 38 [some (.ref 2), some (.int (nI 0))] [] (ppH w0 ff w1 gg z) := by
  obtain ⟨z1, z2, z3, z4, z5, s1, s2⟩ := z
  change s1 = some u at hu
  subst hu
  refine ar_aload_n (i := 0) (pc := 38) dX6_save_38 rfl rfl ?_
  refine ar_getf (pc := 39) dX6_save_39 fX6_40 rfl rfl ?_
  refine ar_iload_n (i := 1) (pc := 42) dX6_save_42 rfl rfl ?_
  refine ar_aald (pc := 43) dX6_save_43 rfl rfl rfl ?_
  refine ar_aload_n (i := 0) (pc := 44) dX6_save_44 rfl rfl ?_
  refine ar_getf (pc := 45) dX6_save_45 fX6_10 rfl rfl ?_
  refine ar_mc (pc := 48) (l := [0, 1, 82, 83, 84, 85, 86, 87, 88, 89, 3, 4, 5, 6, 7, 8, 9, 10]) (ar_rV dX6_save_48 cal_X3_copyFrom kX6_201 rfl (sX3_copyFrom u (pN (z1, z2, z3, z4, z5, some u, s2))) rfl rfl rfl rfl rfl okp_T0 rfl rfl) okp_T0 rfl rfl hkc hks (fun r h1 hp => ?_)
  obtain ⟨rfl, rfl⟩ := hp
  refine ⟨rfl, ?_⟩
  refine ar_hp (mP_T0 w0 ff w1 gg (z1, z2, z3, z4, z5, some u, s2) u rfl) ?_
  refine ar_aload_n (i := 0) (pc := 51) dX6_save_51 rfl rfl ?_
  refine ar_getf (pc := 52) dX6_save_52 fX6_10 rfl rfl ?_
  refine ar_getf (pc := 55) dX6_save_55 fX6_79 rfl rfl ?_
  exact ar_iret (pc := 58) dX6_save_58 rfl hkc hks ⟨rfl, rfl⟩
set_option maxHeartbeats 4000000 in
set_option maxRecDepth 100000 in
theorem sX6_save_0s (w0 : Bool) (ff : Nat → Int32) (w1 : Bool) (gg : Nat → Int32) (z : PV) (u : SV) (hu : (pL z).1 = some u) : am_Sp mX6_save [.ref 2, .int (nI 0)] (ppH w0 ff w1 gg z) (am_rp (vBo (pN z)) (ppH w0 ff w1 gg (sL z (some (pN z), (pL z).2)))) := by
  refine am_intro (by decide) (Nat.le_of_ble_eq_true rfl) ?_
  obtain ⟨z1, z2, z3, z4, z5, s1, s2⟩ := z
  change s1 = some u at hu
  subst hu
  refine ar_iload_n (i := 1) (pc := 0) dX6_save_0 rfl rfl ?_
  refine ar_if_lt (pc := 1) (tgt := 13) dX6_save_1 (by decide) (fun c1 => False.elim (by (simp (disch := omega) only [Int32.lt_iff_toInt_lt, Int32.le_iff_toInt_le, ← Int32.toInt_inj, ti_m6, ti_m1, ti_0, ti_1, ti_2, ti_3, ti_4, ti_5, ti_6, ti_7, ti_8, ti_9, ti_12, ti_100, ti_9999, ti_60, nI_toInt] at c1) <;> omega)) (fun c1 => ?_)
  refine ar_iload_n (i := 1) (pc := 4) dX6_save_4 rfl rfl ?_
  refine ar_aload_n (i := 0) (pc := 5) dX6_save_5 rfl rfl ?_
  refine ar_getf (pc := 6) dX6_save_6 fX6_40 rfl rfl ?_
  refine ar_alenq (pc := 9) dX6_save_9 rfl ?_
  rw [len2]
  refine ar_icmp_lt (pc := 10) (tgt := 16) dX6_save_10 (by decide) (fun c10 => ?_) (fun c10 => absurd (by decide +kernel) c10)
  refine ar_aload_n (i := 0) (pc := 16) dX6_save_16 rfl rfl ?_
  refine ar_getf (pc := 17) dX6_save_17 fX6_40 rfl rfl ?_
  refine ar_iload_n (i := 1) (pc := 20) dX6_save_20 rfl rfl ?_
  refine ar_aald (pc := 21) dX6_save_21 rfl rfl rfl ?_
  refine ar_ifnonnull (pc := 22) (tgt := 38) dX6_save_22 (by decide) ?_
  exact lX6_save_0t _ w0 ff w1 gg (z1, z2, z3, z4, z5, some u, s2) u rfl 0 0 rfl rfl

theorem oknw_82 (w0 : Bool) : am_okmu [0, 1, 82, 83, 84, 85, 86, 87, 88, 89] [some w0, none, some true, none, none, none, none, none, none, none] = true := by cases w0 <;> decide +kernel
theorem oknv_82 (w0 : Bool) : am_okmu [0, 1, 82, 83, 84, 85, 86, 87, 88, 89] [some w0, none, some true, some true, some true, some true, some true, some true, some true, some true] = true := by cases w0 <;> decide +kernel
set_option maxHeartbeats 4000000 in
set_option maxRecDepth 100000 in
theorem sX6_save_0n (w0 : Bool) (ff : Nat → Int32) (w1 : Bool) (gg : Nat → Int32) (z : PV) (hu : (pL z).1 = none) : am_Sp mX6_save [.ref 2, .int (nI 0)] (ppH w0 ff w1 gg z) (am_rp (vBo (pN z)) (ppH w0 ff w1 gg (sL z (some (pN z), (pL z).2)))) := by
  refine am_intro (by decide) (Nat.le_of_ble_eq_true rfl) ?_
  obtain ⟨z1, z2, z3, z4, z5, s1, s2⟩ := z
  change s1 = none at hu
  subst hu
  refine ar_iload_n (i := 1) (pc := 0) dX6_save_0 rfl rfl ?_
  refine ar_if_lt (pc := 1) (tgt := 13) dX6_save_1 (by decide) (fun c1 => False.elim (by (simp (disch := omega) only [Int32.lt_iff_toInt_lt, Int32.le_iff_toInt_le, ← Int32.toInt_inj, ti_m6, ti_m1, ti_0, ti_1, ti_2, ti_3, ti_4, ti_5, ti_6, ti_7, ti_8, ti_9, ti_12, ti_100, ti_9999, ti_60, nI_toInt] at c1) <;> omega)) (fun c1 => ?_)
  refine ar_iload_n (i := 1) (pc := 4) dX6_save_4 rfl rfl ?_
  refine ar_aload_n (i := 0) (pc := 5) dX6_save_5 rfl rfl ?_
  refine ar_getf (pc := 6) dX6_save_6 fX6_40 rfl rfl ?_
  refine ar_alenq (pc := 9) dX6_save_9 rfl ?_
  rw [len2]
  refine ar_icmp_lt (pc := 10) (tgt := 16) dX6_save_10 (by decide) (fun c10 => ?_) (fun c10 => absurd (by decide +kernel) c10)
  refine ar_aload_n (i := 0) (pc := 16) dX6_save_16 rfl rfl ?_
  refine ar_getf (pc := 17) dX6_save_17 fX6_40 rfl rfl ?_
  refine ar_iload_n (i := 1) (pc := 20) dX6_save_20 rfl rfl ?_
  refine ar_aald (pc := 21) dX6_save_21 rfl rfl rfl ?_
  refine ar_ifnonnullN (pc := 22) dX6_save_22 ?_
  refine ar_aload_n (i := 0) (pc := 25) dX6_save_25 rfl rfl ?_
  refine ar_getf (pc := 26) dX6_save_26 fX6_40 rfl rfl ?_
  refine ar_iload_n (i := 1) (pc := 29) dX6_save_29 rfl rfl ?_
  refine ar_new (pc := 30) (k := 82) dX6_save_30 wX6_7 rfl (by decide) (free_of rfl (frH_pp w0 ff w1 gg (z1, z2, z3, z4, z5, none, s2) 82 (by omega) (fun i hi q1 q2 => by omega) (fun _ _ => rfl) (fun q1 q2 => by omega))) (Nat.le_of_ble_eq_true rfl) (Nat.le_of_ble_eq_true rfl) ?_
  refine ar_dup (pc := 33) dX6_save_33 rfl ?_
  refine ar_nc (pc := 34) (l := [0, 1, 82, 83, 84, 85, 86, 87, 88, 89]) (p0 := [some w0, none, some true, none, none, none, none, none, none, none]) (p1 := [some w0, none, some true, some true, some true, some true, some true, some true, some true, some true]) (ar_rI dX6_save_34 cal_X3_init rfl rfl kX6_9 rfl (sX3_init w0 ff) rfl rfl rfl (oknw_82 w0) rfl rfl) (oknv_82 w0) (by cases w0 <;> rfl) rfl rfl rfl (nps_free (ks := [83, 84, 85, 86, 87, 88, 89]) rfl (fun k hk => ?_)) rfl rfl (fun r h1 hp => ?_)
  · have hk2 : 83 ≤ k ∧ k < 90 := by
      simp only [List.mem_cons, List.not_mem_nil, or_false] at hk
      omega
    exact frH_set k 82 _ (List.not_mem_nil) _ (frH_pp w0 ff w1 gg (z1, z2, z3, z4, z5, none, s2) k (by omega) (fun i hi q1 q2 => by omega) (fun _ _ => rfl) (fun q1 q2 => by omega))
  obtain ⟨rfl, rfl⟩ := hp
  refine ⟨⟨rfl, rfl⟩, ?_⟩
  refine ar_aast (pc := 37) dX6_save_37 (ci := 2) (j := 0) rfl rfl (Nat.le_of_ble_eq_true rfl) rfl ?_
  refine ar_hp (mP_M0 w0 ff w1 gg (z1, z2, z3, z4, z5, none, s2) (v0 ff) _ rfl) ?_
  exact lX6_save_0t _ w0 ff w1 gg (z1, z2, z3, z4, z5, some (v0 ff), s2) (v0 ff) rfl _ _ rfl rfl

set_option maxHeartbeats 4000000 in
set_option maxRecDepth 100000 in
theorem sX6_restore_0n (w0 : Bool) (ff : Nat → Int32) (w1 : Bool) (gg : Nat → Int32) (z : PV) (hu : (pL z).1 = none) : am_Sp mX6_restore [.ref 2, .int (nI 0)] (ppH w0 ff w1 gg z) (am_rp (-5) (ppH w0 ff w1 gg z)) := by
  refine am_intro (by decide) (Nat.le_of_ble_eq_true rfl) ?_
  obtain ⟨z1, z2, z3, z4, z5, s1, s2⟩ := z
  change s1 = none at hu
  subst hu
  refine ar_iload_n (i := 1) (pc := 0) dX6_restore_0 rfl rfl ?_
  refine ar_if_lt (pc := 1) (tgt := 13) dX6_restore_1 (by decide) (fun c1 => False.elim (by (simp (disch := omega) only [Int32.lt_iff_toInt_lt, Int32.le_iff_toInt_le, ← Int32.toInt_inj, ti_m6, ti_m1, ti_0, ti_1, ti_2, ti_3, ti_4, ti_5, ti_6, ti_7, ti_8, ti_9, ti_12, ti_100, ti_9999, ti_60, nI_toInt] at c1) <;> omega)) (fun c1 => ?_)
  refine ar_iload_n (i := 1) (pc := 4) dX6_restore_4 rfl rfl ?_
  refine ar_aload_n (i := 0) (pc := 5) dX6_restore_5 rfl rfl ?_
  refine ar_getf (pc := 6) dX6_restore_6 fX6_40 rfl rfl ?_
  refine ar_alenq (pc := 9) dX6_restore_9 rfl ?_
  rw [len2]
  refine ar_icmp_lt (pc := 10) (tgt := 16) dX6_restore_10 (by decide) (fun c10 => ?_) (fun c10 => absurd (by decide +kernel) c10)
  refine ar_aload_n (i := 0) (pc := 16) dX6_restore_16 rfl rfl ?_
  refine ar_getf (pc := 17) dX6_restore_17 fX6_40 rfl rfl ?_
  refine ar_iload_n (i := 1) (pc := 20) dX6_restore_20 rfl rfl ?_
  refine ar_aald (pc := 21) dX6_restore_21 rfl rfl rfl ?_
  refine ar_astore_nN (i := 2) (pc := 22) dX6_restore_22 rfl (Nat.le_of_ble_eq_true rfl) rfl ?_
  refine ar_aload_nN (i := 2) (pc := 23) dX6_restore_23 rfl rfl ?_
  refine ar_ifnonnullN (pc := 24) dX6_restore_24 ?_
  refine ar_bipush (pc := 27) dX6_restore_27 q_bipush_m5 ?_
  exact ar_iret (pc := 29) dX6_restore_29 rfl rfl rfl ⟨rfl, rfl⟩

set_option maxHeartbeats 4000000 in
set_option maxRecDepth 100000 in
theorem sX6_restore_0s (w0 : Bool) (ff : Nat → Int32) (w1 : Bool) (gg : Nat → Int32) (z : PV) (u : SV) (hu : (pL z).1 = some u) (hyn : (pY z).2.1 < 6) (hyk : (pY z).2.2 ≤ 6) : am_Sp mX6_restore [.ref 2, .int (nI 0)] (ppH w0 ff w1 gg z) (am_rp (vBo u) (ppH w0 ff w1 gg (sN (rcZ z) u))) := by
  refine am_intro (by decide) (Nat.le_of_ble_eq_true rfl) ?_
  obtain ⟨z1, z2, z3, z4, z5, s1, s2⟩ := z
  change s1 = some u at hu
  subst hu
  refine ar_iload_n (i := 1) (pc := 0) dX6_restore_0 rfl rfl ?_
  refine ar_if_lt (pc := 1) (tgt := 13) dX6_restore_1 (by decide) (fun c1 => False.elim (by (simp (disch := omega) only [Int32.lt_iff_toInt_lt, Int32.le_iff_toInt_le, ← Int32.toInt_inj, ti_m6, ti_m1, ti_0, ti_1, ti_2, ti_3, ti_4, ti_5, ti_6, ti_7, ti_8, ti_9, ti_12, ti_100, ti_9999, ti_60, nI_toInt] at c1) <;> omega)) (fun c1 => ?_)
  refine ar_iload_n (i := 1) (pc := 4) dX6_restore_4 rfl rfl ?_
  refine ar_aload_n (i := 0) (pc := 5) dX6_restore_5 rfl rfl ?_
  refine ar_getf (pc := 6) dX6_restore_6 fX6_40 rfl rfl ?_
  refine ar_alenq (pc := 9) dX6_restore_9 rfl ?_
  rw [len2]
  refine ar_icmp_lt (pc := 10) (tgt := 16) dX6_restore_10 (by decide) (fun c10 => ?_) (fun c10 => absurd (by decide +kernel) c10)
  refine ar_aload_n (i := 0) (pc := 16) dX6_restore_16 rfl rfl ?_
  refine ar_getf (pc := 17) dX6_restore_17 fX6_40 rfl rfl ?_
  refine ar_iload_n (i := 1) (pc := 20) dX6_restore_20 rfl rfl ?_
  refine ar_aald (pc := 21) dX6_restore_21 rfl rfl rfl ?_
  refine ar_astore_n (i := 2) (pc := 22) dX6_restore_22 rfl (Nat.le_of_ble_eq_true rfl) rfl ?_
  refine ar_aload_n (i := 2) (pc := 23) dX6_restore_23 rfl rfl ?_
  refine ar_ifnonnull (pc := 24) (tgt := 30) dX6_restore_24 (by decide) ?_
  refine ar_aload_n (i := 0) (pc := 30) dX6_restore_30 rfl rfl ?_
  refine ar_getf (pc := 31) dX6_restore_31 fX6_36 rfl rfl ?_
  refine ar_aload_n (i := 0) (pc := 34) dX6_restore_34 rfl rfl ?_
  refine ar_getf (pc := 35) dX6_restore_35 fX6_10 rfl rfl ?_
  refine ar_rec (pc := 38) dX6_restore_38 kX6_48 rfl rfl rfl rfl rfl hyn hyk ?_
  refine ar_aload_n (i := 0) (pc := 41) dX6_restore_41 rfl rfl ?_
  refine ar_getf (pc := 42) dX6_restore_42 fX6_10 rfl rfl ?_
  refine ar_aload_n (i := 2) (pc := 45) dX6_restore_45 rfl rfl ?_
  refine ar_mc (pc := 46) (l := [0, 1, 3, 4, 5, 6, 7, 8, 9, 10, 82, 83, 84, 85, 86, 87, 88, 89]) (ar_rV dX6_restore_46 cal_X3_copyFrom kX6_201 rfl (sX3_copyFrom (pN (rcZ (z1, z2, z3, z4, z5, some u, s2))) u) rfl rfl rfl rfl rfl okp_R0 rfl rfl) okp_R0 rfl rfl rfl rfl (fun r h1 hp => ?_)
  obtain ⟨rfl, rfl⟩ := hp
  refine ⟨rfl, ?_⟩
  refine ar_hp (mP_R0 w0 ff w1 gg (rcZ (z1, z2, z3, z4, z5, some u, s2)) u rfl) ?_
  refine ar_aload_n (i := 0) (pc := 49) dX6_restore_49 rfl rfl ?_
  refine ar_getf (pc := 50) dX6_restore_50 fX6_10 rfl rfl ?_
  refine ar_getf (pc := 53) dX6_restore_53 fX6_79 rfl rfl ?_
  exact ar_iret (pc := 56) dX6_restore_56 rfl rfl rfl ⟨rfl, rfl⟩

set_option maxHeartbeats 4000000 in
set_option maxRecDepth 100000 in
theorem lX6_save_1t (h0 : am_H) (w0 : Bool) (ff : Nat → Int32) (w1 : Bool) (gg : Nat → Int32) (z : PV) (u : SV) (hu : (pL z).2 = some u) (kc ks : Nat) (hkc : (kc + am_nc mX3_copyFrom).ble (am_nc mX6_save) = true) (hks : (ks + am_ns mX3_copyFrom).ble (am_ns mX6_save) = true) : am_RW mX6_save h0 (am_rp (vBo (pN z)) (ppH w0 ff w1 gg (sL z ((pL z).1, some (pN z))))) kc ks 38 [some (.ref 2), some (.int (nI 1))] [] (ppH w0 ff w1 gg z) := by
  obtain ⟨z1, z2, z3, z4, z5, s1, s2⟩ := z
  change s2 = some u at hu
  subst hu
  refine ar_aload_n (i := 0) (pc := 38) dX6_save_38 rfl rfl ?_
  refine ar_getf (pc := 39) dX6_save_39 fX6_40 rfl rfl ?_
  refine ar_iload_n (i := 1) (pc := 42) dX6_save_42 rfl rfl ?_
  refine ar_aald (pc := 43) dX6_save_43 rfl rfl rfl ?_
  refine ar_aload_n (i := 0) (pc := 44) dX6_save_44 rfl rfl ?_
  refine ar_getf (pc := 45) dX6_save_45 fX6_10 rfl rfl ?_
  refine ar_mc (pc := 48) (l := [0, 1, 90, 91, 92, 93, 94, 95, 96, 97, 3, 4, 5, 6, 7, 8, 9, 10]) (ar_rV dX6_save_48 cal_X3_copyFrom kX6_201 rfl (sX3_copyFrom u (pN (z1, z2, z3, z4, z5, s1, some u))) rfl rfl rfl rfl rfl okp_T1 rfl rfl) okp_T1 rfl rfl hkc hks (fun r h1 hp => ?_)
  obtain ⟨rfl, rfl⟩ := hp
  refine ⟨rfl, ?_⟩
  refine ar_hp (mP_T1 w0 ff w1 gg (z1, z2, z3, z4, z5, s1, some u) u rfl) ?_
  refine ar_aload_n (i := 0) (pc := 51) dX6_save_51 rfl rfl ?_
  refine ar_getf (pc := 52) dX6_save_52 fX6_10 rfl rfl ?_
  refine ar_getf (pc := 55) dX6_save_55 fX6_79 rfl rfl ?_
  exact ar_iret (pc := 58) dX6_save_58 rfl hkc hks ⟨rfl, rfl⟩
set_option maxHeartbeats 4000000 in
set_option maxRecDepth 100000 in
theorem sX6_save_1s (w0 : Bool) (ff : Nat → Int32) (w1 : Bool) (gg : Nat → Int32) (z : PV) (u : SV) (hu : (pL z).2 = some u) : am_Sp mX6_save [.ref 2, .int (nI 1)] (ppH w0 ff w1 gg z) (am_rp (vBo (pN z)) (ppH w0 ff w1 gg (sL z ((pL z).1, some (pN z))))) := by
  refine am_intro (by decide) (Nat.le_of_ble_eq_true rfl) ?_
  obtain ⟨z1, z2, z3, z4, z5, s1, s2⟩ := z
  change s2 = some u at hu
  subst hu
  refine ar_iload_n (i := 1) (pc := 0) dX6_save_0 rfl rfl ?_
  refine ar_if_lt (pc := 1) (tgt := 13) dX6_save_1 (by decide) (fun c1 => False.elim (by (simp (disch := omega) only [Int32.lt_iff_toInt_lt, Int32.le_iff_toInt_le, ← Int32.toInt_inj, ti_m6, ti_m1, ti_0, ti_1, ti_2, ti_3, ti_4, ti_5, ti_6, ti_7, ti_8, ti_9, ti_12, ti_100, ti_9999, ti_60, nI_toInt] at c1) <;> omega)) (fun c1 => ?_)
  refine ar_iload_n (i := 1) (pc := 4) dX6_save_4 rfl rfl ?_
  refine ar_aload_n (i := 0) (pc := 5) dX6_save_5 rfl rfl ?_
  refine ar_getf (pc := 6) dX6_save_6 fX6_40 rfl rfl ?_
  refine ar_alenq (pc := 9) dX6_save_9 rfl ?_
  rw [len2]
  refine ar_icmp_lt (pc := 10) (tgt := 16) dX6_save_10 (by decide) (fun c10 => ?_) (fun c10 => absurd (by decide +kernel) c10)
  refine ar_aload_n (i := 0) (pc := 16) dX6_save_16 rfl rfl ?_
  refine ar_getf (pc := 17) dX6_save_17 fX6_40 rfl rfl ?_
  refine ar_iload_n (i := 1) (pc := 20) dX6_save_20 rfl rfl ?_
  refine ar_aald (pc := 21) dX6_save_21 rfl rfl rfl ?_
  refine ar_ifnonnull (pc := 22) (tgt := 38) dX6_save_22 (by decide) ?_
  exact lX6_save_1t _ w0 ff w1 gg (z1, z2, z3, z4, z5, s1, some u) u rfl 0 0 rfl rfl

theorem oknw_90 (w0 : Bool) : am_okmu [0, 1, 90, 91, 92, 93, 94, 95, 96, 97] [some w0, none, some true, none, none, none, none, none, none, none] = true := by cases w0 <;> decide +kernel
theorem oknv_90 (w0 : Bool) : am_okmu [0, 1, 90, 91, 92, 93, 94, 95, 96, 97] [some w0, none, some true, some true, some true, some true, some true, some true, some true, some true] = true := by cases w0 <;> decide +kernel
set_option maxHeartbeats 4000000 in
set_option maxRecDepth 100000 in
theorem sX6_save_1n (w0 : Bool) (ff : Nat → Int32) (w1 : Bool) (gg : Nat → Int32) (z : PV) (hu : (pL z).2 = none) : am_Sp mX6_save [.ref 2, .int (nI 1)] (ppH w0 ff w1 gg z) (am_rp (vBo (pN z)) (ppH w0 ff w1 gg (sL z ((pL z).1, some (pN z))))) := by
  refine am_intro (by decide) (Nat.le_of_ble_eq_true rfl) ?_
  obtain ⟨z1, z2, z3, z4, z5, s1, s2⟩ := z
  change s2 = none at hu
  subst hu
  refine ar_iload_n (i := 1) (pc := 0) dX6_save_0 rfl rfl ?_
  refine ar_if_lt (pc := 1) (tgt := 13) dX6_save_1 (by decide) (fun c1 => False.elim (by (simp (disch := omega) only [Int32.lt_iff_toInt_lt, Int32.le_iff_toInt_le, ← Int32.toInt_inj, ti_m6, ti_m1, ti_0, ti_1, ti_2, ti_3, ti_4, ti_5, ti_6, ti_7, ti_8, ti_9, ti_12, ti_100, ti_9999, ti_60, nI_toInt] at c1) <;> omega)) (fun c1 => ?_)
  refine ar_iload_n (i := 1) (pc := 4) dX6_save_4 rfl rfl ?_
  refine ar_aload_n (i := 0) (pc := 5) dX6_save_5 rfl rfl ?_
  refine ar_getf (pc := 6) dX6_save_6 fX6_40 rfl rfl ?_
  refine ar_alenq (pc := 9) dX6_save_9 rfl ?_
  rw [len2]
  refine ar_icmp_lt (pc := 10) (tgt := 16) dX6_save_10 (by decide) (fun c10 => ?_) (fun c10 => absurd (by decide +kernel) c10)
  refine ar_aload_n (i := 0) (pc := 16) dX6_save_16 rfl rfl ?_
  refine ar_getf (pc := 17) dX6_save_17 fX6_40 rfl rfl ?_
  refine ar_iload_n (i := 1) (pc := 20) dX6_save_20 rfl rfl ?_
  refine ar_aald (pc := 21) dX6_save_21 rfl rfl rfl ?_
  refine ar_ifnonnullN (pc := 22) dX6_save_22 ?_
  refine ar_aload_n (i := 0) (pc := 25) dX6_save_25 rfl rfl ?_
  refine ar_getf (pc := 26) dX6_save_26 fX6_40 rfl rfl ?_
  refine ar_iload_n (i := 1) (pc := 29) dX6_save_29 rfl rfl ?_
  refine ar_new (pc := 30) (k := 90) dX6_save_30 wX6_7 rfl (by decide) (free_of rfl (frH_pp w0 ff w1 gg (z1, z2, z3, z4, z5, s1, none) 90 (by omega) (fun i hi q1 q2 => by omega) (fun q1 q2 => by omega) (fun _ _ => rfl))) (Nat.le_of_ble_eq_true rfl) (Nat.le_of_ble_eq_true rfl) ?_
  refine ar_dup (pc := 33) dX6_save_33 rfl ?_
  refine ar_nc (pc := 34) (l := [0, 1, 90, 91, 92, 93, 94, 95, 96, 97]) (p0 := [some w0, none, some true, none, none, none, none, none, none, none]) (p1 := [some w0, none, some true, some true, some true, some true, some true, some true, some true, some true]) (ar_rI dX6_save_34 cal_X3_init rfl rfl kX6_9 rfl (sX3_init w0 ff) rfl rfl rfl (oknw_90 w0) rfl rfl) (oknv_90 w0) (by cases w0 <;> rfl) rfl rfl rfl (nps_free (ks := [91, 92, 93, 94, 95, 96, 97]) rfl (fun k hk => ?_)) rfl rfl (fun r h1 hp => ?_)
  · have hk2 : 91 ≤ k ∧ k < 98 := by
      simp only [List.mem_cons, List.not_mem_nil, or_false] at hk
      omega
    exact frH_set k 90 _ (List.not_mem_nil) _ (frH_pp w0 ff w1 gg (z1, z2, z3, z4, z5, s1, none) k (by omega) (fun i hi q1 q2 => by omega) (fun q1 q2 => by omega) (fun _ _ => rfl))
  obtain ⟨rfl, rfl⟩ := hp
  refine ⟨⟨rfl, rfl⟩, ?_⟩
  refine ar_aast (pc := 37) dX6_save_37 (ci := 2) (j := 1) rfl rfl (Nat.le_of_ble_eq_true rfl) rfl ?_
  refine ar_hp (mP_M1 w0 ff w1 gg (z1, z2, z3, z4, z5, s1, none) (v0 ff) _ rfl) ?_
  exact lX6_save_1t _ w0 ff w1 gg (z1, z2, z3, z4, z5, s1, some (v0 ff)) (v0 ff) rfl _ _ rfl rfl

set_option maxHeartbeats 4000000 in
set_option maxRecDepth 100000 in
theorem sX6_restore_1n (w0 : Bool) (ff : Nat → Int32) (w1 : Bool) (gg : Nat → Int32) (z : PV) (hu : (pL z).2 = none) : am_Sp mX6_restore [.ref 2, .int (nI 1)] (ppH w0 ff w1 gg z) (am_rp (-5) (ppH w0 ff w1 gg z)) := by
  refine am_intro (by decide) (Nat.le_of_ble_eq_true rfl) ?_
  obtain ⟨z1, z2, z3, z4, z5, s1, s2⟩ := z
  change s2 = none at hu
  subst hu
  refine ar_iload_n (i := 1) (pc := 0) dX6_restore_0 rfl rfl ?_
  refine ar_if_lt (pc := 1) (tgt := 13) dX6_restore_1 (by decide) (fun c1 => False.elim (by (simp (disch := omega) only [Int32.lt_iff_toInt_lt, Int32.le_iff_toInt_le, ← Int32.toInt_inj, ti_m6, ti_m1, ti_0, ti_1, ti_2, ti_3, ti_4, ti_5, ti_6, ti_7, ti_8, ti_9, ti_12, ti_100, ti_9999, ti_60, nI_toInt] at c1) <;> omega)) (fun c1 => ?_)
  refine ar_iload_n (i := 1) (pc := 4) dX6_restore_4 rfl rfl ?_
  refine ar_aload_n (i := 0) (pc := 5) dX6_restore_5 rfl rfl ?_
  refine ar_getf (pc := 6) dX6_restore_6 fX6_40 rfl rfl ?_
  refine ar_alenq (pc := 9) dX6_restore_9 rfl ?_
  rw [len2]
  refine ar_icmp_lt (pc := 10) (tgt := 16) dX6_restore_10 (by decide) (fun c10 => ?_) (fun c10 => absurd (by decide +kernel) c10)
  refine ar_aload_n (i := 0) (pc := 16) dX6_restore_16 rfl rfl ?_
  refine ar_getf (pc := 17) dX6_restore_17 fX6_40 rfl rfl ?_
  refine ar_iload_n (i := 1) (pc := 20) dX6_restore_20 rfl rfl ?_
  refine ar_aald (pc := 21) dX6_restore_21 rfl rfl rfl ?_
  refine ar_astore_nN (i := 2) (pc := 22) dX6_restore_22 rfl (Nat.le_of_ble_eq_true rfl) rfl ?_
  refine ar_aload_nN (i := 2) (pc := 23) dX6_restore_23 rfl rfl ?_
  refine ar_ifnonnullN (pc := 24) dX6_restore_24 ?_
  refine ar_bipush (pc := 27) dX6_restore_27 q_bipush_m5 ?_
  exact ar_iret (pc := 29) dX6_restore_29 rfl rfl rfl ⟨rfl, rfl⟩

set_option maxHeartbeats 4000000 in
set_option maxRecDepth 100000 in
theorem sX6_restore_1s (w0 : Bool) (ff : Nat → Int32) (w1 : Bool) (gg : Nat → Int32) (z : PV) (u : SV) (hu : (pL z).2 = some u) (hyn : (pY z).2.1 < 6) (hyk : (pY z).2.2 ≤ 6) : am_Sp mX6_restore [.ref 2, .int (nI 1)] (ppH w0 ff w1 gg z) (am_rp (vBo u) (ppH w0 ff w1 gg (sN (rcZ z) u))) := by
  refine am_intro (by decide) (Nat.le_of_ble_eq_true rfl) ?_
  obtain ⟨z1, z2, z3, z4, z5, s1, s2⟩ := z
  change s2 = some u at hu
  subst hu
  refine ar_iload_n (i := 1) (pc := 0) dX6_restore_0 rfl rfl ?_
  refine ar_if_lt (pc := 1) (tgt := 13) dX6_restore_1 (by decide) (fun c1 => False.elim (by (simp (disch := omega) only [Int32.lt_iff_toInt_lt, Int32.le_iff_toInt_le, ← Int32.toInt_inj, ti_m6, ti_m1, ti_0, ti_1, ti_2, ti_3, ti_4, ti_5, ti_6, ti_7, ti_8, ti_9, ti_12, ti_100, ti_9999, ti_60, nI_toInt] at c1) <;> omega)) (fun c1 => ?_)
  refine ar_iload_n (i := 1) (pc := 4) dX6_restore_4 rfl rfl ?_
  refine ar_aload_n (i := 0) (pc := 5) dX6_restore_5 rfl rfl ?_
  refine ar_getf (pc := 6) dX6_restore_6 fX6_40 rfl rfl ?_
  refine ar_alenq (pc := 9) dX6_restore_9 rfl ?_
  rw [len2]
  refine ar_icmp_lt (pc := 10) (tgt := 16) dX6_restore_10 (by decide) (fun c10 => ?_) (fun c10 => absurd (by decide +kernel) c10)
  refine ar_aload_n (i := 0) (pc := 16) dX6_restore_16 rfl rfl ?_
  refine ar_getf (pc := 17) dX6_restore_17 fX6_40 rfl rfl ?_
  refine ar_iload_n (i := 1) (pc := 20) dX6_restore_20 rfl rfl ?_
  refine ar_aald (pc := 21) dX6_restore_21 rfl rfl rfl ?_
  refine ar_astore_n (i := 2) (pc := 22) dX6_restore_22 rfl (Nat.le_of_ble_eq_true rfl) rfl ?_
  refine ar_aload_n (i := 2) (pc := 23) dX6_restore_23 rfl rfl ?_
  refine ar_ifnonnull (pc := 24) (tgt := 30) dX6_restore_24 (by decide) ?_
  refine ar_aload_n (i := 0) (pc := 30) dX6_restore_30 rfl rfl ?_
  refine ar_getf (pc := 31) dX6_restore_31 fX6_36 rfl rfl ?_
  refine ar_aload_n (i := 0) (pc := 34) dX6_restore_34 rfl rfl ?_
  refine ar_getf (pc := 35) dX6_restore_35 fX6_10 rfl rfl ?_
  refine ar_rec (pc := 38) dX6_restore_38 kX6_48 rfl rfl rfl rfl rfl hyn hyk ?_
  refine ar_aload_n (i := 0) (pc := 41) dX6_restore_41 rfl rfl ?_
  refine ar_getf (pc := 42) dX6_restore_42 fX6_10 rfl rfl ?_
  refine ar_aload_n (i := 2) (pc := 45) dX6_restore_45 rfl rfl ?_
  refine ar_mc (pc := 46) (l := [0, 1, 3, 4, 5, 6, 7, 8, 9, 10, 90, 91, 92, 93, 94, 95, 96, 97]) (ar_rV dX6_restore_46 cal_X3_copyFrom kX6_201 rfl (sX3_copyFrom (pN (rcZ (z1, z2, z3, z4, z5, s1, some u))) u) rfl rfl rfl rfl rfl okp_R1 rfl rfl) okp_R1 rfl rfl rfl rfl (fun r h1 hp => ?_)
  obtain ⟨rfl, rfl⟩ := hp
  refine ⟨rfl, ?_⟩
  refine ar_hp (mP_R1 w0 ff w1 gg (rcZ (z1, z2, z3, z4, z5, s1, some u)) u rfl) ?_
  refine ar_aload_n (i := 0) (pc := 49) dX6_restore_49 rfl rfl ?_
  refine ar_getf (pc := 50) dX6_restore_50 fX6_10 rfl rfl ?_
  refine ar_getf (pc := 53) dX6_restore_53 fX6_79 rfl rfl ?_
  exact ar_iret (pc := 56) dX6_restore_56 rfl rfl rfl ⟨rfl, rfl⟩

