/-! the reference changed: set, roof, come, go, height, stand, shuffle, play -/
theorem mr_chg0 {z : PV} {q : RV} (M : mr_R z q) {v : SV} {s : Nat → Int32} (hs : sl_R 0 v s) : mr_R (sN (rcZ z) v) (ru_S (rm_Q q (pY z).2.2) s) := by
  obtain ⟨m1, m2, m3, m4⟩ := M
  exact ⟨hs, hi_rec m2 m1, m3, m4⟩
def mo_I (k : Nat) : Int32 := if k < 2 then 999 else if k = 4 then 5 else 100
theorem mo_T (k : Nat) : (mo_I k).toInt = (if k < 2 then 999 else if k = 4 then 5 else 100) := by
  unfold mo_I
  by_cases c : k < 2
  · rw [if_pos c, if_pos c]; decide +kernel
  · rw [if_neg c, if_neg c]
    by_cases d : k = 4
    · rw [if_pos d, if_pos d]; decide +kernel
    · rw [if_neg d, if_neg d]; decide +kernel
set_option maxHeartbeats 4000000 in
set_option maxRecDepth 100000 in
theorem sX7_mostOf (h : am_H) {k : Nat} (hk : k < 6) : am_Sp mX7_mostOf [.int (nI k)] (h) (am_rp (mo_I k) h) := by
  refine am_intro (by decide) (Nat.le_of_ble_eq_true rfl) ?_
  refine ar_iload_n (i := 0) (pc := 0) dX7_mostOf_0 rfl rfl ?_
  refine ar_iconst (pc := 1) dX7_mostOf_1 q_iconst_2 ?_
  refine ar_icmp_ge (pc := 2) (tgt := 11) dX7_mostOf_2 (by decide) (fun c2 => ?_) (fun c2 => ?_)
  · refine ar_iload_n (i := 0) (pc := 11) dX7_mostOf_11 rfl rfl ?_
    refine ar_iconst (pc := 12) dX7_mostOf_12 q_iconst_4 ?_
    refine ar_icmp_ne (pc := 13) (tgt := 20) dX7_mostOf_13 (by decide) (fun c13 => ?_) (fun c13 => ?_)
    · refine ar_bipush (pc := 20) dX7_mostOf_20 q_bipush_100 ?_
      exact ar_iret (pc := 22) dX7_mostOf_22 rfl rfl rfl ⟨by rw [mo_I, if_neg (fun z => absurd ((nI_leI (a := 2) (b := k) (by omega) (by omega)).mp c2) (by omega)), if_neg (fun z => c13 (by rw [z]; rfl))], rfl⟩
    · refine ar_iconst (pc := 16) dX7_mostOf_16 q_iconst_5 ?_
      refine ar_goto (tgt := 22) (pc := 17) dX7_mostOf_17 (by decide) ?_
      exact ar_iret (pc := 22) dX7_mostOf_22 rfl rfl rfl ⟨by rw [mo_I, if_neg (fun z => absurd ((nI_leI (a := 2) (b := k) (by omega) (by omega)).mp c2) (by omega)), if_pos ((nI_eq (a := k) (b := 4) (by omega) (by omega)).mp c13)], rfl⟩
  · refine ar_sipush (pc := 5) dX7_mostOf_5 q_sipush_999 ?_
    refine ar_goto (tgt := 22) (pc := 8) dX7_mostOf_8 (by decide) ?_
    exact ar_iret (pc := 22) dX7_mostOf_22 rfl rfl rfl ⟨by rw [mo_I, if_pos (Nat.lt_of_not_le fun z => c2 ((nI_leI (a := 2) (b := k) (by omega) (by omega)).mpr z))], rfl⟩

set_option maxHeartbeats 4000000 in
set_option maxRecDepth 100000 in
theorem sX7_set_s (q : RV) (z : PV) (M : mr_R z q) (n : Nat) (K : ok_D (pN z) n) (R : ro_R 0 n (pN z) (rq_S q)) {k : Nat} (hk : k < 6) (a : Int32) (h0 : 0 ≤ a) (h1 : a ≤ mo_I k) : am_Sp mX7_set [.ref 2, .int (nI k), .int a] (md_H q) (qq_P (vS (pN z) k) (sN (rcZ z) (uS (pN z) (upd (vS (pN z)) k a)))) := by
  refine am_intro (by decide) (Nat.le_of_ble_eq_true rfl) ?_
  refine ar_iload_n (i := 1) (pc := 0) dX7_set_0 rfl rfl ?_
  refine ar_iconst (pc := 1) dX7_set_1 q_iconst_0 ?_
  refine ar_iconst (pc := 2) dX7_set_2 q_iconst_5 ?_
  refine ar_idS (pc := 3) dX7_set_3 cal_X7_in kX7_32 rfl (sX7_inB (md_H q) (nI k) 0 5) rfl rfl rfl rfl rfl (fun r h1 hp => ?_)
  obtain ⟨⟨h3, rfl⟩ | ⟨h3, rfl⟩, rfl⟩ := hp
  · refine ⟨rfl, ?_⟩
    refine ar_if_eq (pc := 6) (tgt := 21) dX7_set_6 (by decide) (fun c6 => absurd c6 (by decide)) (fun c6 => ?_)
    refine ar_iload_n (i := 2) (pc := 9) dX7_set_9 rfl rfl ?_
    refine ar_iconst (pc := 10) dX7_set_10 q_iconst_0 ?_
    refine ar_iload_n (i := 1) (pc := 11) dX7_set_11 rfl rfl ?_
    refine ar_idS (pc := 12) dX7_set_12 cal_X7_mostOf kX7_83 rfl (sX7_mostOf (md_H q) hk) rfl rfl rfl rfl rfl (fun r h1 hp => ?_)
    obtain ⟨rfl, rfl⟩ := hp
    refine ⟨rfl, ?_⟩
    refine ar_idS (pc := 15) dX7_set_15 cal_X7_in kX7_32 rfl (sX7_inB (md_H q) a 0 (mo_I k)) rfl rfl rfl rfl rfl (fun r h1 hp => ?_)
    obtain ⟨⟨h15, rfl⟩ | ⟨h15, rfl⟩, rfl⟩ := hp
    · refine ⟨rfl, ?_⟩
      refine ar_if_ne (pc := 18) (tgt := 24) dX7_set_18 (by decide) (fun c18 => ?_) (fun c18 => absurd c18 (by decide))
      refine ar_aload_n (i := 0) (pc := 24) dX7_set_24 rfl rfl ?_
      refine ar_idV (pc := 25) dX7_set_25 cal_X7_remembers kX7_86 rfl (sX7_remembers q (pY z).2.2 M.2.1.2.1 M.2.1.2.2.1) rfl rfl rfl rfl rfl rfl rfl (fun r h1 hp => ?_)
      obtain ⟨rfl, rfl⟩ := hp
      refine ⟨pat_md _ _, ?_⟩
      refine ar_hp (h' := md_H (rm_Q q (pY z).2.2)) rfl ?_
      refine ar_aload_n (i := 0) (pc := 28) dX7_set_28 rfl rfl ?_
      refine ar_getf (pc := 29) dX7_set_29 fX7_7 rfl rfl ?_
      refine ar_iload_n (i := 1) (pc := 32) dX7_set_32 rfl rfl ?_
      refine ar_iald (pc := 33) dX7_set_33 rfl (show k < 120 by omega) rfl ?_
      rw [show rq_S (rm_Q q (pY z).2.2) k = vS (pN z) k by have h := roS R k hk; rw [Nat.zero_add] at h; exact h]
      refine ar_istore_n (i := 3) (pc := 34) dX7_set_34 rfl (Nat.le_of_ble_eq_true rfl) rfl ?_
      refine ar_aload_n (i := 0) (pc := 35) dX7_set_35 rfl rfl ?_
      refine ar_getf (pc := 36) dX7_set_36 fX7_7 rfl rfl ?_
      refine ar_iload_n (i := 1) (pc := 39) dX7_set_39 rfl rfl ?_
      refine ar_iload_n (i := 2) (pc := 40) dX7_set_40 rfl rfl ?_
      refine ar_iast (pc := 41) dX7_set_41 rfl (show k < 120 by omega) rfl ?_
      rw [md_S]
      refine ar_iload_n (i := 3) (pc := 42) dX7_set_42 rfl rfl ?_
      exact ar_iret (pc := 43) dX7_set_43 rfl rfl rfl ⟨rfl, _, rfl, mr_chg0 M ⟨n, ok_set K hk (by rw [Int32.le_iff_toInt_le, ti_0] at h0; exact h0) (by rw [← mo_T]; rw [Int32.le_iff_toInt_le] at h1; exact h1), by have h := ro_uS R hk a; rw [Nat.zero_add] at h; exact h⟩⟩
    · refine ⟨rfl, ?_⟩
      refine ar_if_ne (pc := 18) (tgt := 24) dX7_set_18 (by decide) (fun c18 => absurd c18 (by decide)) (fun c18 => ?_)
      refine ar_bipush (pc := 21) dX7_set_21 q_bipush_m2 ?_
      exact absurd ⟨by rw [Int32.le_iff_toInt_le] at h0; exact h0, by rw [Int32.le_iff_toInt_le] at h1; exact h1⟩ h15
  · refine ⟨rfl, ?_⟩
    refine ar_if_eq (pc := 6) (tgt := 21) dX7_set_6 (by decide) (fun c6 => ?_) (fun c6 => absurd c6 (by decide))
    refine ar_bipush (pc := 21) dX7_set_21 q_bipush_m2 ?_
    exact absurd ⟨by rw [ti_0, nI_toInt (by omega)]; omega, by rw [ti_5, nI_toInt (by omega)]; omega⟩ h3

set_option maxHeartbeats 4000000 in
set_option maxRecDepth 100000 in
theorem sX7_set_o (q : RV) (z : PV) (M : mr_R z q) (n : Nat) (K : ok_D (pN z) n) (R : ro_R 0 n (pN z) (rq_S q)) (s a : Int32) (ho : s.toInt < 0 ∨ 5 < s.toInt) : am_Sp mX7_set [.ref 2, .int s, .int a] (md_H q) (qq_P (-2) (z)) := by
  refine am_intro (by decide) (Nat.le_of_ble_eq_true rfl) ?_
  refine ar_iload_n (i := 1) (pc := 0) dX7_set_0 rfl rfl ?_
  refine ar_iconst (pc := 1) dX7_set_1 q_iconst_0 ?_
  refine ar_iconst (pc := 2) dX7_set_2 q_iconst_5 ?_
  refine ar_idS (pc := 3) dX7_set_3 cal_X7_in kX7_32 rfl (sX7_inB (md_H q) s 0 5) rfl rfl rfl rfl rfl (fun r h1 hp => ?_)
  obtain ⟨⟨h3, rfl⟩ | ⟨h3, rfl⟩, rfl⟩ := hp
  · refine ⟨rfl, ?_⟩
    refine ar_if_eq (pc := 6) (tgt := 21) dX7_set_6 (by decide) (fun c6 => absurd c6 (by decide)) (fun c6 => ?_)
    exact absurd h3 (by rw [ti_0, ti_5]; omega)
  · refine ⟨rfl, ?_⟩
    refine ar_if_eq (pc := 6) (tgt := 21) dX7_set_6 (by decide) (fun c6 => ?_) (fun c6 => absurd c6 (by decide))
    refine ar_bipush (pc := 21) dX7_set_21 q_bipush_m2 ?_
    exact ar_iret (pc := 23) dX7_set_23 rfl rfl rfl ⟨rfl, q, rfl, M⟩

set_option maxHeartbeats 4000000 in
set_option maxRecDepth 100000 in
theorem sX7_set_v (q : RV) (z : PV) (M : mr_R z q) (n : Nat) (K : ok_D (pN z) n) (R : ro_R 0 n (pN z) (rq_S q)) {k : Nat} (hk : k < 6) (a : Int32) (ho : a < 0 ∨ mo_I k < a) : am_Sp mX7_set [.ref 2, .int (nI k), .int a] (md_H q) (qq_P (-2) (z)) := by
  refine am_intro (by decide) (Nat.le_of_ble_eq_true rfl) ?_
  refine ar_iload_n (i := 1) (pc := 0) dX7_set_0 rfl rfl ?_
  refine ar_iconst (pc := 1) dX7_set_1 q_iconst_0 ?_
  refine ar_iconst (pc := 2) dX7_set_2 q_iconst_5 ?_
  refine ar_idS (pc := 3) dX7_set_3 cal_X7_in kX7_32 rfl (sX7_inB (md_H q) (nI k) 0 5) rfl rfl rfl rfl rfl (fun r h1 hp => ?_)
  obtain ⟨⟨h3, rfl⟩ | ⟨h3, rfl⟩, rfl⟩ := hp
  · refine ⟨rfl, ?_⟩
    refine ar_if_eq (pc := 6) (tgt := 21) dX7_set_6 (by decide) (fun c6 => absurd c6 (by decide)) (fun c6 => ?_)
    refine ar_iload_n (i := 2) (pc := 9) dX7_set_9 rfl rfl ?_
    refine ar_iconst (pc := 10) dX7_set_10 q_iconst_0 ?_
    refine ar_iload_n (i := 1) (pc := 11) dX7_set_11 rfl rfl ?_
    refine ar_idS (pc := 12) dX7_set_12 cal_X7_mostOf kX7_83 rfl (sX7_mostOf (md_H q) hk) rfl rfl rfl rfl rfl (fun r h1 hp => ?_)
    obtain ⟨rfl, rfl⟩ := hp
    refine ⟨rfl, ?_⟩
    refine ar_idS (pc := 15) dX7_set_15 cal_X7_in kX7_32 rfl (sX7_inB (md_H q) a 0 (mo_I k)) rfl rfl rfl rfl rfl (fun r h1 hp => ?_)
    obtain ⟨⟨h15, rfl⟩ | ⟨h15, rfl⟩, rfl⟩ := hp
    · refine ⟨rfl, ?_⟩
      refine ar_if_ne (pc := 18) (tgt := 24) dX7_set_18 (by decide) (fun c18 => ?_) (fun c18 => absurd c18 (by decide))
      exact absurd h15 (by rw [ti_0]; rw [Int32.lt_iff_toInt_lt, Int32.lt_iff_toInt_lt, ti_0] at ho; omega)
    · refine ⟨rfl, ?_⟩
      refine ar_if_ne (pc := 18) (tgt := 24) dX7_set_18 (by decide) (fun c18 => absurd c18 (by decide)) (fun c18 => ?_)
      refine ar_bipush (pc := 21) dX7_set_21 q_bipush_m2 ?_
      exact ar_iret (pc := 23) dX7_set_23 rfl rfl rfl ⟨rfl, q, rfl, M⟩
  · refine ⟨rfl, ?_⟩
    refine ar_if_eq (pc := 6) (tgt := 21) dX7_set_6 (by decide) (fun c6 => ?_) (fun c6 => absurd c6 (by decide))
    refine ar_bipush (pc := 21) dX7_set_21 q_bipush_m2 ?_
    exact ar_iret (pc := 23) dX7_set_23 rfl rfl rfl ⟨rfl, q, rfl, M⟩

def rf_S (ro : Int32) : Nat → Int32
  | 0 => 0
  | k + 1 => rf_S ro k + ((ro >>> (nI k &&& 31)) &&& 1)
theorem rf_B2 : ∀ a, a < 64 → ∀ b, b < 64 → rf_S (nI (64 * a + b)) 12 = bitc (nI (64 * a + b)) := by decide +kernel
theorem rf_B (j : Nat) (h : j < 4096) : rf_S (nI j) 12 = bitc (nI j) := by
  have := rf_B2 (j / 64) (by omega) (j % 64) (by omega)
  rw [show 64 * (j / 64) + j % 64 = j by omega] at this
  exact this
theorem rf_e {ro : Int32} (h : 0 ≤ ro.toInt ∧ ro.toInt < 4096) : rf_S ro 12 = bitc ro := by
  have e : ro = nI (ix ro) := ix_eq h.1
  rw [e]
  exact rf_B _ (by unfold ix; omega)
theorem and_1 (x : Int32) : x &&& 1 = 0 ∨ x &&& 1 = 1 := by
  obtain ⟨j, hj, e⟩ := pk_andE x (m := 1) 1 (by decide +kernel)
  rcases (show j = 0 ∨ j = 1 by omega) with rfl | rfl
  · exact Or.inl e
  · exact Or.inr e
set_option maxHeartbeats 4000000 in
set_option maxRecDepth 100000 in
theorem lX7_roofs (h0 : am_H) (q : RV) (ro : Int32) (e8 : rq_S q 8 = ro) : ∀ (d k : Nat), k + d = 12 → am_RW mX7_roofs h0 (am_rp (rf_S ro 12) (md_H q)) 0 0 4 [some (.ref 2), some (.int (rf_S ro k)), some (.int (nI k))] [] (md_H q) := by
  intro d
  induction d with
  | zero =>
    intro k hk
    have e : k = 12 := by omega
    subst e
    refine ar_iload_n (i := 2) (pc := 4) dX7_roofs_4 rfl rfl ?_
    refine ar_bipush (pc := 5) dX7_roofs_5 q_bipush_12 ?_
    refine ar_icmp_ge (pc := 7) (tgt := 30) dX7_roofs_7 (by decide) (fun c7 => ?_) (fun c7 => absurd (by decide +kernel) c7)
    refine ar_iload_n (i := 1) (pc := 30) dX7_roofs_30 rfl rfl ?_
    exact ar_iret (pc := 31) dX7_roofs_31 rfl rfl rfl ⟨rfl, rfl⟩
  | succ d ih =>
    intro k hk
    refine ar_iload_n (i := 2) (pc := 4) dX7_roofs_4 rfl rfl ?_
    refine ar_bipush (pc := 5) dX7_roofs_5 q_bipush_12 ?_
    refine ar_icmp_ge (pc := 7) (tgt := 30) dX7_roofs_7 (by decide) (fun c7 => absurd ((nI_leI (a := 12) (b := k) (by omega) (by omega)).mp c7) (by omega)) (fun c7 => ?_)
    refine ar_iload_n (i := 1) (pc := 10) dX7_roofs_10 rfl rfl ?_
    refine ar_aload_n (i := 0) (pc := 11) dX7_roofs_11 rfl rfl ?_
    refine ar_getf (pc := 12) dX7_roofs_12 fX7_7 rfl rfl ?_
    refine ar_bipush (pc := 15) dX7_roofs_15 q_bipush_8 ?_
    refine ar_iald (pc := 17) dX7_roofs_17 rfl (show 8 < 120 by decide) rfl ?_
    rw [e8]
    refine ar_iload_n (i := 2) (pc := 18) dX7_roofs_18 rfl rfl ?_
    refine ar_ishr (pc := 19) dX7_roofs_19 ?_
    refine ar_iconst (pc := 20) dX7_roofs_20 q_iconst_1 ?_
    refine ar_iand (pc := 21) dX7_roofs_21 ?_
    refine ar_iadd (pc := 22) dX7_roofs_22 ?_
    refine ar_istore_n (i := 1) (pc := 23) dX7_roofs_23 rfl (Nat.le_of_ble_eq_true rfl) rfl ?_
    refine ar_iinc (pc := 24) dX7_roofs_24 rfl (ni_inc _) (Nat.le_of_ble_eq_true rfl) rfl ?_
    refine ar_goto (tgt := 4) (pc := 27) dX7_roofs_27 (by decide) ?_
    exact ih (k + 1) (by omega)
set_option maxHeartbeats 4000000 in
set_option maxRecDepth 100000 in
theorem sX7_roofs (q : RV) (ro : Int32) (e8 : rq_S q 8 = ro) : am_Sp mX7_roofs [.ref 2] (md_H q) (am_rp (rf_S ro 12) (md_H q)) := by
  refine am_intro (by decide) (Nat.le_of_ble_eq_true rfl) ?_
  refine ar_iconst (pc := 0) dX7_roofs_0 q_iconst_0 ?_
  refine ar_istore_n (i := 1) (pc := 1) dX7_roofs_1 rfl (Nat.le_of_ble_eq_true rfl) rfl ?_
  refine ar_iconst (pc := 2) dX7_roofs_2 q_iconst_0 ?_
  refine ar_istore_n (i := 2) (pc := 3) dX7_roofs_3 rfl (Nat.le_of_ble_eq_true rfl) rfl ?_
  rw [← nI_0]
  have h := lX7_roofs (md_H q) q ro e8 12 0 (by omega)
  rw [show rf_S ro 0 = nI 0 from nI_0.symm] at h
  exact h

set_option maxHeartbeats 4000000 in
set_option maxRecDepth 100000 in
theorem sX7_roof_n (q : RV) (z : PV) (M : mr_R z q) (n : Nat) (K : ok_D (pN z) n) (R : ro_R 0 n (pN z) (rq_S q)) (b r : Int32) (hb : ¬ inP b) : am_Sp mX7_roof [.ref 2, .int b, .int r] (md_H q) (qq_P (-1) (z)) := by
  refine am_intro (by decide) (Nat.le_of_ble_eq_true rfl) ?_
  refine ar_iload_n (i := 1) (pc := 0) dX7_roof_0 rfl rfl ?_
  refine ar_idS (pc := 1) dX7_roof_1 cal_X7_isPitch kX7_89 rfl (sX7_isPitch (md_H q) _) rfl rfl rfl rfl rfl (fun r h1 hp => ?_)
  obtain ⟨⟨h1, rfl⟩ | ⟨h1, rfl⟩, rfl⟩ := hp
  · refine ⟨rfl, ?_⟩
    refine ar_if_ne (pc := 4) (tgt := 9) dX7_roof_4 (by decide) (fun c4 => ?_) (fun c4 => absurd c4 (by decide))
    exact absurd h1 hb
  · refine ⟨rfl, ?_⟩
    refine ar_if_ne (pc := 4) (tgt := 9) dX7_roof_4 (by decide) (fun c4 => absurd c4 (by decide)) (fun c4 => ?_)
    refine ar_iconst (pc := 7) dX7_roof_7 q_iconst_m1 ?_
    exact ar_iret (pc := 8) dX7_roof_8 rfl rfl rfl ⟨rfl, q, rfl, M⟩

set_option maxHeartbeats 4000000 in
set_option maxRecDepth 100000 in
theorem sX7_roof_t (q : RV) (z : PV) (M : mr_R z q) (n : Nat) (K : ok_D (pN z) n) (R : ro_R 0 n (pN z) (rq_S q)) {p : Nat} (hp12 : p < 12) (r : Int32) (ht : (rfP (vRo (pN z)) p ∧ r = 1) ∨ (¬ rfP (vRo (pN z)) p ∧ r = 0)) : am_Sp mX7_roof [.ref 2, .int (nI p), .int r] (md_H q) (qq_P (-5) (z)) := by
  refine am_intro (by decide) (Nat.le_of_ble_eq_true rfl) ?_
  refine ar_iload_n (i := 1) (pc := 0) dX7_roof_0 rfl rfl ?_
  refine ar_idS (pc := 1) dX7_roof_1 cal_X7_isPitch kX7_89 rfl (sX7_isPitch (md_H q) _) rfl rfl rfl rfl rfl (fun r h1 hp => ?_)
  obtain ⟨⟨h1, rfl⟩ | ⟨h1, rfl⟩, rfl⟩ := hp
  · refine ⟨rfl, ?_⟩
    refine ar_if_ne (pc := 4) (tgt := 9) dX7_roof_4 (by decide) (fun c4 => ?_) (fun c4 => absurd c4 (by decide))
    refine ar_aload_n (i := 0) (pc := 9) dX7_roof_9 rfl rfl ?_
    refine ar_getf (pc := 10) dX7_roof_10 fX7_7 rfl rfl ?_
    refine ar_bipush (pc := 13) dX7_roof_13 q_bipush_8 ?_
    refine ar_iald (pc := 15) dX7_roof_15 rfl (show 8 < 120 by decide) rfl ?_
    rw [(show rq_S q 8 = vRo (pN z) by have h := roRo R; rw [Nat.zero_add] at h; exact h)]
    refine ar_iload_n (i := 1) (pc := 16) dX7_roof_16 rfl rfl ?_
    refine ar_ishr (pc := 17) dX7_roof_17 ?_
    refine ar_iconst (pc := 18) dX7_roof_18 q_iconst_1 ?_
    refine ar_iand (pc := 19) dX7_roof_19 ?_
    refine ar_iload_n (i := 2) (pc := 20) dX7_roof_20 rfl rfl ?_
    refine ar_if_eq (pc := 21) (tgt := 28) dX7_roof_21 (by decide) (fun c21 => ?_) (fun c21 => ?_)
    · refine ar_iconst (pc := 28) dX7_roof_28 q_iconst_0 ?_
      refine ar_icmp_ne (pc := 29) (tgt := 35) dX7_roof_29 (by decide) (fun c29 => ?_) (fun c29 => ?_)
      · exact False.elim (ht.elim (fun y => absurd (y.2.symm.trans c21) (by decide)) (fun y => (and_1 _).elim (fun e => c29 e) (fun e => y.1 e)))
      · refine ar_bipush (pc := 32) dX7_roof_32 q_bipush_m5 ?_
        exact ar_iret (pc := 34) dX7_roof_34 rfl rfl rfl ⟨rfl, q, rfl, M⟩
    · refine ar_iconst (pc := 24) dX7_roof_24 q_iconst_1 ?_
      refine ar_goto (tgt := 29) (pc := 25) dX7_roof_25 (by decide) ?_
      refine ar_icmp_ne (pc := 29) (tgt := 35) dX7_roof_29 (by decide) (fun c29 => ?_) (fun c29 => ?_)
      · exact False.elim (ht.elim (fun y => c29 (by first | exact y.1 | exact y.1.trans rfl)) (fun y => c21 y.2))
      · refine ar_bipush (pc := 32) dX7_roof_32 q_bipush_m5 ?_
        exact ar_iret (pc := 34) dX7_roof_34 rfl rfl rfl ⟨rfl, q, rfl, M⟩
  · refine ⟨rfl, ?_⟩
    refine ar_if_ne (pc := 4) (tgt := 9) dX7_roof_4 (by decide) (fun c4 => absurd c4 (by decide)) (fun c4 => ?_)
    refine ar_iconst (pc := 7) dX7_roof_7 q_iconst_m1 ?_
    exact absurd (in_p hp12) h1

set_option maxHeartbeats 4000000 in
set_option maxRecDepth 100000 in
theorem lX7_roof_35 (h0 : am_H) (q : RV) (z : PV) (M : mr_R z q) (n : Nat) (K : ok_D (pN z) n) (R : ro_R 0 n (pN z) (rq_S q)) {p : Nat} (hp12 : p < 12) (r : Int32) : am_RW mX7_roof h0 (qq_P (bitc (vRo (pN z) ^^^ (1 <<< (nI p &&& 31)))) (sN (rcZ z) (uRo (pN z) (vRo (pN z) ^^^ (1 <<< (nI p &&& 31)))))) (0 + am_nc mX7_isPitch) (0 + am_ns mX7_isPitch) 35 [some (.ref 2), some (.int (nI p)), some (.int r)] [] (md_H q) := by
  refine ar_aload_n (i := 0) (pc := 35) dX7_roof_35 rfl rfl ?_
  refine ar_idV (pc := 36) dX7_roof_36 cal_X7_remembers kX7_86 rfl (sX7_remembers q (pY z).2.2 M.2.1.2.1 M.2.1.2.2.1) rfl rfl rfl rfl rfl rfl rfl (fun r h1 hp => ?_)
  obtain ⟨rfl, rfl⟩ := hp
  refine ⟨pat_md _ _, ?_⟩
  refine ar_hp (h' := md_H (rm_Q q (pY z).2.2)) rfl ?_
  refine ar_aload_n (i := 0) (pc := 39) dX7_roof_39 rfl rfl ?_
  refine ar_getf (pc := 40) dX7_roof_40 fX7_7 rfl rfl ?_
  refine ar_bipush (pc := 43) dX7_roof_43 q_bipush_8 ?_
  refine ar_dup2 (pc := 45) dX7_roof_45 rfl rfl ?_
  refine ar_iald (pc := 46) dX7_roof_46 rfl (show 8 < 120 by decide) rfl ?_
  rw [(show rq_S (rm_Q q (pY z).2.2) 8 = vRo (pN z) from (show rq_S q 8 = vRo (pN z) by have h := roRo R; rw [Nat.zero_add] at h; exact h))]
  refine ar_iconst (pc := 47) dX7_roof_47 q_iconst_1 ?_
  refine ar_iload_n (i := 1) (pc := 48) dX7_roof_48 rfl rfl ?_
  refine ar_ishl (pc := 49) dX7_roof_49 ?_
  refine ar_ixor (pc := 50) dX7_roof_50 ?_
  refine ar_iast (pc := 51) dX7_roof_51 rfl (show 8 < 120 by decide) rfl ?_
  rw [md_S]
  refine ar_aload_n (i := 0) (pc := 52) dX7_roof_52 rfl rfl ?_
  refine ar_idV (pc := 53) dX7_roof_53 cal_X7_roofs kX7_93 rfl (sX7_roofs (ru_S (rm_Q q (pY z).2.2) (upd (rq_S (rm_Q q (pY z).2.2)) 8 (vRo (pN z) ^^^ (1 <<< (nI p &&& 31))))) (vRo (pN z) ^^^ (1 <<< (nI p &&& 31))) (by rw [rq_SS]; exact pk_us)) rfl rfl rfl rfl rfl rfl rfl (fun r h1 hp => ?_)
  obtain ⟨rfl, rfl⟩ := hp
  refine ⟨rfl, ?_⟩
  exact ar_iret (pc := 56) dX7_roof_56 rfl rfl rfl ⟨by rw [rf_e (ro_x K.2.2.2.2.1 hp12)], _, rfl, mr_chg0 M ⟨n, ok_roof K hp12, (by have h := ro_uRo R (vRo (pN z) ^^^ (1 <<< (nI p &&& 31))); rw [Nat.zero_add] at h; exact h)⟩⟩
set_option maxHeartbeats 4000000 in
set_option maxRecDepth 100000 in
theorem sX7_roof_s (q : RV) (z : PV) (M : mr_R z q) (n : Nat) (K : ok_D (pN z) n) (R : ro_R 0 n (pN z) (rq_S q)) {p : Nat} (hp12 : p < 12) (r : Int32) (ht : (rfP (vRo (pN z)) p ∧ r = 0) ∨ (¬ rfP (vRo (pN z)) p ∧ r = 1)) : am_Sp mX7_roof [.ref 2, .int (nI p), .int r] (md_H q) (qq_P (bitc (vRo (pN z) ^^^ (1 <<< (nI p &&& 31)))) (sN (rcZ z) (uRo (pN z) (vRo (pN z) ^^^ (1 <<< (nI p &&& 31)))))) := by
  refine am_intro (by decide) (Nat.le_of_ble_eq_true rfl) ?_
  refine ar_iload_n (i := 1) (pc := 0) dX7_roof_0 rfl rfl ?_
  refine ar_idS (pc := 1) dX7_roof_1 cal_X7_isPitch kX7_89 rfl (sX7_isPitch (md_H q) _) rfl rfl rfl rfl rfl (fun r h1 hp => ?_)
  obtain ⟨⟨h1, rfl⟩ | ⟨h1, rfl⟩, rfl⟩ := hp
  · refine ⟨rfl, ?_⟩
    refine ar_if_ne (pc := 4) (tgt := 9) dX7_roof_4 (by decide) (fun c4 => ?_) (fun c4 => absurd c4 (by decide))
    refine ar_aload_n (i := 0) (pc := 9) dX7_roof_9 rfl rfl ?_
    refine ar_getf (pc := 10) dX7_roof_10 fX7_7 rfl rfl ?_
    refine ar_bipush (pc := 13) dX7_roof_13 q_bipush_8 ?_
    refine ar_iald (pc := 15) dX7_roof_15 rfl (show 8 < 120 by decide) rfl ?_
    rw [(show rq_S q 8 = vRo (pN z) by have h := roRo R; rw [Nat.zero_add] at h; exact h)]
    refine ar_iload_n (i := 1) (pc := 16) dX7_roof_16 rfl rfl ?_
    refine ar_ishr (pc := 17) dX7_roof_17 ?_
    refine ar_iconst (pc := 18) dX7_roof_18 q_iconst_1 ?_
    refine ar_iand (pc := 19) dX7_roof_19 ?_
    refine ar_iload_n (i := 2) (pc := 20) dX7_roof_20 rfl rfl ?_
    refine ar_if_eq (pc := 21) (tgt := 28) dX7_roof_21 (by decide) (fun c21 => ?_) (fun c21 => ?_)
    · refine ar_iconst (pc := 28) dX7_roof_28 q_iconst_0 ?_
      refine ar_icmp_ne (pc := 29) (tgt := 35) dX7_roof_29 (by decide) (fun c29 => ?_) (fun c29 => ?_)
      · exact lX7_roof_35 _ q z M n K R hp12 r
      · refine ar_bipush (pc := 32) dX7_roof_32 q_bipush_m5 ?_
        exact False.elim (ht.elim (fun y => absurd (y.1.symm.trans c29) (by decide)) (fun y => absurd (y.2.symm.trans c21) (by decide)))
    · refine ar_iconst (pc := 24) dX7_roof_24 q_iconst_1 ?_
      refine ar_goto (tgt := 29) (pc := 25) dX7_roof_25 (by decide) ?_
      refine ar_icmp_ne (pc := 29) (tgt := 35) dX7_roof_29 (by decide) (fun c29 => ?_) (fun c29 => ?_)
      · exact lX7_roof_35 _ q z M n K R hp12 r
      · refine ar_bipush (pc := 32) dX7_roof_32 q_bipush_m5 ?_
        exact False.elim (ht.elim (fun y => c21 y.2) (fun y => y.1 c29))
  · refine ⟨rfl, ?_⟩
    refine ar_if_ne (pc := 4) (tgt := 9) dX7_roof_4 (by decide) (fun c4 => absurd c4 (by decide)) (fun c4 => ?_)
    refine ar_iconst (pc := 7) dX7_roof_7 q_iconst_m1 ?_
    exact absurd (in_p hp12) h1

set_option maxHeartbeats 4000000 in
set_option maxRecDepth 100000 in
theorem sX7_come_o (q : RV) (z : PV) (M : mr_R z q) (n : Nat) (K : ok_D (pN z) n) (R : ro_R 0 n (pN z) (rq_S q)) (a : Int32) (ha : ¬ (1 ≤ a.toInt ∧ a.toInt ≤ 9)) : am_Sp mX7_come [.ref 2, .int a] (md_H q) (qq_P (-2) (z)) := by
  refine am_intro (by decide) (Nat.le_of_ble_eq_true rfl) ?_
  refine ar_iload_n (i := 1) (pc := 0) dX7_come_0 rfl rfl ?_
  refine ar_iconst (pc := 1) dX7_come_1 q_iconst_1 ?_
  refine ar_bipush (pc := 2) dX7_come_2 q_bipush_9 ?_
  refine ar_idS (pc := 4) dX7_come_4 cal_X7_in kX7_32 rfl (sX7_inB (md_H q) a 1 9) rfl rfl rfl rfl rfl (fun r h1 hp => ?_)
  obtain ⟨⟨h4, rfl⟩ | ⟨h4, rfl⟩, rfl⟩ := hp
  · refine ⟨rfl, ?_⟩
    refine ar_if_ne (pc := 7) (tgt := 13) dX7_come_7 (by decide) (fun c7 => ?_) (fun c7 => absurd c7 (by decide))
    exact absurd ⟨by have h := h4.1; rw [ti_1] at h; exact h, by have h := h4.2; rw [ti_9] at h; exact h⟩ ha
  · refine ⟨rfl, ?_⟩
    refine ar_if_ne (pc := 7) (tgt := 13) dX7_come_7 (by decide) (fun c7 => absurd c7 (by decide)) (fun c7 => ?_)
    refine ar_bipush (pc := 10) dX7_come_10 q_bipush_m2 ?_
    exact ar_iret (pc := 12) dX7_come_12 rfl rfl rfl ⟨rfl, q, rfl, M⟩

set_option maxHeartbeats 4000000 in
set_option maxRecDepth 100000 in
theorem sX7_come_f (q : RV) (z : PV) (M : mr_R z q) (n : Nat) (K : ok_D (pN z) n) (R : ro_R 0 n (pN z) (rq_S q)) (a : Int32) (ha : 1 ≤ a.toInt ∧ a.toInt ≤ 9) (hn8 : n = 8) : am_Sp mX7_come [.ref 2, .int a] (md_H q) (qq_P (-4) (z)) := by
  refine am_intro (by decide) (Nat.le_of_ble_eq_true rfl) ?_
  refine ar_iload_n (i := 1) (pc := 0) dX7_come_0 rfl rfl ?_
  refine ar_iconst (pc := 1) dX7_come_1 q_iconst_1 ?_
  refine ar_bipush (pc := 2) dX7_come_2 q_bipush_9 ?_
  refine ar_idS (pc := 4) dX7_come_4 cal_X7_in kX7_32 rfl (sX7_inB (md_H q) a 1 9) rfl rfl rfl rfl rfl (fun r h1 hp => ?_)
  obtain ⟨⟨h4, rfl⟩ | ⟨h4, rfl⟩, rfl⟩ := hp
  · refine ⟨rfl, ?_⟩
    refine ar_if_ne (pc := 7) (tgt := 13) dX7_come_7 (by decide) (fun c7 => ?_) (fun c7 => absurd c7 (by decide))
    refine ar_aload_n (i := 0) (pc := 13) dX7_come_13 rfl rfl ?_
    refine ar_getf (pc := 14) dX7_come_14 fX7_7 rfl rfl ?_
    refine ar_bipush (pc := 17) dX7_come_17 q_bipush_7 ?_
    refine ar_iald (pc := 19) dX7_come_19 rfl (show 7 < 120 by decide) rfl ?_
    rw [(show rq_S q 7 = nI n by have h := roN R; rw [Nat.zero_add] at h; exact h), hn8]
    refine ar_bipush (pc := 20) dX7_come_20 q_bipush_8 ?_
    refine ar_icmp_ne (pc := 22) (tgt := 28) dX7_come_22 (by decide) (fun c22 => absurd rfl c22) (fun c22 => ?_)
    refine ar_bipush (pc := 25) dX7_come_25 q_bipush_m4 ?_
    exact ar_iret (pc := 27) dX7_come_27 rfl rfl rfl ⟨rfl, q, rfl, M⟩
  · refine ⟨rfl, ?_⟩
    refine ar_if_ne (pc := 7) (tgt := 13) dX7_come_7 (by decide) (fun c7 => absurd c7 (by decide)) (fun c7 => ?_)
    refine ar_bipush (pc := 10) dX7_come_10 q_bipush_m2 ?_
    exact absurd ⟨by rw [ti_1]; exact ha.1, by rw [ti_9]; exact ha.2⟩ h4

set_option maxHeartbeats 4000000 in
set_option maxRecDepth 100000 in
theorem sX7_come_s (q : RV) (z : PV) (M : mr_R z q) (n : Nat) (K : ok_D (pN z) n) (R : ro_R 0 n (pN z) (rq_S q)) (a : Int32) (ha : 1 ≤ a.toInt ∧ a.toInt ≤ 9) (h8 : n < 8) : am_Sp mX7_come [.ref 2, .int a] (md_H q) (qq_P (nI (n + 1) - 1) (sN (rcZ z) (adB (pN z) n a (-6)))) := by
  refine am_intro (by decide) (Nat.le_of_ble_eq_true rfl) ?_
  refine ar_iload_n (i := 1) (pc := 0) dX7_come_0 rfl rfl ?_
  refine ar_iconst (pc := 1) dX7_come_1 q_iconst_1 ?_
  refine ar_bipush (pc := 2) dX7_come_2 q_bipush_9 ?_
  refine ar_idS (pc := 4) dX7_come_4 cal_X7_in kX7_32 rfl (sX7_inB (md_H q) a 1 9) rfl rfl rfl rfl rfl (fun r h1 hp => ?_)
  obtain ⟨⟨h4, rfl⟩ | ⟨h4, rfl⟩, rfl⟩ := hp
  · refine ⟨rfl, ?_⟩
    refine ar_if_ne (pc := 7) (tgt := 13) dX7_come_7 (by decide) (fun c7 => ?_) (fun c7 => absurd c7 (by decide))
    refine ar_aload_n (i := 0) (pc := 13) dX7_come_13 rfl rfl ?_
    refine ar_getf (pc := 14) dX7_come_14 fX7_7 rfl rfl ?_
    refine ar_bipush (pc := 17) dX7_come_17 q_bipush_7 ?_
    refine ar_iald (pc := 19) dX7_come_19 rfl (show 7 < 120 by decide) rfl ?_
    rw [(show rq_S q 7 = nI n by have h := roN R; rw [Nat.zero_add] at h; exact h)]
    refine ar_bipush (pc := 20) dX7_come_20 q_bipush_8 ?_
    refine ar_icmp_ne (pc := 22) (tgt := 28) dX7_come_22 (by decide) (fun c22 => ?_) (fun c22 => absurd ((nI_eq (a := n) (b := 8) (by omega) (by omega)).mp c22) (by omega))
    refine ar_aload_n (i := 0) (pc := 28) dX7_come_28 rfl rfl ?_
    refine ar_idV (pc := 29) dX7_come_29 cal_X7_remembers kX7_86 rfl (sX7_remembers q (pY z).2.2 M.2.1.2.1 M.2.1.2.2.1) rfl rfl rfl rfl rfl rfl rfl (fun r h1 hp => ?_)
    obtain ⟨rfl, rfl⟩ := hp
    refine ⟨pat_md _ _, ?_⟩
    refine ar_hp (h' := md_H (rm_Q q (pY z).2.2)) rfl ?_
    refine ar_aload_n (i := 0) (pc := 32) dX7_come_32 rfl rfl ?_
    refine ar_iload_n (i := 1) (pc := 33) dX7_come_33 rfl rfl ?_
    refine ar_iconst (pc := 34) dX7_come_34 q_iconst_m1 ?_
    refine ar_idV (pc := 35) dX7_come_35 cal_X7_comes kX7_97 rfl ((by have h := (sX7_comes (rm_Q q (pY z).2.2) n (pN z) R h8 a (-6)); rw [pm_6] at h; exact h)) rfl rfl rfl rfl rfl rfl rfl (fun r h1 hp => ?_)
    obtain ⟨s2, rfl, rfl, R2⟩ := hp
    refine ⟨pat_md _ _, ?_⟩
    refine ar_aload_n (i := 0) (pc := 38) dX7_come_38 rfl rfl ?_
    refine ar_getf (pc := 39) dX7_come_39 fX7_7 rfl rfl ?_
    refine ar_bipush (pc := 42) dX7_come_42 q_bipush_7 ?_
    refine ar_iald (pc := 44) dX7_come_44 rfl (show 7 < 120 by decide) rfl ?_
    rw [rq_SS, show s2 7 = nI (n + 1) by have h := roN R2; rw [Nat.zero_add] at h; exact h]
    refine ar_iconst (pc := 45) dX7_come_45 q_iconst_1 ?_
    refine ar_isub (pc := 46) dX7_come_46 ?_
    exact ar_iret (pc := 47) dX7_come_47 rfl rfl rfl ⟨rfl, _, rfl, mr_chg0 M ⟨n + 1, ok_add K h8 ha (Or.inl rfl), R2⟩⟩
  · refine ⟨rfl, ?_⟩
    refine ar_if_ne (pc := 7) (tgt := 13) dX7_come_7 (by decide) (fun c7 => absurd c7 (by decide)) (fun c7 => ?_)
    refine ar_bipush (pc := 10) dX7_come_10 q_bipush_m2 ?_
    exact absurd ⟨by rw [ti_1]; exact ha.1, by rw [ti_9]; exact ha.2⟩ h4

set_option maxHeartbeats 4000000 in
set_option maxRecDepth 100000 in
theorem sX7_height_n (q : RV) (z : PV) (M : mr_R z q) (n : Nat) (K : ok_D (pN z) n) (R : ro_R 0 n (pN z) (rq_S q)) (b a : Int32) (hb : ¬ bkP n b) : am_Sp mX7_height [.ref 2, .int b, .int a] (md_H q) (qq_P (-1) (z)) := by
  refine am_intro (by decide) (Nat.le_of_ble_eq_true rfl) ?_
  refine ar_aload_n (i := 0) (pc := 0) dX7_height_0 rfl rfl ?_
  refine ar_iload_n (i := 1) (pc := 1) dX7_height_1 rfl rfl ?_
  refine ar_idV (pc := 2) dX7_height_2 cal_X7_isBooth kX7_100 rfl (sX7_isBooth q n (show rq_S q 7 = nI n by have h := roN R; rw [Nat.zero_add] at h; exact h) K.2.1.1 _) rfl rfl rfl rfl rfl rfl rfl (fun r h1 hp => ?_)
  obtain ⟨⟨h2, rfl⟩ | ⟨h2, rfl⟩, rfl⟩ := hp
  · refine ⟨rfl, ?_⟩
    refine ar_if_ne (pc := 5) (tgt := 10) dX7_height_5 (by decide) (fun c5 => ?_) (fun c5 => absurd c5 (by decide))
    exact absurd h2 hb
  · refine ⟨rfl, ?_⟩
    refine ar_if_ne (pc := 5) (tgt := 10) dX7_height_5 (by decide) (fun c5 => absurd c5 (by decide)) (fun c5 => ?_)
    refine ar_iconst (pc := 8) dX7_height_8 q_iconst_m1 ?_
    exact ar_iret (pc := 9) dX7_height_9 rfl rfl rfl ⟨rfl, q, rfl, M⟩

set_option maxHeartbeats 4000000 in
set_option maxRecDepth 100000 in
theorem sX7_height_o (q : RV) (z : PV) (M : mr_R z q) (n : Nat) (K : ok_D (pN z) n) (R : ro_R 0 n (pN z) (rq_S q)) {j : Nat} (hj : j < n) (a : Int32) (ha : ¬ (1 ≤ a.toInt ∧ a.toInt ≤ 9)) : am_Sp mX7_height [.ref 2, .int (nI j), .int a] (md_H q) (qq_P (-2) (z)) := by
  refine am_intro (by decide) (Nat.le_of_ble_eq_true rfl) ?_
  refine ar_aload_n (i := 0) (pc := 0) dX7_height_0 rfl rfl ?_
  refine ar_iload_n (i := 1) (pc := 1) dX7_height_1 rfl rfl ?_
  refine ar_idV (pc := 2) dX7_height_2 cal_X7_isBooth kX7_100 rfl (sX7_isBooth q n (show rq_S q 7 = nI n by have h := roN R; rw [Nat.zero_add] at h; exact h) K.2.1.1 _) rfl rfl rfl rfl rfl rfl rfl (fun r h1 hp => ?_)
  obtain ⟨⟨h2, rfl⟩ | ⟨h2, rfl⟩, rfl⟩ := hp
  · refine ⟨rfl, ?_⟩
    refine ar_if_ne (pc := 5) (tgt := 10) dX7_height_5 (by decide) (fun c5 => ?_) (fun c5 => absurd c5 (by decide))
    refine ar_iload_n (i := 2) (pc := 10) dX7_height_10 rfl rfl ?_
    refine ar_iconst (pc := 11) dX7_height_11 q_iconst_1 ?_
    refine ar_bipush (pc := 12) dX7_height_12 q_bipush_9 ?_
    refine ar_idS (pc := 14) dX7_height_14 cal_X7_in kX7_32 rfl (sX7_inB (md_H q) a 1 9) rfl rfl rfl rfl rfl (fun r h1 hp => ?_)
    obtain ⟨⟨h14, rfl⟩ | ⟨h14, rfl⟩, rfl⟩ := hp
    · refine ⟨rfl, ?_⟩
      refine ar_if_ne (pc := 17) (tgt := 23) dX7_height_17 (by decide) (fun c17 => ?_) (fun c17 => absurd c17 (by decide))
      exact absurd ⟨by have h := h14.1; rw [ti_1] at h; exact h, by have h := h14.2; rw [ti_9] at h; exact h⟩ ha
    · refine ⟨rfl, ?_⟩
      refine ar_if_ne (pc := 17) (tgt := 23) dX7_height_17 (by decide) (fun c17 => absurd c17 (by decide)) (fun c17 => ?_)
      refine ar_bipush (pc := 20) dX7_height_20 q_bipush_m2 ?_
      exact ar_iret (pc := 22) dX7_height_22 rfl rfl rfl ⟨rfl, q, rfl, M⟩
  · refine ⟨rfl, ?_⟩
    refine ar_if_ne (pc := 5) (tgt := 10) dX7_height_5 (by decide) (fun c5 => absurd c5 (by decide)) (fun c5 => ?_)
    refine ar_iconst (pc := 8) dX7_height_8 q_iconst_m1 ?_
    exact absurd (bk_j K.2.1.1 hj) h2

set_option maxHeartbeats 4000000 in
set_option maxRecDepth 100000 in
theorem sX7_height_s (q : RV) (z : PV) (M : mr_R z q) (n : Nat) (K : ok_D (pN z) n) (R : ro_R 0 n (pN z) (rq_S q)) {j : Nat} (hj : j < n) (a : Int32) (ha : 1 ≤ a.toInt ∧ a.toInt ≤ 9) : am_Sp mX7_height [.ref 2, .int (nI j), .int a] (md_H q) (qq_P (vH (pN z) j) (sN (rcZ z) (uH (pN z) (upd (vH (pN z)) j a)))) := by
  refine am_intro (by decide) (Nat.le_of_ble_eq_true rfl) ?_
  refine ar_aload_n (i := 0) (pc := 0) dX7_height_0 rfl rfl ?_
  refine ar_iload_n (i := 1) (pc := 1) dX7_height_1 rfl rfl ?_
  refine ar_idV (pc := 2) dX7_height_2 cal_X7_isBooth kX7_100 rfl (sX7_isBooth q n (show rq_S q 7 = nI n by have h := roN R; rw [Nat.zero_add] at h; exact h) K.2.1.1 _) rfl rfl rfl rfl rfl rfl rfl (fun r h1 hp => ?_)
  obtain ⟨⟨h2, rfl⟩ | ⟨h2, rfl⟩, rfl⟩ := hp
  · refine ⟨rfl, ?_⟩
    refine ar_if_ne (pc := 5) (tgt := 10) dX7_height_5 (by decide) (fun c5 => ?_) (fun c5 => absurd c5 (by decide))
    refine ar_iload_n (i := 2) (pc := 10) dX7_height_10 rfl rfl ?_
    refine ar_iconst (pc := 11) dX7_height_11 q_iconst_1 ?_
    refine ar_bipush (pc := 12) dX7_height_12 q_bipush_9 ?_
    refine ar_idS (pc := 14) dX7_height_14 cal_X7_in kX7_32 rfl (sX7_inB (md_H q) a 1 9) rfl rfl rfl rfl rfl (fun r h1 hp => ?_)
    obtain ⟨⟨h14, rfl⟩ | ⟨h14, rfl⟩, rfl⟩ := hp
    · refine ⟨rfl, ?_⟩
      refine ar_if_ne (pc := 17) (tgt := 23) dX7_height_17 (by decide) (fun c17 => ?_) (fun c17 => absurd c17 (by decide))
      refine ar_aload_n (i := 0) (pc := 23) dX7_height_23 rfl rfl ?_
      refine ar_idV (pc := 24) dX7_height_24 cal_X7_remembers kX7_86 rfl (sX7_remembers q (pY z).2.2 M.2.1.2.1 M.2.1.2.2.1) rfl rfl rfl rfl rfl rfl rfl (fun r h1 hp => ?_)
      obtain ⟨rfl, rfl⟩ := hp
      refine ⟨pat_md _ _, ?_⟩
      refine ar_hp (h' := md_H (rm_Q q (pY z).2.2)) rfl ?_
      refine ar_aload_n (i := 0) (pc := 27) dX7_height_27 rfl rfl ?_
      refine ar_iload_n (i := 1) (pc := 28) dX7_height_28 rfl rfl ?_
      refine ar_iconst (pc := 29) dX7_height_29 q_iconst_0 ?_
      refine ar_idV (pc := 30) dX7_height_30 cal_X7_its kX7_103 rfl (sX7_its0 (rm_Q q (pY z).2.2) (show j < 8 by have := K.2.1.1; omega)) rfl rfl rfl rfl rfl rfl rfl (fun r h1 hp => ?_)
      obtain ⟨rfl, rfl⟩ := hp
      refine ⟨rfl, ?_⟩
      rw [show rq_S (rm_Q q (pY z).2.2) (20 + 5 * j) = vH (pN z) j by have h := roH R hj; rw [Nat.zero_add] at h; exact h]
      refine ar_istore_n (i := 3) (pc := 33) dX7_height_33 rfl (Nat.le_of_ble_eq_true rfl) rfl ?_
      refine ar_aload_n (i := 0) (pc := 34) dX7_height_34 rfl rfl ?_
      refine ar_getf (pc := 35) dX7_height_35 fX7_7 rfl rfl ?_
      refine ar_iconst (pc := 38) dX7_height_38 q_iconst_0 ?_
      refine ar_iload_n (i := 1) (pc := 39) dX7_height_39 rfl rfl ?_
      refine ar_idS (pc := 40) dX7_height_40 cal_X7_at kX7_36 rfl (sX7_at0 _ j) rfl rfl rfl rfl rfl (fun r h1 hp => ?_)
      obtain ⟨rfl, rfl⟩ := hp
      refine ⟨rfl, ?_⟩
      refine ar_iconst (pc := 43) dX7_height_43 q_iconst_0 ?_
      refine ar_iadd (pc := 44) dX7_height_44 ?_
      refine ar_iload_n (i := 2) (pc := 45) dX7_height_45 rfl rfl ?_
      refine ar_iast (pc := 46) dX7_height_46 rfl (show 20 + 5 * j < 120 by have := K.2.1.1; omega) (nI_add _ 0) ?_
      rw [md_S]
      refine ar_iload_n (i := 3) (pc := 47) dX7_height_47 rfl rfl ?_
      exact ar_iret (pc := 48) dX7_height_48 rfl rfl rfl ⟨rfl, _, rfl, mr_chg0 M ⟨n, ok_height K ha, by have h := ro_uH R j a; rw [Nat.zero_add] at h; exact h⟩⟩
    · refine ⟨rfl, ?_⟩
      refine ar_if_ne (pc := 17) (tgt := 23) dX7_height_17 (by decide) (fun c17 => absurd c17 (by decide)) (fun c17 => ?_)
      refine ar_bipush (pc := 20) dX7_height_20 q_bipush_m2 ?_
      exact absurd ⟨by rw [ti_1]; exact ha.1, by rw [ti_9]; exact ha.2⟩ h14
  · refine ⟨rfl, ?_⟩
    refine ar_if_ne (pc := 5) (tgt := 10) dX7_height_5 (by decide) (fun c5 => absurd c5 (by decide)) (fun c5 => ?_)
    refine ar_iconst (pc := 8) dX7_height_8 q_iconst_m1 ?_
    exact absurd (bk_j K.2.1.1 hj) h2

set_option maxHeartbeats 4000000 in
set_option maxRecDepth 100000 in
theorem sX7_stand_n (q : RV) (z : PV) (M : mr_R z q) (n : Nat) (K : ok_D (pN z) n) (R : ro_R 0 n (pN z) (rq_S q)) (b y : Int32) (hb : ¬ bkP n b ∨ (¬ y = -6 ∧ ¬ inP y)) : am_Sp mX7_stand [.ref 2, .int b, .int y] (md_H q) (qq_P (-1) (z)) := by
  refine am_intro (by decide) (Nat.le_of_ble_eq_true rfl) ?_
  refine ar_aload_n (i := 0) (pc := 0) dX7_stand_0 rfl rfl ?_
  refine ar_iload_n (i := 1) (pc := 1) dX7_stand_1 rfl rfl ?_
  refine ar_idV (pc := 2) dX7_stand_2 cal_X7_isBooth kX7_100 rfl (sX7_isBooth q n (show rq_S q 7 = nI n by have h := roN R; rw [Nat.zero_add] at h; exact h) K.2.1.1 _) rfl rfl rfl rfl rfl rfl rfl (fun r h1 hp => ?_)
  obtain ⟨⟨h2, rfl⟩ | ⟨h2, rfl⟩, rfl⟩ := hp
  · refine ⟨rfl, ?_⟩
    refine ar_if_eq (pc := 5) (tgt := 21) dX7_stand_5 (by decide) (fun c5 => absurd c5 (by decide)) (fun c5 => ?_)
    refine ar_iload_n (i := 2) (pc := 8) dX7_stand_8 rfl rfl ?_
    refine ar_bipush (pc := 9) dX7_stand_9 q_bipush_m6 ?_
    refine ar_icmp_eq (pc := 11) (tgt := 23) dX7_stand_11 (by decide) (fun c11 => ?_) (fun c11 => ?_)
    · exact hb.elim (fun e => absurd h2 e) (fun e => absurd c11 e.1)
    · refine ar_iload_n (i := 2) (pc := 14) dX7_stand_14 rfl rfl ?_
      refine ar_idS (pc := 15) dX7_stand_15 cal_X7_isPitch kX7_89 rfl (sX7_isPitch (md_H q) _) rfl rfl rfl rfl rfl (fun r h1 hp => ?_)
      obtain ⟨⟨h15, rfl⟩ | ⟨h15, rfl⟩, rfl⟩ := hp
      · refine ⟨rfl, ?_⟩
        refine ar_if_ne (pc := 18) (tgt := 23) dX7_stand_18 (by decide) (fun c18 => ?_) (fun c18 => absurd c18 (by decide))
        exact hb.elim (fun e => absurd h2 e) (fun e => absurd h15 e.2)
      · refine ⟨rfl, ?_⟩
        refine ar_if_ne (pc := 18) (tgt := 23) dX7_stand_18 (by decide) (fun c18 => absurd c18 (by decide)) (fun c18 => ?_)
        refine ar_iconst (pc := 21) dX7_stand_21 q_iconst_m1 ?_
        exact ar_iret (pc := 22) dX7_stand_22 rfl rfl rfl ⟨rfl, q, rfl, M⟩
  · refine ⟨rfl, ?_⟩
    refine ar_if_eq (pc := 5) (tgt := 21) dX7_stand_5 (by decide) (fun c5 => ?_) (fun c5 => absurd c5 (by decide))
    refine ar_iconst (pc := 21) dX7_stand_21 q_iconst_m1 ?_
    exact ar_iret (pc := 22) dX7_stand_22 rfl rfl rfl ⟨rfl, q, rfl, M⟩

theorem ar_k0 {M : am_M} {h0 : am_H} {P : Option Value → am_H → Prop} {kc ks kc' ks' pc : Nat} {L : List (Option Value)} {S : List Value} {h : am_H} (k : am_RW M h0 P kc ks pc L S h) (e1 : kc = kc') (e2 : ks = ks') : am_RW M h0 P kc' ks' pc L S h := by
  subst e1
  subst e2
  exact k
set_option maxHeartbeats 4000000 in
set_option maxRecDepth 100000 in
theorem lX7_stand_41 (h0 : am_H) (q : RV) (z : PV) (M : mr_R z q) (n : Nat) (K : ok_D (pN z) n) (R : ro_R 0 n (pN z) (rq_S q)) {j : Nat} (hj : j < n) (y : Int32) (hy : y = -6 ∨ inP y) (ht : ¬ tkP (pN z) n y j) : am_RW mX7_stand h0 (qq_P (vP (pN z) j) (sN (rcZ z) (uP (pN z) (upd (vP (pN z)) j y)))) 0 0 41 [some (.ref 2), some (.int (nI j)), some (.int y), none] [] (md_H q) := by
  have hv : vP (pN z) j = -6 ∨ 0 ≤ (vP (pN z) j).toInt := (K.2.1.2.2.2.2.1 j hj).imp_right fun e => e.1
  have hr := pm_b hv
  refine ar_aload_n (i := 0) (pc := 41) dX7_stand_41 rfl rfl ?_
  refine ar_idV (pc := 42) dX7_stand_42 cal_X7_remembers kX7_86 rfl (sX7_remembers q (pY z).2.2 M.2.1.2.1 M.2.1.2.2.1) rfl rfl rfl rfl rfl rfl rfl (fun r h1 hp => ?_)
  obtain ⟨rfl, rfl⟩ := hp
  refine ⟨pat_md _ _, ?_⟩
  refine ar_hp (h' := md_H (rm_Q q (pY z).2.2)) rfl ?_
  refine ar_aload_n (i := 0) (pc := 45) dX7_stand_45 rfl rfl ?_
  refine ar_iload_n (i := 1) (pc := 46) dX7_stand_46 rfl rfl ?_
  refine ar_iconst (pc := 47) dX7_stand_47 q_iconst_1 ?_
  refine ar_idV (pc := 48) dX7_stand_48 cal_X7_its kX7_103 rfl (sX7_its1 (rm_Q q (pY z).2.2) (show j < 8 by have := K.2.1.1; omega)) rfl rfl rfl rfl rfl rfl rfl (fun r h1 hp => ?_)
  obtain ⟨rfl, rfl⟩ := hp
  refine ⟨rfl, ?_⟩
  rw [show rq_S (rm_Q q (pY z).2.2) (20 + 5 * j + 1) = pm_ (vP (pN z) j) by have h := roP R hj; rw [Nat.zero_add] at h; exact h]
  refine ar_istore_n (i := 3) (pc := 51) dX7_stand_51 rfl (Nat.le_of_ble_eq_true rfl) rfl ?_
  refine ar_aload_n (i := 0) (pc := 52) dX7_stand_52 rfl rfl ?_
  refine ar_getf (pc := 53) dX7_stand_53 fX7_7 rfl rfl ?_
  refine ar_iconst (pc := 56) dX7_stand_56 q_iconst_0 ?_
  refine ar_iload_n (i := 1) (pc := 57) dX7_stand_57 rfl rfl ?_
  refine ar_idS (pc := 58) dX7_stand_58 cal_X7_at kX7_36 rfl (sX7_at0 _ j) rfl rfl rfl rfl rfl (fun r h1 hp => ?_)
  obtain ⟨rfl, rfl⟩ := hp
  refine ⟨rfl, ?_⟩
  refine ar_iconst (pc := 61) dX7_stand_61 q_iconst_1 ?_
  refine ar_iadd (pc := 62) dX7_stand_62 ?_
  refine ar_iload_n (i := 2) (pc := 63) dX7_stand_63 rfl rfl ?_
  refine ar_bipush (pc := 64) dX7_stand_64 q_bipush_m6 ?_
  refine ar_icmp_ne (pc := 66) (tgt := 73) dX7_stand_66 (by decide) (fun c66 => ?_) (fun c66 => ?_)
  · refine ar_iload_n (i := 2) (pc := 73) dX7_stand_73 rfl rfl ?_
    refine ar_iast (pc := 74) dX7_stand_74 rfl (show 20 + 5 * j + 1 < 120 by have := K.2.1.1; omega) (nI_add _ 1) ?_
    rw [md_S]
    refine ar_iload_n (i := 3) (pc := 75) dX7_stand_75 rfl rfl ?_
    refine ar_if_ge (pc := 76) (tgt := 84) dX7_stand_76 (by decide) (fun c76 => ?_) (fun c76 => ?_)
    · refine ar_iload_n (i := 3) (pc := 84) dX7_stand_84 rfl rfl ?_
      exact ar_iret (pc := 85) dX7_stand_85 rfl rfl rfl ⟨congrArg (fun x => some (Value.int x)) ((if_neg (Int32.not_lt.mpr c76)).symm.trans hr), _, rfl, mr_chg0 M ⟨n, ok_stand K hy ht, by have h := ro_uP R j y; rw [Nat.zero_add, pm_, if_neg c66] at h; exact h⟩⟩
    · refine ar_bipush (pc := 79) dX7_stand_79 q_bipush_m6 ?_
      refine ar_goto (tgt := 85) (pc := 81) dX7_stand_81 (by decide) ?_
      exact ar_iret (pc := 85) dX7_stand_85 rfl rfl rfl ⟨congrArg (fun x => some (Value.int x)) ((if_pos (Int32.not_le.mp c76)).symm.trans hr), _, rfl, mr_chg0 M ⟨n, ok_stand K hy ht, by have h := ro_uP R j y; rw [Nat.zero_add, pm_, if_neg c66] at h; exact h⟩⟩
  · refine ar_iconst (pc := 69) dX7_stand_69 q_iconst_m1 ?_
    refine ar_goto (tgt := 74) (pc := 70) dX7_stand_70 (by decide) ?_
    refine ar_iast (pc := 74) dX7_stand_74 rfl (show 20 + 5 * j + 1 < 120 by have := K.2.1.1; omega) (nI_add _ 1) ?_
    rw [md_S]
    refine ar_iload_n (i := 3) (pc := 75) dX7_stand_75 rfl rfl ?_
    refine ar_if_ge (pc := 76) (tgt := 84) dX7_stand_76 (by decide) (fun c76 => ?_) (fun c76 => ?_)
    · refine ar_iload_n (i := 3) (pc := 84) dX7_stand_84 rfl rfl ?_
      exact ar_iret (pc := 85) dX7_stand_85 rfl rfl rfl ⟨congrArg (fun x => some (Value.int x)) ((if_neg (Int32.not_lt.mpr c76)).symm.trans hr), _, rfl, mr_chg0 M ⟨n, ok_stand K hy ht, by have h := ro_uP R j y; rw [Nat.zero_add, pm_, if_pos c66] at h; exact h⟩⟩
    · refine ar_bipush (pc := 79) dX7_stand_79 q_bipush_m6 ?_
      refine ar_goto (tgt := 85) (pc := 81) dX7_stand_81 (by decide) ?_
      exact ar_iret (pc := 85) dX7_stand_85 rfl rfl rfl ⟨congrArg (fun x => some (Value.int x)) ((if_pos (Int32.not_le.mp c76)).symm.trans hr), _, rfl, mr_chg0 M ⟨n, ok_stand K hy ht, by have h := ro_uP R j y; rw [Nat.zero_add, pm_, if_pos c66] at h; exact h⟩⟩
theorem tk_6 {v : SV} {n j : Nat} : ¬ tkP v n (-6) j := by
  rintro ⟨k, h, -⟩
  have h3 := (ffi_spec _ _ _ h).2.2.1
  have h4 := of_decide_eq_true h3
  exact h4.1.2 h4.2
set_option maxHeartbeats 4000000 in
set_option maxRecDepth 100000 in
theorem lX7_stand_23t (h0 : am_H) (q : RV) (z : PV) (M : mr_R z q) (n : Nat) (K : ok_D (pN z) n) (R : ro_R 0 n (pN z) (rq_S q)) {j : Nat} (hj : j < n) (y : Int32) (hy : y = -6 ∨ inP y) (ht : tkP (pN z) n y j) : am_RW mX7_stand h0 (qq_P (-5) (z)) 0 0 23 [some (.ref 2), some (.int (nI j)), some (.int y), none] [] (md_H q) := by
  refine ar_iload_n (i := 2) (pc := 23) dX7_stand_23 rfl rfl ?_
  refine ar_bipush (pc := 24) dX7_stand_24 q_bipush_m6 ?_
  refine ar_icmp_eq (pc := 26) (tgt := 41) dX7_stand_26 (by decide) (fun c26 => ?_) (fun c26 => ?_)
  · exact absurd (by rw [c26] at ht; exact ht) tk_6
  · refine ar_aload_n (i := 0) (pc := 29) dX7_stand_29 rfl rfl ?_
    refine ar_iload_n (i := 1) (pc := 30) dX7_stand_30 rfl rfl ?_
    refine ar_iload_n (i := 2) (pc := 31) dX7_stand_31 rfl rfl ?_
    obtain ⟨o, ho, rfl⟩ : ∃ o, o < 12 ∧ y = nI o := ⟨ix y, by have := hy.resolve_left c26; unfold ix; omega, ix_eq (hy.resolve_left c26).1⟩
    refine ar_idV (pc := 32) dX7_stand_32 cal_X7_isOthers kX7_106 rfl (sX7_isOthers q n (pN z) R K.2.1.1 (show j < 8 by have := K.2.1.1; omega) o ho) rfl rfl rfl rfl rfl rfl rfl (fun r h1 hp => ?_)
    obtain ⟨⟨h32, rfl⟩ | ⟨h32, rfl⟩, rfl⟩ := hp
    · refine ⟨rfl, ?_⟩
      refine ar_if_eq (pc := 35) (tgt := 41) dX7_stand_35 (by decide) (fun c35 => absurd c35 (by decide)) (fun c35 => ?_)
      refine ar_bipush (pc := 38) dX7_stand_38 q_bipush_m5 ?_
      exact ar_iret (pc := 40) dX7_stand_40 rfl rfl rfl ⟨rfl, q, rfl, M⟩
    · exact absurd ht h32
set_option maxHeartbeats 4000000 in
set_option maxRecDepth 100000 in
theorem sX7_stand_t (q : RV) (z : PV) (M : mr_R z q) (n : Nat) (K : ok_D (pN z) n) (R : ro_R 0 n (pN z) (rq_S q)) {j : Nat} (hj : j < n) (y : Int32) (hy : y = -6 ∨ inP y) (ht : tkP (pN z) n y j) : am_Sp mX7_stand [.ref 2, .int (nI j), .int y] (md_H q) (qq_P (-5) (z)) := by
  refine am_intro (by decide) (Nat.le_of_ble_eq_true rfl) ?_
  refine ar_aload_n (i := 0) (pc := 0) dX7_stand_0 rfl rfl ?_
  refine ar_iload_n (i := 1) (pc := 1) dX7_stand_1 rfl rfl ?_
  refine ar_idV (pc := 2) dX7_stand_2 cal_X7_isBooth kX7_100 rfl (sX7_isBooth q n (show rq_S q 7 = nI n by have h := roN R; rw [Nat.zero_add] at h; exact h) K.2.1.1 _) rfl rfl rfl rfl rfl rfl rfl (fun r h1 hp => ?_)
  obtain ⟨⟨h2, rfl⟩ | ⟨h2, rfl⟩, rfl⟩ := hp
  · refine ⟨rfl, ?_⟩
    refine ar_if_eq (pc := 5) (tgt := 21) dX7_stand_5 (by decide) (fun c5 => absurd c5 (by decide)) (fun c5 => ?_)
    refine ar_iload_n (i := 2) (pc := 8) dX7_stand_8 rfl rfl ?_
    refine ar_bipush (pc := 9) dX7_stand_9 q_bipush_m6 ?_
    refine ar_icmp_eq (pc := 11) (tgt := 23) dX7_stand_11 (by decide) (fun c11 => ?_) (fun c11 => ?_)
    · exact ar_k0 (lX7_stand_23t _ q z M n K R hj y hy ht) rfl rfl
    · refine ar_iload_n (i := 2) (pc := 14) dX7_stand_14 rfl rfl ?_
      refine ar_idS (pc := 15) dX7_stand_15 cal_X7_isPitch kX7_89 rfl (sX7_isPitch (md_H q) _) rfl rfl rfl rfl rfl (fun r h1 hp => ?_)
      obtain ⟨⟨h15, rfl⟩ | ⟨h15, rfl⟩, rfl⟩ := hp
      · refine ⟨rfl, ?_⟩
        refine ar_if_ne (pc := 18) (tgt := 23) dX7_stand_18 (by decide) (fun c18 => ?_) (fun c18 => absurd c18 (by decide))
        exact ar_k0 (lX7_stand_23t _ q z M n K R hj y hy ht) rfl rfl
      · refine ⟨rfl, ?_⟩
        refine ar_if_ne (pc := 18) (tgt := 23) dX7_stand_18 (by decide) (fun c18 => absurd c18 (by decide)) (fun c18 => ?_)
        refine ar_iconst (pc := 21) dX7_stand_21 q_iconst_m1 ?_
        exact hy.elim (fun e => absurd e c11) (fun e => absurd e h15)
  · refine ⟨rfl, ?_⟩
    refine ar_if_eq (pc := 5) (tgt := 21) dX7_stand_5 (by decide) (fun c5 => ?_) (fun c5 => absurd c5 (by decide))
    refine ar_iconst (pc := 21) dX7_stand_21 q_iconst_m1 ?_
    exact absurd (bk_j K.2.1.1 hj) h2

set_option maxHeartbeats 4000000 in
set_option maxRecDepth 100000 in
theorem lX7_stand_23s (h0 : am_H) (q : RV) (z : PV) (M : mr_R z q) (n : Nat) (K : ok_D (pN z) n) (R : ro_R 0 n (pN z) (rq_S q)) {j : Nat} (hj : j < n) (y : Int32) (hy : y = -6 ∨ inP y) (ht : ¬ tkP (pN z) n y j) : am_RW mX7_stand h0 (qq_P (vP (pN z) j) (sN (rcZ z) (uP (pN z) (upd (vP (pN z)) j y)))) 0 0 23 [some (.ref 2), some (.int (nI j)), some (.int y), none] [] (md_H q) := by
  refine ar_iload_n (i := 2) (pc := 23) dX7_stand_23 rfl rfl ?_
  refine ar_bipush (pc := 24) dX7_stand_24 q_bipush_m6 ?_
  refine ar_icmp_eq (pc := 26) (tgt := 41) dX7_stand_26 (by decide) (fun c26 => ?_) (fun c26 => ?_)
  · exact ar_k0 (lX7_stand_41 _ q z M n K R hj y hy ht) rfl rfl
  · refine ar_aload_n (i := 0) (pc := 29) dX7_stand_29 rfl rfl ?_
    refine ar_iload_n (i := 1) (pc := 30) dX7_stand_30 rfl rfl ?_
    refine ar_iload_n (i := 2) (pc := 31) dX7_stand_31 rfl rfl ?_
    obtain ⟨o, ho, rfl⟩ : ∃ o, o < 12 ∧ y = nI o := ⟨ix y, by have := hy.resolve_left c26; unfold ix; omega, ix_eq (hy.resolve_left c26).1⟩
    refine ar_idV (pc := 32) dX7_stand_32 cal_X7_isOthers kX7_106 rfl (sX7_isOthers q n (pN z) R K.2.1.1 (show j < 8 by have := K.2.1.1; omega) o ho) rfl rfl rfl rfl rfl rfl rfl (fun r h1 hp => ?_)
    obtain ⟨⟨h32, rfl⟩ | ⟨h32, rfl⟩, rfl⟩ := hp
    · exact absurd h32 ht
    · refine ⟨rfl, ?_⟩
      refine ar_if_eq (pc := 35) (tgt := 41) dX7_stand_35 (by decide) (fun c35 => ?_) (fun c35 => absurd rfl c35)
      exact ar_k0 (lX7_stand_41 _ q z M n K R hj (nI o) (Or.inr (in_p ho)) ht) rfl rfl
set_option maxHeartbeats 4000000 in
set_option maxRecDepth 100000 in
theorem sX7_stand_s (q : RV) (z : PV) (M : mr_R z q) (n : Nat) (K : ok_D (pN z) n) (R : ro_R 0 n (pN z) (rq_S q)) {j : Nat} (hj : j < n) (y : Int32) (hy : y = -6 ∨ inP y) (ht : ¬ tkP (pN z) n y j) : am_Sp mX7_stand [.ref 2, .int (nI j), .int y] (md_H q) (qq_P (vP (pN z) j) (sN (rcZ z) (uP (pN z) (upd (vP (pN z)) j y)))) := by
  refine am_intro (by decide) (Nat.le_of_ble_eq_true rfl) ?_
  refine ar_aload_n (i := 0) (pc := 0) dX7_stand_0 rfl rfl ?_
  refine ar_iload_n (i := 1) (pc := 1) dX7_stand_1 rfl rfl ?_
  refine ar_idV (pc := 2) dX7_stand_2 cal_X7_isBooth kX7_100 rfl (sX7_isBooth q n (show rq_S q 7 = nI n by have h := roN R; rw [Nat.zero_add] at h; exact h) K.2.1.1 _) rfl rfl rfl rfl rfl rfl rfl (fun r h1 hp => ?_)
  obtain ⟨⟨h2, rfl⟩ | ⟨h2, rfl⟩, rfl⟩ := hp
  · refine ⟨rfl, ?_⟩
    refine ar_if_eq (pc := 5) (tgt := 21) dX7_stand_5 (by decide) (fun c5 => absurd c5 (by decide)) (fun c5 => ?_)
    refine ar_iload_n (i := 2) (pc := 8) dX7_stand_8 rfl rfl ?_
    refine ar_bipush (pc := 9) dX7_stand_9 q_bipush_m6 ?_
    refine ar_icmp_eq (pc := 11) (tgt := 23) dX7_stand_11 (by decide) (fun c11 => ?_) (fun c11 => ?_)
    · exact ar_k0 (lX7_stand_23s _ q z M n K R hj y hy ht) rfl rfl
    · refine ar_iload_n (i := 2) (pc := 14) dX7_stand_14 rfl rfl ?_
      refine ar_idS (pc := 15) dX7_stand_15 cal_X7_isPitch kX7_89 rfl (sX7_isPitch (md_H q) _) rfl rfl rfl rfl rfl (fun r h1 hp => ?_)
      obtain ⟨⟨h15, rfl⟩ | ⟨h15, rfl⟩, rfl⟩ := hp
      · refine ⟨rfl, ?_⟩
        refine ar_if_ne (pc := 18) (tgt := 23) dX7_stand_18 (by decide) (fun c18 => ?_) (fun c18 => absurd c18 (by decide))
        exact ar_k0 (lX7_stand_23s _ q z M n K R hj y hy ht) rfl rfl
      · refine ⟨rfl, ?_⟩
        refine ar_if_ne (pc := 18) (tgt := 23) dX7_stand_18 (by decide) (fun c18 => absurd c18 (by decide)) (fun c18 => ?_)
        refine ar_iconst (pc := 21) dX7_stand_21 q_iconst_m1 ?_
        exact hy.elim (fun e => absurd e c11) (fun e => absurd e h15)
  · refine ⟨rfl, ?_⟩
    refine ar_if_eq (pc := 5) (tgt := 21) dX7_stand_5 (by decide) (fun c5 => ?_) (fun c5 => absurd c5 (by decide))
    refine ar_iconst (pc := 21) dX7_stand_21 q_iconst_m1 ?_
    exact absurd (bk_j K.2.1.1 hj) h2

set_option maxHeartbeats 4000000 in
set_option maxRecDepth 100000 in
theorem sX7_shuffle_o (q : RV) (z : PV) (M : mr_R z q) (n : Nat) (K : ok_D (pN z) n) (R : ro_R 0 n (pN z) (rq_S q)) (a : Int32) (ha : a < 0) : am_Sp mX7_shuffle [.ref 2, .int a] (md_H q) (qq_P (-2) (z)) := by
  refine am_intro (by decide) (Nat.le_of_ble_eq_true rfl) ?_
  refine ar_iload_n (i := 1) (pc := 0) dX7_shuffle_0 rfl rfl ?_
  refine ar_if_ge (pc := 1) (tgt := 7) dX7_shuffle_1 (by decide) (fun c1 => absurd c1 (Int32.not_le.mpr ha)) (fun c1 => ?_)
  refine ar_bipush (pc := 4) dX7_shuffle_4 q_bipush_m2 ?_
  exact ar_iret (pc := 6) dX7_shuffle_6 rfl rfl rfl ⟨rfl, q, rfl, M⟩

set_option maxHeartbeats 4000000 in
set_option maxRecDepth 100000 in
theorem sX7_shuffle_s (q : RV) (z : PV) (M : mr_R z q) (n : Nat) (K : ok_D (pN z) n) (R : ro_R 0 n (pN z) (rq_S q)) (a : Int32) (ha : 0 ≤ a) : am_Sp mX7_shuffle [.ref 2, .int a] (md_H q) (qq_P ((vX (pN z)).toInt32) (sN (rcZ z) (uX (pN z) a.toInt64))) := by
  have ha2 : 0 ≤ a.toInt := by rw [Int32.le_iff_toInt_le, ti_0] at ha; exact ha
  obtain ⟨xk, hxk, exk, exl, ea⟩ := x_of ha2
  refine am_intro (by decide) (Nat.le_of_ble_eq_true rfl) ?_
  refine ar_iload_n (i := 1) (pc := 0) dX7_shuffle_0 rfl rfl ?_
  refine ar_if_ge (pc := 1) (tgt := 7) dX7_shuffle_1 (by decide) (fun c1 => ?_) (fun c1 => absurd ha c1)
  refine ar_aload_n (i := 0) (pc := 7) dX7_shuffle_7 rfl rfl ?_
  refine ar_idV (pc := 8) dX7_shuffle_8 cal_X7_remembers kX7_86 rfl (sX7_remembers q (pY z).2.2 M.2.1.2.1 M.2.1.2.2.1) rfl rfl rfl rfl rfl rfl rfl (fun r h1 hp => ?_)
  obtain ⟨rfl, rfl⟩ := hp
  refine ⟨pat_md _ _, ?_⟩
  refine ar_hp (h' := md_H (rm_Q q (pY z).2.2)) rfl ?_
  refine ar_aload_n (i := 0) (pc := 11) dX7_shuffle_11 rfl rfl ?_
  refine ar_getf (pc := 12) dX7_shuffle_12 fX7_7 rfl rfl ?_
  refine ar_bipush (pc := 15) dX7_shuffle_15 q_bipush_6 ?_
  refine ar_iald (pc := 17) dX7_shuffle_17 rfl (show 6 < 120 by decide) rfl ?_
  rw [show rq_S (rm_Q q (pY z).2.2) 6 = (vX (pN z)).toInt32 by have h := roX R; rw [Nat.zero_add] at h; exact h]
  refine ar_istore_n (i := 2) (pc := 18) dX7_shuffle_18 rfl (Nat.le_of_ble_eq_true rfl) rfl ?_
  refine ar_aload_n (i := 0) (pc := 19) dX7_shuffle_19 rfl rfl ?_
  refine ar_getf (pc := 20) dX7_shuffle_20 fX7_7 rfl rfl ?_
  refine ar_bipush (pc := 23) dX7_shuffle_23 q_bipush_6 ?_
  refine ar_iload_n (i := 1) (pc := 25) dX7_shuffle_25 rfl rfl ?_
  refine ar_iast (pc := 26) dX7_shuffle_26 rfl (show 6 < 120 by decide) rfl ?_
  rw [md_S]
  refine ar_iload_n (i := 2) (pc := 27) dX7_shuffle_27 rfl rfl ?_
  exact ar_iret (pc := 28) dX7_shuffle_28 rfl rfl rfl ⟨rfl, _, rfl, mr_chg0 M ⟨n, ok_shuffle K ha2, by have h := ro_uX R a.toInt64; rw [Nat.zero_add, ea] at h; exact h⟩⟩

set_option maxHeartbeats 4000000 in
set_option maxRecDepth 100000 in
theorem sX7_play_f (q : RV) (z : PV) (M : mr_R z q) (n : Nat) (K : ok_D (pN z) n) (R : ro_R 0 n (pN z) (rq_S q)) (hd : 9999 ≤ (vDa (pN z)).toInt) : am_Sp mX7_play [.ref 2] (md_H q) (qq_P (-4) (z)) := by
  refine am_intro (by decide) (Nat.le_of_ble_eq_true rfl) ?_
  refine ar_aload_n (i := 0) (pc := 0) dX7_play_0 rfl rfl ?_
  refine ar_getf (pc := 1) dX7_play_1 fX7_7 rfl rfl ?_
  refine ar_bipush (pc := 4) dX7_play_4 q_bipush_9 ?_
  refine ar_iald (pc := 6) dX7_play_6 rfl (show 9 < 120 by decide) rfl ?_
  rw [(show rq_S q 9 = vDa (pN z) by have h := roDa R; rw [Nat.zero_add] at h; exact h)]
  refine ar_sipush (pc := 7) dX7_play_7 q_sipush_9999 ?_
  refine ar_icmp_ne (pc := 10) (tgt := 16) dX7_play_10 (by decide) (fun c10 => absurd (Int32.toInt_inj.mp (by rw [ti_9999]; have := K.2.2.1; omega)) c10) (fun c10 => ?_)
  refine ar_bipush (pc := 13) dX7_play_13 q_bipush_m4 ?_
  exact ar_iret (pc := 15) dX7_play_15 rfl rfl rfl ⟨rfl, q, rfl, M⟩

set_option maxHeartbeats 4000000 in
set_option maxRecDepth 100000 in
theorem sX7_play_s (q : RV) (z : PV) (M : mr_R z q) (n : Nat) (K : ok_D (pN z) n) (R : ro_R 0 n (pN z) (rq_S q)) (hd : (vDa (pN z)).toInt < 9999) (x : VWt) : am_Sp mX7_play [.ref 2] (md_H q) (qq_P (dyC (pN z) n) (sN (sW (rcZ z) x) (dyV (pN z) n))) := by
  refine am_intro (by decide) (Nat.le_of_ble_eq_true rfl) ?_
  refine ar_aload_n (i := 0) (pc := 0) dX7_play_0 rfl rfl ?_
  refine ar_getf (pc := 1) dX7_play_1 fX7_7 rfl rfl ?_
  refine ar_bipush (pc := 4) dX7_play_4 q_bipush_9 ?_
  refine ar_iald (pc := 6) dX7_play_6 rfl (show 9 < 120 by decide) rfl ?_
  rw [(show rq_S q 9 = vDa (pN z) by have h := roDa R; rw [Nat.zero_add] at h; exact h)]
  refine ar_sipush (pc := 7) dX7_play_7 q_sipush_9999 ?_
  refine ar_icmp_ne (pc := 10) (tgt := 16) dX7_play_10 (by decide) (fun c10 => ?_) (fun c10 => absurd (congrArg Int32.toInt c10) (by rw [ti_9999]; omega))
  refine ar_aload_n (i := 0) (pc := 16) dX7_play_16 rfl rfl ?_
  refine ar_idV (pc := 17) dX7_play_17 cal_X7_remembers kX7_86 rfl (sX7_remembers q (pY z).2.2 M.2.1.2.1 M.2.1.2.2.1) rfl rfl rfl rfl rfl rfl rfl (fun r h1 hp => ?_)
  obtain ⟨rfl, rfl⟩ := hp
  refine ⟨pat_md _ _, ?_⟩
  refine ar_hp (h' := md_H (rm_Q q (pY z).2.2)) rfl ?_
  refine ar_aload_n (i := 0) (pc := 20) dX7_play_20 rfl rfl ?_
  refine ar_iconst (pc := 21) dX7_play_21 q_iconst_0 ?_
  refine ar_idV (pc := 22) dX7_play_22 cal_X7_plays kX7_109 rfl (sX7_plays0 (rm_Q q (pY z).2.2) n (pN z) R K.2.1) rfl rfl rfl rfl rfl rfl rfl (fun r h1 hp => ?_)
  obtain ⟨st, s2, rfl, rfl, R2, -⟩ := hp
  refine ⟨pat_md _ _, ?_⟩
  exact ar_iret (pc := 25) dX7_play_25 rfl rfl rfl ⟨rfl, _, rfl, mr_chg M ⟨n, ok_play K hd, R2⟩⟩

