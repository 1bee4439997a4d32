/-! the reference asked: booth, pitch, seen -/
theorem mr_askT {z : PV} {q : RV} {st : Nat → Int32} (M : mr_R z q) : mr_R z (ru_T q st) := M
/-- the crowd of a booth, from one side, from both, as the class reckons it -/
theorem sb_sf {v : SV} {n : Nat} (h8 : n ≤ 8) (D : di_D v n) (l : Int32) (j : Nat) : sb_V l v n j = sfV l v n j := by
  unfold sb_V sfV
  exact stpV_cong fun q hq _ => to_uniq h8 (to_tpV D h8) (to_lk6 D) hq
theorem sb_cr {v : SV} {n : Nat} (h8 : n ≤ 8) (D : di_D v n) (j : Nat) : sb_V 1 v n j + sb_V 0 v n j = crA v (lkT v n (-6) 8) (vP v j) (vH v j) := by
  show crA v (tpV v n) (vP v j) (vH v j) = _
  exact crA_cong fun q hq _ => to_uniq h8 (to_tpV D h8) (to_lk6 D) hq
theorem rs_sw {v : SV} {n : Nat} (h8 : n ≤ 8) (D : di_D v n) : rs_V v n = swN v n := by
  unfold rs_V swN
  rw [paF_cong (fun q hq => to_uniq h8 (to_tpV D h8) (to_lk6 D) hq), paF_cong (l := 0) (fun q hq => to_uniq h8 (to_tpV D h8) (to_lk6 D) hq)]
set_option maxHeartbeats 4000000 in
set_option maxRecDepth 100000 in
theorem sX7_crowd_2 (q : RV) (n : Nat) (w : SV) (R : ro_R 0 n w (rq_S q)) (h8 : n ≤ 8) (D : di_D w n) {j : Nat} (hj : j < n) : am_Sp mX7_crowd [.ref 2, .int (nI j), .int (nI 2)] (md_H q) (fun r h1 => ∃ st, r = some (.int (sb_V 1 w n j + sb_V 0 w n j)) ∧ h1 = md_H (ru_T q st)) := by
  refine am_intro (by decide) (Nat.le_of_ble_eq_true rfl) ?_
  refine ar_aload_n (i := 0) (pc := 0) dX7_crowd_0 rfl rfl ?_
  refine ar_iconst (pc := 1) dX7_crowd_1 q_iconst_0 ?_
  refine ar_idV (pc := 2) dX7_crowd_2 cal_X7_crowds kX7_50 rfl (sX7_crowds0 q n w R h8 D) rfl rfl rfl rfl rfl rfl rfl (fun r h1 hp => ?_)
  obtain ⟨st, rfl, rfl, hst⟩ := hp
  refine ⟨pat_md _ _, ?_⟩
  refine ar_istore_n (i := 3) (pc := 5) dX7_crowd_5 rfl (Nat.le_of_ble_eq_true rfl) rfl ?_
  refine ar_iload_n (i := 2) (pc := 6) dX7_crowd_6 rfl rfl ?_
  refine ar_iconst (pc := 7) dX7_crowd_7 q_iconst_2 ?_
  refine ar_icmp_ne (pc := 8) (tgt := 19) dX7_crowd_8 (by decide) (fun c8 => absurd rfl c8) (fun c8 => ?_)
  refine ar_aload_n (i := 0) (pc := 11) dX7_crowd_11 rfl rfl ?_
  refine ar_iload_n (i := 1) (pc := 12) dX7_crowd_12 rfl rfl ?_
  refine ar_idV (pc := 13) dX7_crowd_13 cal_X7_crowdOf kX7_54 rfl (sX7_crowdOf (ru_T q st) (b := j) (by omega)) rfl rfl rfl rfl rfl rfl rfl (fun r h1 hp => ?_)
  obtain ⟨rfl, rfl⟩ := hp
  refine ⟨rfl, ?_⟩
  refine ar_goto (tgt := 31) (pc := 16) dX7_crowd_16 (by decide) ?_
  exact ar_iret (pc := 31) dX7_crowd_31 rfl rfl rfl ⟨st, by rw [rq_TT, (hst j hj).1, (hst j hj).2], rfl⟩

set_option maxHeartbeats 4000000 in
set_option maxRecDepth 100000 in
theorem sX7_crowd_3 (q : RV) (n : Nat) (w : SV) (R : ro_R 0 n w (rq_S q)) (h8 : n ≤ 8) (D : di_D w n) {j : Nat} (hj : j < n) : am_Sp mX7_crowd [.ref 2, .int (nI j), .int (nI 3)] (md_H q) (fun r h1 => ∃ st, r = some (.int (sb_V 1 w n j)) ∧ h1 = md_H (ru_T q st)) := by
  refine am_intro (by decide) (Nat.le_of_ble_eq_true rfl) ?_
  refine ar_aload_n (i := 0) (pc := 0) dX7_crowd_0 rfl rfl ?_
  refine ar_iconst (pc := 1) dX7_crowd_1 q_iconst_0 ?_
  refine ar_idV (pc := 2) dX7_crowd_2 cal_X7_crowds kX7_50 rfl (sX7_crowds0 q n w R h8 D) rfl rfl rfl rfl rfl rfl rfl (fun r h1 hp => ?_)
  obtain ⟨st, rfl, rfl, hst⟩ := hp
  refine ⟨pat_md _ _, ?_⟩
  refine ar_istore_n (i := 3) (pc := 5) dX7_crowd_5 rfl (Nat.le_of_ble_eq_true rfl) rfl ?_
  refine ar_iload_n (i := 2) (pc := 6) dX7_crowd_6 rfl rfl ?_
  refine ar_iconst (pc := 7) dX7_crowd_7 q_iconst_2 ?_
  refine ar_icmp_ne (pc := 8) (tgt := 19) dX7_crowd_8 (by decide) (fun c8 => ?_) (fun c8 => absurd c8 (by decide +kernel))
  refine ar_aload_n (i := 0) (pc := 19) dX7_crowd_19 rfl rfl ?_
  refine ar_getf (pc := 20) dX7_crowd_20 fX7_26 rfl rfl ?_
  refine ar_iconst (pc := 23) dX7_crowd_23 q_iconst_2 ?_
  refine ar_iload_n (i := 1) (pc := 24) dX7_crowd_24 rfl rfl ?_
  refine ar_imul (pc := 25) dX7_crowd_25 ?_
  refine ar_iload_n (i := 2) (pc := 26) dX7_crowd_26 rfl rfl ?_
  refine ar_iadd (pc := 27) dX7_crowd_27 ?_
  refine ar_iconst (pc := 28) dX7_crowd_28 q_iconst_3 ?_
  refine ar_isub (pc := 29) dX7_crowd_29 ?_
  refine ar_iald (pc := 30) dX7_crowd_30 rfl (show 2 * j + 0 < 16 by omega) (by rw [show (2 : Int32) = nI 2 from rfl, pk_mul, nI_add, show (3 : Int32) = nI 3 from rfl, pk_sub (by omega)]; exact congrArg nI (by omega)) ?_
  exact ar_iret (pc := 31) dX7_crowd_31 rfl rfl rfl ⟨st, by rw [rq_TT, Nat.add_zero, (hst j hj).1], rfl⟩

set_option maxHeartbeats 4000000 in
set_option maxRecDepth 100000 in
theorem sX7_crowd_4 (q : RV) (n : Nat) (w : SV) (R : ro_R 0 n w (rq_S q)) (h8 : n ≤ 8) (D : di_D w n) {j : Nat} (hj : j < n) : am_Sp mX7_crowd [.ref 2, .int (nI j), .int (nI 4)] (md_H q) (fun r h1 => ∃ st, r = some (.int (sb_V 0 w n j)) ∧ h1 = md_H (ru_T q st)) := by
  refine am_intro (by decide) (Nat.le_of_ble_eq_true rfl) ?_
  refine ar_aload_n (i := 0) (pc := 0) dX7_crowd_0 rfl rfl ?_
  refine ar_iconst (pc := 1) dX7_crowd_1 q_iconst_0 ?_
  refine ar_idV (pc := 2) dX7_crowd_2 cal_X7_crowds kX7_50 rfl (sX7_crowds0 q n w R h8 D) rfl rfl rfl rfl rfl rfl rfl (fun r h1 hp => ?_)
  obtain ⟨st, rfl, rfl, hst⟩ := hp
  refine ⟨pat_md _ _, ?_⟩
  refine ar_istore_n (i := 3) (pc := 5) dX7_crowd_5 rfl (Nat.le_of_ble_eq_true rfl) rfl ?_
  refine ar_iload_n (i := 2) (pc := 6) dX7_crowd_6 rfl rfl ?_
  refine ar_iconst (pc := 7) dX7_crowd_7 q_iconst_2 ?_
  refine ar_icmp_ne (pc := 8) (tgt := 19) dX7_crowd_8 (by decide) (fun c8 => ?_) (fun c8 => absurd c8 (by decide +kernel))
  refine ar_aload_n (i := 0) (pc := 19) dX7_crowd_19 rfl rfl ?_
  refine ar_getf (pc := 20) dX7_crowd_20 fX7_26 rfl rfl ?_
  refine ar_iconst (pc := 23) dX7_crowd_23 q_iconst_2 ?_
  refine ar_iload_n (i := 1) (pc := 24) dX7_crowd_24 rfl rfl ?_
  refine ar_imul (pc := 25) dX7_crowd_25 ?_
  refine ar_iload_n (i := 2) (pc := 26) dX7_crowd_26 rfl rfl ?_
  refine ar_iadd (pc := 27) dX7_crowd_27 ?_
  refine ar_iconst (pc := 28) dX7_crowd_28 q_iconst_3 ?_
  refine ar_isub (pc := 29) dX7_crowd_29 ?_
  refine ar_iald (pc := 30) dX7_crowd_30 rfl (show 2 * j + 1 < 16 by omega) (by rw [show (2 : Int32) = nI 2 from rfl, pk_mul, nI_add, show (3 : Int32) = nI 3 from rfl, pk_sub (by omega)]; exact congrArg nI (by omega)) ?_
  exact ar_iret (pc := 31) dX7_crowd_31 rfl rfl rfl ⟨st, by rw [rq_TT, (hst j hj).2], rfl⟩

theorem sX7_crowd2 (q : RV) (n : Nat) (w : SV) (R : ro_R 0 n w (rq_S q)) (h8 : n ≤ 8) (D : di_D w n) {j : Nat} (hj : j < n) : am_Sp mX7_crowd [.ref 2, .int (nI j), .int 2] (md_H q) (fun r h1 => ∃ st, r = some (.int (sb_V 1 w n j + sb_V 0 w n j)) ∧ h1 = md_H (ru_T q st)) := by
  have := sX7_crowd_2 q n w R h8 D hj
  rw [show nI 2 = (2 : Int32) from rfl] at this
  exact this
set_option maxHeartbeats 4000000 in
set_option maxRecDepth 100000 in
theorem sX7_booth_0 (q : RV) (z : PV) (M : mr_R z q) (n : Nat) (K : ok_D (pN z) n) (R : ro_R 0 n (pN z) (rq_S q)) {j : Nat} (hj : j < n) : am_Sp mX7_booth [.ref 2, .int (nI j), .int (nI 0)] (md_H q) (qq_P (vH (pN z) j) (z)) := by
  refine am_intro (by decide) (Nat.le_of_ble_eq_true rfl) ?_
  refine ar_aload_n (i := 0) (pc := 0) dX7_booth_0 rfl rfl ?_
  refine ar_iload_n (i := 1) (pc := 1) dX7_booth_1 rfl rfl ?_
  refine ar_idV (pc := 2) dX7_booth_2 cal_X7_isBooth kX7_100 rfl (sX7_isBooth q n (show rq_S q 7 = nI n by have h := roN R; rw [Nat.zero_add] at h; exact h) K.2.1.1 _) rfl rfl rfl rfl rfl rfl rfl (fun r h1 hp => ?_)
  obtain ⟨⟨h2, rfl⟩ | ⟨h2, rfl⟩, rfl⟩ := hp
  · refine ⟨rfl, ?_⟩
    refine ar_if_ne (pc := 5) (tgt := 10) dX7_booth_5 (by decide) (fun c5 => ?_) (fun c5 => absurd c5 (by decide))
    refine ar_iload_n (i := 2) (pc := 10) dX7_booth_10 rfl rfl ?_
    refine ar_tsIn (pc := 11) (tgt := 56) (off := 45) dX7_booth_11 (by decide +kernel) (by decide +kernel) (by decide +kernel) (by decide) ?_
    refine ar_aload_n (i := 0) (pc := 56) dX7_booth_56 rfl rfl ?_
    refine ar_iload_n (i := 1) (pc := 57) dX7_booth_57 rfl rfl ?_
    refine ar_iconst (pc := 58) dX7_booth_58 q_iconst_0 ?_
    refine ar_idV (pc := 59) dX7_booth_59 cal_X7_its kX7_103 rfl (sX7_its0 q (show j < 8 by have := K.2.1.1; omega)) rfl rfl rfl rfl rfl rfl rfl (fun r h1 hp => ?_)
    obtain ⟨rfl, rfl⟩ := hp
    refine ⟨rfl, ?_⟩
    rw [show rq_S q (20 + 5 * j) = vH (pN z) j by have h := roH R hj; rw [Nat.zero_add] at h; exact h]
    exact ar_iret (pc := 62) dX7_booth_62 rfl rfl rfl ⟨rfl, q, rfl, M⟩
  · refine ⟨rfl, ?_⟩
    refine ar_if_ne (pc := 5) (tgt := 10) dX7_booth_5 (by decide) (fun c5 => absurd c5 (by decide)) (fun c5 => ?_)
    refine ar_iconst (pc := 8) dX7_booth_8 q_iconst_m1 ?_
    exact absurd (bk_j K.2.1.1 hj) h2

set_option maxHeartbeats 4000000 in
set_option maxRecDepth 100000 in
theorem sX7_booth_1 (q : RV) (z : PV) (M : mr_R z q) (n : Nat) (K : ok_D (pN z) n) (R : ro_R 0 n (pN z) (rq_S q)) {j : Nat} (hj : j < n) : am_Sp mX7_booth [.ref 2, .int (nI j), .int (nI 1)] (md_H q) (qq_P (vP (pN z) j) (z)) := by
  have hv : vP (pN z) j = -6 ∨ 0 ≤ (vP (pN z) j).toInt := (K.2.1.2.2.2.2.1 j hj).imp_right fun e => e.1
  have hr := pm_b hv
  refine am_intro (by decide) (Nat.le_of_ble_eq_true rfl) ?_
  refine ar_aload_n (i := 0) (pc := 0) dX7_booth_0 rfl rfl ?_
  refine ar_iload_n (i := 1) (pc := 1) dX7_booth_1 rfl rfl ?_
  refine ar_idV (pc := 2) dX7_booth_2 cal_X7_isBooth kX7_100 rfl (sX7_isBooth q n (show rq_S q 7 = nI n by have h := roN R; rw [Nat.zero_add] at h; exact h) K.2.1.1 _) rfl rfl rfl rfl rfl rfl rfl (fun r h1 hp => ?_)
  obtain ⟨⟨h2, rfl⟩ | ⟨h2, rfl⟩, rfl⟩ := hp
  · refine ⟨rfl, ?_⟩
    refine ar_if_ne (pc := 5) (tgt := 10) dX7_booth_5 (by decide) (fun c5 => ?_) (fun c5 => absurd c5 (by decide))
    refine ar_iload_n (i := 2) (pc := 10) dX7_booth_10 rfl rfl ?_
    refine ar_tsIn (pc := 11) (tgt := 63) (off := 52) dX7_booth_11 (by decide +kernel) (by decide +kernel) (by decide +kernel) (by decide) ?_
    refine ar_aload_n (i := 0) (pc := 63) dX7_booth_63 rfl rfl ?_
    refine ar_iload_n (i := 1) (pc := 64) dX7_booth_64 rfl rfl ?_
    refine ar_iconst (pc := 65) dX7_booth_65 q_iconst_1 ?_
    refine ar_idV (pc := 66) dX7_booth_66 cal_X7_its kX7_103 rfl (sX7_its1 q (show j < 8 by have := K.2.1.1; omega)) rfl rfl rfl rfl rfl rfl rfl (fun r h1 hp => ?_)
    obtain ⟨rfl, rfl⟩ := hp
    refine ⟨rfl, ?_⟩
    rw [show rq_S q (20 + 5 * j + 1) = pm_ (vP (pN z) j) by have h := roP R hj; rw [Nat.zero_add] at h; exact h]
    refine ar_if_ge (pc := 69) (tgt := 77) dX7_booth_69 (by decide) (fun c69 => ?_) (fun c69 => ?_)
    · refine ar_aload_n (i := 0) (pc := 77) dX7_booth_77 rfl rfl ?_
      refine ar_iload_n (i := 1) (pc := 78) dX7_booth_78 rfl rfl ?_
      refine ar_iconst (pc := 79) dX7_booth_79 q_iconst_1 ?_
      refine ar_idV (pc := 80) dX7_booth_80 cal_X7_its kX7_103 rfl (sX7_its1 q (show j < 8 by have := K.2.1.1; omega)) rfl rfl rfl rfl rfl rfl rfl (fun r h1 hp => ?_)
      obtain ⟨rfl, rfl⟩ := hp
      refine ⟨rfl, ?_⟩
      rw [show rq_S q (20 + 5 * j + 1) = pm_ (vP (pN z) j) by have h := roP R hj; rw [Nat.zero_add] at h; exact h]
      exact ar_iret (pc := 83) dX7_booth_83 rfl rfl rfl ⟨congrArg (fun x => some (Value.int x)) ((if_neg (Int32.not_lt.mpr c69)).symm.trans hr), q, rfl, M⟩
    · refine ar_bipush (pc := 72) dX7_booth_72 q_bipush_m6 ?_
      refine ar_goto (tgt := 83) (pc := 74) dX7_booth_74 (by decide) ?_
      exact ar_iret (pc := 83) dX7_booth_83 rfl rfl rfl ⟨congrArg (fun x => some (Value.int x)) ((if_pos (Int32.not_le.mp c69)).symm.trans hr), q, rfl, M⟩
  · refine ⟨rfl, ?_⟩
    refine ar_if_ne (pc := 5) (tgt := 10) dX7_booth_5 (by decide) (fun c5 => absurd c5 (by decide)) (fun c5 => ?_)
    refine ar_iconst (pc := 8) dX7_booth_8 q_iconst_m1 ?_
    exact absurd (bk_j K.2.1.1 hj) h2

set_option maxHeartbeats 4000000 in
set_option maxRecDepth 100000 in
theorem sX7_booth_2 (q : RV) (z : PV) (M : mr_R z q) (n : Nat) (K : ok_D (pN z) n) (R : ro_R 0 n (pN z) (rq_S q)) {j : Nat} (hj : j < n) : am_Sp mX7_booth [.ref 2, .int (nI j), .int (nI 2)] (md_H q) (qq_P (crA (pN z) (lkT (pN z) n (-6) 8) (vP (pN z) j) (vH (pN z) j)) (z)) := by
  refine am_intro (by decide) (Nat.le_of_ble_eq_true rfl) ?_
  refine ar_aload_n (i := 0) (pc := 0) dX7_booth_0 rfl rfl ?_
  refine ar_iload_n (i := 1) (pc := 1) dX7_booth_1 rfl rfl ?_
  refine ar_idV (pc := 2) dX7_booth_2 cal_X7_isBooth kX7_100 rfl (sX7_isBooth q n (show rq_S q 7 = nI n by have h := roN R; rw [Nat.zero_add] at h; exact h) K.2.1.1 _) rfl rfl rfl rfl rfl rfl rfl (fun r h1 hp => ?_)
  obtain ⟨⟨h2, rfl⟩ | ⟨h2, rfl⟩, rfl⟩ := hp
  · refine ⟨rfl, ?_⟩
    refine ar_if_ne (pc := 5) (tgt := 10) dX7_booth_5 (by decide) (fun c5 => ?_) (fun c5 => absurd c5 (by decide))
    refine ar_iload_n (i := 2) (pc := 10) dX7_booth_10 rfl rfl ?_
    refine ar_tsIn (pc := 11) (tgt := 84) (off := 73) dX7_booth_11 (by decide +kernel) (by decide +kernel) (by decide +kernel) (by decide) ?_
    refine ar_aload_n (i := 0) (pc := 84) dX7_booth_84 rfl rfl ?_
    refine ar_iload_n (i := 1) (pc := 85) dX7_booth_85 rfl rfl ?_
    refine ar_iload_n (i := 2) (pc := 86) dX7_booth_86 rfl rfl ?_
    refine ar_idV (pc := 87) dX7_booth_87 cal_X7_crowd kX7_112 rfl (sX7_crowd_2 q n (pN z) R K.2.1.1 K.2.1.2.2.2.1 hj) rfl rfl rfl rfl rfl rfl rfl (fun r h1 hp => ?_)
    obtain ⟨st, rfl, rfl⟩ := hp
    refine ⟨pat_md _ _, ?_⟩
    exact ar_iret (pc := 90) dX7_booth_90 rfl rfl rfl ⟨by rw [sb_cr K.2.1.1 K.2.1.2.2.2.1 j], _, rfl, mr_askT M⟩
  · refine ⟨rfl, ?_⟩
    refine ar_if_ne (pc := 5) (tgt := 10) dX7_booth_5 (by decide) (fun c5 => absurd c5 (by decide)) (fun c5 => ?_)
    refine ar_iconst (pc := 8) dX7_booth_8 q_iconst_m1 ?_
    exact absurd (bk_j K.2.1.1 hj) h2

set_option maxHeartbeats 4000000 in
set_option maxRecDepth 100000 in
theorem sX7_booth_3 (q : RV) (z : PV) (M : mr_R z q) (n : Nat) (K : ok_D (pN z) n) (R : ro_R 0 n (pN z) (rq_S q)) {j : Nat} (hj : j < n) : am_Sp mX7_booth [.ref 2, .int (nI j), .int (nI 3)] (md_H q) (qq_P (sfV 1 (pN z) n j) (z)) := by
  refine am_intro (by decide) (Nat.le_of_ble_eq_true rfl) ?_
  refine ar_aload_n (i := 0) (pc := 0) dX7_booth_0 rfl rfl ?_
  refine ar_iload_n (i := 1) (pc := 1) dX7_booth_1 rfl rfl ?_
  refine ar_idV (pc := 2) dX7_booth_2 cal_X7_isBooth kX7_100 rfl (sX7_isBooth q n (show rq_S q 7 = nI n by have h := roN R; rw [Nat.zero_add] at h; exact h) K.2.1.1 _) rfl rfl rfl rfl rfl rfl rfl (fun r h1 hp => ?_)
  obtain ⟨⟨h2, rfl⟩ | ⟨h2, rfl⟩, rfl⟩ := hp
  · refine ⟨rfl, ?_⟩
    refine ar_if_ne (pc := 5) (tgt := 10) dX7_booth_5 (by decide) (fun c5 => ?_) (fun c5 => absurd c5 (by decide))
    refine ar_iload_n (i := 2) (pc := 10) dX7_booth_10 rfl rfl ?_
    refine ar_tsIn (pc := 11) (tgt := 84) (off := 73) dX7_booth_11 (by decide +kernel) (by decide +kernel) (by decide +kernel) (by decide) ?_
    refine ar_aload_n (i := 0) (pc := 84) dX7_booth_84 rfl rfl ?_
    refine ar_iload_n (i := 1) (pc := 85) dX7_booth_85 rfl rfl ?_
    refine ar_iload_n (i := 2) (pc := 86) dX7_booth_86 rfl rfl ?_
    refine ar_idV (pc := 87) dX7_booth_87 cal_X7_crowd kX7_112 rfl (sX7_crowd_3 q n (pN z) R K.2.1.1 K.2.1.2.2.2.1 hj) rfl rfl rfl rfl rfl rfl rfl (fun r h1 hp => ?_)
    obtain ⟨st, rfl, rfl⟩ := hp
    refine ⟨pat_md _ _, ?_⟩
    exact ar_iret (pc := 90) dX7_booth_90 rfl rfl rfl ⟨by rw [sb_sf K.2.1.1 K.2.1.2.2.2.1], _, rfl, mr_askT M⟩
  · refine ⟨rfl, ?_⟩
    refine ar_if_ne (pc := 5) (tgt := 10) dX7_booth_5 (by decide) (fun c5 => absurd c5 (by decide)) (fun c5 => ?_)
    refine ar_iconst (pc := 8) dX7_booth_8 q_iconst_m1 ?_
    exact absurd (bk_j K.2.1.1 hj) h2

set_option maxHeartbeats 4000000 in
set_option maxRecDepth 100000 in
theorem sX7_booth_4 (q : RV) (z : PV) (M : mr_R z q) (n : Nat) (K : ok_D (pN z) n) (R : ro_R 0 n (pN z) (rq_S q)) {j : Nat} (hj : j < n) : am_Sp mX7_booth [.ref 2, .int (nI j), .int (nI 4)] (md_H q) (qq_P (sfV 0 (pN z) n j) (z)) := by
  refine am_intro (by decide) (Nat.le_of_ble_eq_true rfl) ?_
  refine ar_aload_n (i := 0) (pc := 0) dX7_booth_0 rfl rfl ?_
  refine ar_iload_n (i := 1) (pc := 1) dX7_booth_1 rfl rfl ?_
  refine ar_idV (pc := 2) dX7_booth_2 cal_X7_isBooth kX7_100 rfl (sX7_isBooth q n (show rq_S q 7 = nI n by have h := roN R; rw [Nat.zero_add] at h; exact h) K.2.1.1 _) rfl rfl rfl rfl rfl rfl rfl (fun r h1 hp => ?_)
  obtain ⟨⟨h2, rfl⟩ | ⟨h2, rfl⟩, rfl⟩ := hp
  · refine ⟨rfl, ?_⟩
    refine ar_if_ne (pc := 5) (tgt := 10) dX7_booth_5 (by decide) (fun c5 => ?_) (fun c5 => absurd c5 (by decide))
    refine ar_iload_n (i := 2) (pc := 10) dX7_booth_10 rfl rfl ?_
    refine ar_tsIn (pc := 11) (tgt := 84) (off := 73) dX7_booth_11 (by decide +kernel) (by decide +kernel) (by decide +kernel) (by decide) ?_
    refine ar_aload_n (i := 0) (pc := 84) dX7_booth_84 rfl rfl ?_
    refine ar_iload_n (i := 1) (pc := 85) dX7_booth_85 rfl rfl ?_
    refine ar_iload_n (i := 2) (pc := 86) dX7_booth_86 rfl rfl ?_
    refine ar_idV (pc := 87) dX7_booth_87 cal_X7_crowd kX7_112 rfl (sX7_crowd_4 q n (pN z) R K.2.1.1 K.2.1.2.2.2.1 hj) rfl rfl rfl rfl rfl rfl rfl (fun r h1 hp => ?_)
    obtain ⟨st, rfl, rfl⟩ := hp
    refine ⟨pat_md _ _, ?_⟩
    exact ar_iret (pc := 90) dX7_booth_90 rfl rfl rfl ⟨by rw [sb_sf K.2.1.1 K.2.1.2.2.2.1], _, rfl, mr_askT M⟩
  · refine ⟨rfl, ?_⟩
    refine ar_if_ne (pc := 5) (tgt := 10) dX7_booth_5 (by decide) (fun c5 => absurd c5 (by decide)) (fun c5 => ?_)
    refine ar_iconst (pc := 8) dX7_booth_8 q_iconst_m1 ?_
    exact absurd (bk_j K.2.1.1 hj) h2

set_option maxHeartbeats 4000000 in
set_option maxRecDepth 100000 in
theorem sX7_booth_5 (q : RV) (z : PV) (M : mr_R z q) (n : Nat) (K : ok_D (pN z) n) (R : ro_R 0 n (pN z) (rq_S q)) {j : Nat} (hj : j < n) : am_Sp mX7_booth [.ref 2, .int (nI j), .int (nI 5)] (md_H q) (qq_P (vT (pN z) j) (z)) := by
  refine am_intro (by decide) (Nat.le_of_ble_eq_true rfl) ?_
  refine ar_aload_n (i := 0) (pc := 0) dX7_booth_0 rfl rfl ?_
  refine ar_iload_n (i := 1) (pc := 1) dX7_booth_1 rfl rfl ?_
  refine ar_idV (pc := 2) dX7_booth_2 cal_X7_isBooth kX7_100 rfl (sX7_isBooth q n (show rq_S q 7 = nI n by have h := roN R; rw [Nat.zero_add] at h; exact h) K.2.1.1 _) rfl rfl rfl rfl rfl rfl rfl (fun r h1 hp => ?_)
  obtain ⟨⟨h2, rfl⟩ | ⟨h2, rfl⟩, rfl⟩ := hp
  · refine ⟨rfl, ?_⟩
    refine ar_if_ne (pc := 5) (tgt := 10) dX7_booth_5 (by decide) (fun c5 => ?_) (fun c5 => absurd c5 (by decide))
    refine ar_iload_n (i := 2) (pc := 10) dX7_booth_10 rfl rfl ?_
    refine ar_tsIn (pc := 11) (tgt := 91) (off := 80) dX7_booth_11 (by decide +kernel) (by decide +kernel) (by decide +kernel) (by decide) ?_
    refine ar_aload_n (i := 0) (pc := 91) dX7_booth_91 rfl rfl ?_
    refine ar_iload_n (i := 1) (pc := 92) dX7_booth_92 rfl rfl ?_
    refine ar_iload_n (i := 2) (pc := 93) dX7_booth_93 rfl rfl ?_
    refine ar_iconst (pc := 94) dX7_booth_94 q_iconst_3 ?_
    refine ar_isub (pc := 95) dX7_booth_95 ?_
    rw [show nI 5 - (3 : Int32) = nI 2 by decide +kernel]
    refine ar_idV (pc := 96) dX7_booth_96 cal_X7_its kX7_103 rfl (sX7_its q (show j < 8 by have := K.2.1.1; omega) (c := 2) (by decide)) rfl rfl rfl rfl rfl rfl rfl (fun r h1 hp => ?_)
    obtain ⟨rfl, rfl⟩ := hp
    refine ⟨rfl, ?_⟩
    rw [show rq_S q (20 + 5 * j + 2) = vT (pN z) j by have h := roT R hj; rw [Nat.zero_add] at h; exact h]
    exact ar_iret (pc := 99) dX7_booth_99 rfl rfl rfl ⟨rfl, q, rfl, M⟩
  · refine ⟨rfl, ?_⟩
    refine ar_if_ne (pc := 5) (tgt := 10) dX7_booth_5 (by decide) (fun c5 => absurd c5 (by decide)) (fun c5 => ?_)
    refine ar_iconst (pc := 8) dX7_booth_8 q_iconst_m1 ?_
    exact absurd (bk_j K.2.1.1 hj) h2

set_option maxHeartbeats 4000000 in
set_option maxRecDepth 100000 in
theorem sX7_booth_6 (q : RV) (z : PV) (M : mr_R z q) (n : Nat) (K : ok_D (pN z) n) (R : ro_R 0 n (pN z) (rq_S q)) {j : Nat} (hj : j < n) : am_Sp mX7_booth [.ref 2, .int (nI j), .int (nI 6)] (md_H q) (qq_P (vF (pN z) j) (z)) := by
  refine am_intro (by decide) (Nat.le_of_ble_eq_true rfl) ?_
  refine ar_aload_n (i := 0) (pc := 0) dX7_booth_0 rfl rfl ?_
  refine ar_iload_n (i := 1) (pc := 1) dX7_booth_1 rfl rfl ?_
  refine ar_idV (pc := 2) dX7_booth_2 cal_X7_isBooth kX7_100 rfl (sX7_isBooth q n (show rq_S q 7 = nI n by have h := roN R; rw [Nat.zero_add] at h; exact h) K.2.1.1 _) rfl rfl rfl rfl rfl rfl rfl (fun r h1 hp => ?_)
  obtain ⟨⟨h2, rfl⟩ | ⟨h2, rfl⟩, rfl⟩ := hp
  · refine ⟨rfl, ?_⟩
    refine ar_if_ne (pc := 5) (tgt := 10) dX7_booth_5 (by decide) (fun c5 => ?_) (fun c5 => absurd c5 (by decide))
    refine ar_iload_n (i := 2) (pc := 10) dX7_booth_10 rfl rfl ?_
    refine ar_tsIn (pc := 11) (tgt := 91) (off := 80) dX7_booth_11 (by decide +kernel) (by decide +kernel) (by decide +kernel) (by decide) ?_
    refine ar_aload_n (i := 0) (pc := 91) dX7_booth_91 rfl rfl ?_
    refine ar_iload_n (i := 1) (pc := 92) dX7_booth_92 rfl rfl ?_
    refine ar_iload_n (i := 2) (pc := 93) dX7_booth_93 rfl rfl ?_
    refine ar_iconst (pc := 94) dX7_booth_94 q_iconst_3 ?_
    refine ar_isub (pc := 95) dX7_booth_95 ?_
    rw [show nI 6 - (3 : Int32) = nI 3 by decide +kernel]
    refine ar_idV (pc := 96) dX7_booth_96 cal_X7_its kX7_103 rfl (sX7_its q (show j < 8 by have := K.2.1.1; omega) (c := 3) (by decide)) rfl rfl rfl rfl rfl rfl rfl (fun r h1 hp => ?_)
    obtain ⟨rfl, rfl⟩ := hp
    refine ⟨rfl, ?_⟩
    rw [show rq_S q (20 + 5 * j + 3) = vF (pN z) j by have h := roF R hj; rw [Nat.zero_add] at h; exact h]
    exact ar_iret (pc := 99) dX7_booth_99 rfl rfl rfl ⟨rfl, q, rfl, M⟩
  · refine ⟨rfl, ?_⟩
    refine ar_if_ne (pc := 5) (tgt := 10) dX7_booth_5 (by decide) (fun c5 => absurd c5 (by decide)) (fun c5 => ?_)
    refine ar_iconst (pc := 8) dX7_booth_8 q_iconst_m1 ?_
    exact absurd (bk_j K.2.1.1 hj) h2

set_option maxHeartbeats 4000000 in
set_option maxRecDepth 100000 in
theorem sX7_booth_7 (q : RV) (z : PV) (M : mr_R z q) (n : Nat) (K : ok_D (pN z) n) (R : ro_R 0 n (pN z) (rq_S q)) {j : Nat} (hj : j < n) : am_Sp mX7_booth [.ref 2, .int (nI j), .int (nI 7)] (md_H q) (qq_P (vI (pN z) j) (z)) := by
  refine am_intro (by decide) (Nat.le_of_ble_eq_true rfl) ?_
  refine ar_aload_n (i := 0) (pc := 0) dX7_booth_0 rfl rfl ?_
  refine ar_iload_n (i := 1) (pc := 1) dX7_booth_1 rfl rfl ?_
  refine ar_idV (pc := 2) dX7_booth_2 cal_X7_isBooth kX7_100 rfl (sX7_isBooth q n (show rq_S q 7 = nI n by have h := roN R; rw [Nat.zero_add] at h; exact h) K.2.1.1 _) rfl rfl rfl rfl rfl rfl rfl (fun r h1 hp => ?_)
  obtain ⟨⟨h2, rfl⟩ | ⟨h2, rfl⟩, rfl⟩ := hp
  · refine ⟨rfl, ?_⟩
    refine ar_if_ne (pc := 5) (tgt := 10) dX7_booth_5 (by decide) (fun c5 => ?_) (fun c5 => absurd c5 (by decide))
    refine ar_iload_n (i := 2) (pc := 10) dX7_booth_10 rfl rfl ?_
    refine ar_tsIn (pc := 11) (tgt := 91) (off := 80) dX7_booth_11 (by decide +kernel) (by decide +kernel) (by decide +kernel) (by decide) ?_
    refine ar_aload_n (i := 0) (pc := 91) dX7_booth_91 rfl rfl ?_
    refine ar_iload_n (i := 1) (pc := 92) dX7_booth_92 rfl rfl ?_
    refine ar_iload_n (i := 2) (pc := 93) dX7_booth_93 rfl rfl ?_
    refine ar_iconst (pc := 94) dX7_booth_94 q_iconst_3 ?_
    refine ar_isub (pc := 95) dX7_booth_95 ?_
    rw [show nI 7 - (3 : Int32) = nI 4 by decide +kernel]
    refine ar_idV (pc := 96) dX7_booth_96 cal_X7_its kX7_103 rfl (sX7_its q (show j < 8 by have := K.2.1.1; omega) (c := 4) (by decide)) rfl rfl rfl rfl rfl rfl rfl (fun r h1 hp => ?_)
    obtain ⟨rfl, rfl⟩ := hp
    refine ⟨rfl, ?_⟩
    rw [show rq_S q (20 + 5 * j + 4) = vI (pN z) j by have h := roI R hj; rw [Nat.zero_add] at h; exact h]
    exact ar_iret (pc := 99) dX7_booth_99 rfl rfl rfl ⟨rfl, q, rfl, M⟩
  · refine ⟨rfl, ?_⟩
    refine ar_if_ne (pc := 5) (tgt := 10) dX7_booth_5 (by decide) (fun c5 => absurd c5 (by decide)) (fun c5 => ?_)
    refine ar_iconst (pc := 8) dX7_booth_8 q_iconst_m1 ?_
    exact absurd (bk_j K.2.1.1 hj) h2

set_option maxHeartbeats 4000000 in
set_option maxRecDepth 100000 in
theorem sX7_booth_o (q : RV) (z : PV) (M : mr_R z q) (n : Nat) (K : ok_D (pN z) n) (R : ro_R 0 n (pN z) (rq_S q)) {j : Nat} (hj : j < n) (w : Int32) (hw : w.toInt < 0 ∨ 7 < w.toInt) : am_Sp mX7_booth [.ref 2, .int (nI j), .int w] (md_H q) (qq_P (-2) (z)) := by
  refine am_intro (by decide) (Nat.le_of_ble_eq_true rfl) ?_
  refine ar_aload_n (i := 0) (pc := 0) dX7_booth_0 rfl rfl ?_
  refine ar_iload_n (i := 1) (pc := 1) dX7_booth_1 rfl rfl ?_
  refine ar_idV (pc := 2) dX7_booth_2 cal_X7_isBooth kX7_100 rfl (sX7_isBooth q n (show rq_S q 7 = nI n by have h := roN R; rw [Nat.zero_add] at h; exact h) K.2.1.1 _) rfl rfl rfl rfl rfl rfl rfl (fun r h1 hp => ?_)
  obtain ⟨⟨h2, rfl⟩ | ⟨h2, rfl⟩, rfl⟩ := hp
  · refine ⟨rfl, ?_⟩
    refine ar_if_ne (pc := 5) (tgt := 10) dX7_booth_5 (by decide) (fun c5 => ?_) (fun c5 => absurd c5 (by decide))
    refine ar_iload_n (i := 2) (pc := 10) dX7_booth_10 rfl rfl ?_
    refine ar_tsOut (pc := 11) (tgt := 100) dX7_booth_11 hw (by decide) ?_
    refine ar_bipush (pc := 100) dX7_booth_100 q_bipush_m2 ?_
    exact ar_iret (pc := 102) dX7_booth_102 rfl rfl rfl ⟨rfl, q, rfl, M⟩
  · refine ⟨rfl, ?_⟩
    refine ar_if_ne (pc := 5) (tgt := 10) dX7_booth_5 (by decide) (fun c5 => absurd c5 (by decide)) (fun c5 => ?_)
    refine ar_iconst (pc := 8) dX7_booth_8 q_iconst_m1 ?_
    exact absurd (bk_j K.2.1.1 hj) h2

set_option maxHeartbeats 4000000 in
set_option maxRecDepth 100000 in
theorem sX7_booth_n (q : RV) (z : PV) (M : mr_R z q) (n : Nat) (K : ok_D (pN z) n) (R : ro_R 0 n (pN z) (rq_S q)) (b w : Int32) (hb : ¬ bkP n b) : am_Sp mX7_booth [.ref 2, .int b, .int w] (md_H q) (qq_P (-1) (z)) := by
  refine am_intro (by decide) (Nat.le_of_ble_eq_true rfl) ?_
  refine ar_aload_n (i := 0) (pc := 0) dX7_booth_0 rfl rfl ?_
  refine ar_iload_n (i := 1) (pc := 1) dX7_booth_1 rfl rfl ?_
  refine ar_idV (pc := 2) dX7_booth_2 cal_X7_isBooth kX7_100 rfl (sX7_isBooth q n (show rq_S q 7 = nI n by have h := roN R; rw [Nat.zero_add] at h; exact h) K.2.1.1 _) rfl rfl rfl rfl rfl rfl rfl (fun r h1 hp => ?_)
  obtain ⟨⟨h2, rfl⟩ | ⟨h2, rfl⟩, rfl⟩ := hp
  · refine ⟨rfl, ?_⟩
    refine ar_if_ne (pc := 5) (tgt := 10) dX7_booth_5 (by decide) (fun c5 => ?_) (fun c5 => absurd c5 (by decide))
    exact absurd h2 hb
  · refine ⟨rfl, ?_⟩
    refine ar_if_ne (pc := 5) (tgt := 10) dX7_booth_5 (by decide) (fun c5 => absurd c5 (by decide)) (fun c5 => ?_)
    refine ar_iconst (pc := 8) dX7_booth_8 q_iconst_m1 ?_
    exact ar_iret (pc := 9) dX7_booth_9 rfl rfl rfl ⟨rfl, q, rfl, M⟩

theorem bit_if (x : Int32) : x &&& 1 = if x &&& 1 = 1 then 1 else 0 := by
  rcases and_1 x with e | e
  · rw [if_neg (by rw [e]; decide)]; exact e
  · rw [if_pos e]; exact e
noncomputable def if_I (p : Prop) : Int32 := @ite _ p (Classical.propDecidable p) 1 0
theorem if_1 {p : Prop} (h : p) : if_I p = 1 := @if_pos p (Classical.propDecidable p) h _ _ _
theorem if_0 {p : Prop} (h : ¬ p) : if_I p = 0 := @if_neg p (Classical.propDecidable p) h _ _ _
theorem bit_I (x : Int32) : x &&& 1 = if_I (x &&& 1 = 1) := by
  rcases and_1 x with e | e
  · rw [if_0 (by rw [e]; decide)]; exact e
  · rw [if_1 e]; exact e
theorem op_lk {v : SV} {n p : Nat} (K : ok_D v n) (hp : p < 12) : fr_K v p n ↔ opP (lkT v n (-6) 8) p (vS v 4) :=
  fr_op K.2.1.1 hp (to_lk6 K.2.1.2.2.2.1) K.2.1.2.2.2.2.1 K.2.1.2.2.1 K.2.1.2.2.2.2.2
set_option maxHeartbeats 4000000 in
set_option maxRecDepth 100000 in
theorem sX7_pitch_0 (q : RV) (z : PV) (M : mr_R z q) (n : Nat) (K : ok_D (pN z) n) (R : ro_R 0 n (pN z) (rq_S q)) {p : Nat} (hp12 : p < 12) : am_Sp mX7_pitch [.ref 2, .int (nI p), .int (nI 0)] (md_H q) (qq_P (if_I (rfP (vRo (pN z)) p)) (z)) := by
  refine am_intro (by decide) (Nat.le_of_ble_eq_true rfl) ?_
  refine ar_iload_n (i := 1) (pc := 0) dX7_pitch_0 rfl rfl ?_
  refine ar_idS (pc := 1) dX7_pitch_1 cal_X7_isPitch kX7_89 rfl (sX7_isPitch (md_H q) _) rfl rfl rfl rfl rfl (fun r h1 hp => ?_)
  obtain ⟨⟨h1, rfl⟩ | ⟨h1, rfl⟩, rfl⟩ := hp
  · refine ⟨rfl, ?_⟩
    refine ar_if_ne (pc := 4) (tgt := 9) dX7_pitch_4 (by decide) (fun c4 => ?_) (fun c4 => absurd c4 (by decide))
    refine ar_iload_n (i := 2) (pc := 9) dX7_pitch_9 rfl rfl ?_
    refine ar_if_ne (pc := 10) (tgt := 27) dX7_pitch_10 (by decide) (fun c10 => absurd nI_0 c10) (fun c10 => ?_)
    refine ar_aload_n (i := 0) (pc := 13) dX7_pitch_13 rfl rfl ?_
    refine ar_getf (pc := 14) dX7_pitch_14 fX7_7 rfl rfl ?_
    refine ar_bipush (pc := 17) dX7_pitch_17 q_bipush_8 ?_
    refine ar_iald (pc := 19) dX7_pitch_19 rfl (show 8 < 120 by decide) rfl ?_
    rw [(show rq_S q 8 = vRo (pN z) by have h := roRo R; rw [Nat.zero_add] at h; exact h)]
    refine ar_iload_n (i := 1) (pc := 20) dX7_pitch_20 rfl rfl ?_
    refine ar_ishr (pc := 21) dX7_pitch_21 ?_
    refine ar_iconst (pc := 22) dX7_pitch_22 q_iconst_1 ?_
    refine ar_iand (pc := 23) dX7_pitch_23 ?_
    refine ar_goto (tgt := 65) (pc := 24) dX7_pitch_24 (by decide) ?_
    exact ar_iret (pc := 65) dX7_pitch_65 rfl rfl rfl ⟨congrArg (fun x => some (Value.int x)) (bit_I _), q, rfl, M⟩
  · refine ⟨rfl, ?_⟩
    refine ar_if_ne (pc := 4) (tgt := 9) dX7_pitch_4 (by decide) (fun c4 => absurd c4 (by decide)) (fun c4 => ?_)
    refine ar_iconst (pc := 7) dX7_pitch_7 q_iconst_m1 ?_
    exact absurd (in_p hp12) h1

set_option maxHeartbeats 4000000 in
set_option maxRecDepth 100000 in
theorem sX7_pitch_1 (q : RV) (z : PV) (M : mr_R z q) (n : Nat) (K : ok_D (pN z) n) (R : ro_R 0 n (pN z) (rq_S q)) {p : Nat} (hp12 : p < 12) : am_Sp mX7_pitch [.ref 2, .int (nI p), .int (nI 1)] (md_H q) (qq_P (o2i (ffi (atQ (pN z) n (nI p)) 8 0)) (z)) := by
  refine am_intro (by decide) (Nat.le_of_ble_eq_true rfl) ?_
  refine ar_iload_n (i := 1) (pc := 0) dX7_pitch_0 rfl rfl ?_
  refine ar_idS (pc := 1) dX7_pitch_1 cal_X7_isPitch kX7_89 rfl (sX7_isPitch (md_H q) _) rfl rfl rfl rfl rfl (fun r h1 hp => ?_)
  obtain ⟨⟨h1, rfl⟩ | ⟨h1, rfl⟩, rfl⟩ := hp
  · refine ⟨rfl, ?_⟩
    refine ar_if_ne (pc := 4) (tgt := 9) dX7_pitch_4 (by decide) (fun c4 => ?_) (fun c4 => absurd c4 (by decide))
    refine ar_iload_n (i := 2) (pc := 9) dX7_pitch_9 rfl rfl ?_
    refine ar_if_ne (pc := 10) (tgt := 27) dX7_pitch_10 (by decide) (fun c10 => ?_) (fun c10 => absurd c10 (by decide +kernel))
    refine ar_iload_n (i := 2) (pc := 27) dX7_pitch_27 rfl rfl ?_
    refine ar_iconst (pc := 28) dX7_pitch_28 q_iconst_1 ?_
    refine ar_icmp_ne (pc := 29) (tgt := 41) dX7_pitch_29 (by decide) (fun c29 => absurd rfl c29) (fun c29 => ?_)
    refine ar_aload_n (i := 0) (pc := 32) dX7_pitch_32 rfl rfl ?_
    refine ar_iconst (pc := 33) dX7_pitch_33 q_iconst_0 ?_
    refine ar_iload_n (i := 1) (pc := 34) dX7_pitch_34 rfl rfl ?_
    refine ar_idV (pc := 35) dX7_pitch_35 cal_X7_boothAt kX7_44 rfl (sX7_boothAt0 q n (pN z) R K.2.1.1 p hp12) rfl rfl rfl rfl rfl rfl rfl (fun r h1 hp => ?_)
    obtain ⟨rfl, rfl⟩ := hp
    refine ⟨rfl, ?_⟩
    refine ar_goto (tgt := 65) (pc := 38) dX7_pitch_38 (by decide) ?_
    exact ar_iret (pc := 65) dX7_pitch_65 rfl rfl rfl ⟨rfl, q, rfl, M⟩
  · refine ⟨rfl, ?_⟩
    refine ar_if_ne (pc := 4) (tgt := 9) dX7_pitch_4 (by decide) (fun c4 => absurd c4 (by decide)) (fun c4 => ?_)
    refine ar_iconst (pc := 7) dX7_pitch_7 q_iconst_m1 ?_
    exact absurd (in_p hp12) h1

set_option maxHeartbeats 4000000 in
set_option maxRecDepth 100000 in
theorem sX7_pitch_2 (q : RV) (z : PV) (M : mr_R z q) (n : Nat) (K : ok_D (pN z) n) (R : ro_R 0 n (pN z) (rq_S q)) {p : Nat} (hp12 : p < 12) : am_Sp mX7_pitch [.ref 2, .int (nI p), .int (nI 2)] (md_H q) (qq_P (if_I (opP (lkT (pN z) n (-6) 8) p (vS (pN z) 4))) (z)) := by
  refine am_intro (by decide) (Nat.le_of_ble_eq_true rfl) ?_
  refine ar_iload_n (i := 1) (pc := 0) dX7_pitch_0 rfl rfl ?_
  refine ar_idS (pc := 1) dX7_pitch_1 cal_X7_isPitch kX7_89 rfl (sX7_isPitch (md_H q) _) rfl rfl rfl rfl rfl (fun r h1 hp => ?_)
  obtain ⟨⟨h1, rfl⟩ | ⟨h1, rfl⟩, rfl⟩ := hp
  · refine ⟨rfl, ?_⟩
    refine ar_if_ne (pc := 4) (tgt := 9) dX7_pitch_4 (by decide) (fun c4 => ?_) (fun c4 => absurd c4 (by decide))
    refine ar_iload_n (i := 2) (pc := 9) dX7_pitch_9 rfl rfl ?_
    refine ar_if_ne (pc := 10) (tgt := 27) dX7_pitch_10 (by decide) (fun c10 => ?_) (fun c10 => absurd c10 (by decide +kernel))
    refine ar_iload_n (i := 2) (pc := 27) dX7_pitch_27 rfl rfl ?_
    refine ar_iconst (pc := 28) dX7_pitch_28 q_iconst_1 ?_
    refine ar_icmp_ne (pc := 29) (tgt := 41) dX7_pitch_29 (by decide) (fun c29 => ?_) (fun c29 => absurd c29 (by decide +kernel))
    refine ar_iload_n (i := 2) (pc := 41) dX7_pitch_41 rfl rfl ?_
    refine ar_iconst (pc := 42) dX7_pitch_42 q_iconst_2 ?_
    refine ar_icmp_ne (pc := 43) (tgt := 63) dX7_pitch_43 (by decide) (fun c43 => absurd rfl c43) (fun c43 => ?_)
    refine ar_aload_n (i := 0) (pc := 46) dX7_pitch_46 rfl rfl ?_
    refine ar_iconst (pc := 47) dX7_pitch_47 q_iconst_0 ?_
    refine ar_iload_n (i := 1) (pc := 48) dX7_pitch_48 rfl rfl ?_
    refine ar_idV (pc := 49) dX7_pitch_49 cal_X7_isFree kX7_67 rfl (sX7_isFree0 q n (pN z) R K.2.1.1 K.2.1.2.2.2.2.1 hp12) rfl rfl rfl rfl rfl rfl rfl (fun r h1 hp => ?_)
    obtain ⟨⟨h49, rfl⟩ | ⟨h49, rfl⟩, rfl⟩ := hp
    · refine ⟨rfl, ?_⟩
      refine ar_if_eq (pc := 52) (tgt := 59) dX7_pitch_52 (by decide) (fun c52 => absurd c52 (by decide)) (fun c52 => ?_)
      refine ar_iconst (pc := 55) dX7_pitch_55 q_iconst_1 ?_
      refine ar_goto (tgt := 65) (pc := 56) dX7_pitch_56 (by decide) ?_
      exact ar_iret (pc := 65) dX7_pitch_65 rfl rfl rfl ⟨by rw [if_1 ((op_lk K hp12).mp h49)], q, rfl, M⟩
    · refine ⟨rfl, ?_⟩
      refine ar_if_eq (pc := 52) (tgt := 59) dX7_pitch_52 (by decide) (fun c52 => ?_) (fun c52 => absurd c52 (by decide))
      refine ar_iconst (pc := 59) dX7_pitch_59 q_iconst_0 ?_
      refine ar_goto (tgt := 65) (pc := 60) dX7_pitch_60 (by decide) ?_
      exact ar_iret (pc := 65) dX7_pitch_65 rfl rfl rfl ⟨by rw [if_0 (fun e => h49 ((op_lk K hp12).mpr e))], q, rfl, M⟩
  · refine ⟨rfl, ?_⟩
    refine ar_if_ne (pc := 4) (tgt := 9) dX7_pitch_4 (by decide) (fun c4 => absurd c4 (by decide)) (fun c4 => ?_)
    refine ar_iconst (pc := 7) dX7_pitch_7 q_iconst_m1 ?_
    exact absurd (in_p hp12) h1

set_option maxHeartbeats 4000000 in
set_option maxRecDepth 100000 in
theorem sX7_pitch_o (q : RV) (z : PV) (M : mr_R z q) (n : Nat) (K : ok_D (pN z) n) (R : ro_R 0 n (pN z) (rq_S q)) {p : Nat} (hp12 : p < 12) (w : Int32) (hw : w.toInt < 0 ∨ 2 < w.toInt) : am_Sp mX7_pitch [.ref 2, .int (nI p), .int w] (md_H q) (qq_P (-2) (z)) := by
  refine am_intro (by decide) (Nat.le_of_ble_eq_true rfl) ?_
  refine ar_iload_n (i := 1) (pc := 0) dX7_pitch_0 rfl rfl ?_
  refine ar_idS (pc := 1) dX7_pitch_1 cal_X7_isPitch kX7_89 rfl (sX7_isPitch (md_H q) _) rfl rfl rfl rfl rfl (fun r h1 hp => ?_)
  obtain ⟨⟨h1, rfl⟩ | ⟨h1, rfl⟩, rfl⟩ := hp
  · refine ⟨rfl, ?_⟩
    refine ar_if_ne (pc := 4) (tgt := 9) dX7_pitch_4 (by decide) (fun c4 => ?_) (fun c4 => absurd c4 (by decide))
    refine ar_iload_n (i := 2) (pc := 9) dX7_pitch_9 rfl rfl ?_
    refine ar_if_ne (pc := 10) (tgt := 27) dX7_pitch_10 (by decide) (fun c10 => ?_) (fun c10 => absurd (congrArg Int32.toInt c10) (by rw [ti_0]; omega))
    refine ar_iload_n (i := 2) (pc := 27) dX7_pitch_27 rfl rfl ?_
    refine ar_iconst (pc := 28) dX7_pitch_28 q_iconst_1 ?_
    refine ar_icmp_ne (pc := 29) (tgt := 41) dX7_pitch_29 (by decide) (fun c29 => ?_) (fun c29 => absurd (congrArg Int32.toInt c29) (by rw [ti_1]; omega))
    refine ar_iload_n (i := 2) (pc := 41) dX7_pitch_41 rfl rfl ?_
    refine ar_iconst (pc := 42) dX7_pitch_42 q_iconst_2 ?_
    refine ar_icmp_ne (pc := 43) (tgt := 63) dX7_pitch_43 (by decide) (fun c43 => ?_) (fun c43 => absurd (congrArg Int32.toInt c43) (by rw [ti_2]; omega))
    refine ar_bipush (pc := 63) dX7_pitch_63 q_bipush_m2 ?_
    exact ar_iret (pc := 65) dX7_pitch_65 rfl rfl rfl ⟨rfl, q, rfl, M⟩
  · refine ⟨rfl, ?_⟩
    refine ar_if_ne (pc := 4) (tgt := 9) dX7_pitch_4 (by decide) (fun c4 => absurd c4 (by decide)) (fun c4 => ?_)
    refine ar_iconst (pc := 7) dX7_pitch_7 q_iconst_m1 ?_
    exact absurd (in_p hp12) h1

set_option maxHeartbeats 4000000 in
set_option maxRecDepth 100000 in
theorem sX7_pitch_n (q : RV) (z : PV) (M : mr_R z q) (n : Nat) (K : ok_D (pN z) n) (R : ro_R 0 n (pN z) (rq_S q)) (b w : Int32) (hb : ¬ inP b) : am_Sp mX7_pitch [.ref 2, .int b, .int w] (md_H q) (qq_P (-1) (z)) := by
  refine am_intro (by decide) (Nat.le_of_ble_eq_true rfl) ?_
  refine ar_iload_n (i := 1) (pc := 0) dX7_pitch_0 rfl rfl ?_
  refine ar_idS (pc := 1) dX7_pitch_1 cal_X7_isPitch kX7_89 rfl (sX7_isPitch (md_H q) _) rfl rfl rfl rfl rfl (fun r h1 hp => ?_)
  obtain ⟨⟨h1, rfl⟩ | ⟨h1, rfl⟩, rfl⟩ := hp
  · refine ⟨rfl, ?_⟩
    refine ar_if_ne (pc := 4) (tgt := 9) dX7_pitch_4 (by decide) (fun c4 => ?_) (fun c4 => absurd c4 (by decide))
    exact absurd h1 hb
  · refine ⟨rfl, ?_⟩
    refine ar_if_ne (pc := 4) (tgt := 9) dX7_pitch_4 (by decide) (fun c4 => absurd c4 (by decide)) (fun c4 => ?_)
    refine ar_iconst (pc := 7) dX7_pitch_7 q_iconst_m1 ?_
    exact ar_iret (pc := 8) dX7_pitch_8 rfl rfl rfl ⟨rfl, q, rfl, M⟩

theorem pm_st {x : Int32} (h : x = -6 ∨ 0 ≤ x.toInt) : 0 ≤ pm_ x ↔ x ≠ -6 := by
  rw [← Int32.not_lt, pm_neg h]
theorem pm_s {x : Int32} (h : x ≠ -6) : pm_ x = x := by rw [pm_, if_neg h]
set_option maxHeartbeats 4000000 in
set_option maxRecDepth 100000 in
theorem sX7_hides0 (q : RV) (n : Nat) (w : SV) (R : ro_R 0 n w (rq_S q)) (h8 : n ≤ 8) (pl : pl_D w n) {k j : Nat} (hk : k < n) (hj : stP w n j) : am_Sp mX7_hides [.ref 2, .int (nI k), .int (nI j), .int 0] (md_H q) (am_bp (hdP w n k j 1) (md_H q)) := by
  refine am_intro (by decide) (Nat.le_of_ble_eq_true rfl) ?_
  have hv : vP w k = -6 ∨ 0 ≤ (vP w k).toInt := (pl k hk).imp_right fun e => e.1
  refine ar_aload_n (i := 0) (pc := 0) dX7_hides_0 rfl rfl ?_
  refine ar_iload_n (i := 1) (pc := 1) dX7_hides_1 rfl rfl ?_
  refine ar_iconst (pc := 2) dX7_hides_2 q_iconst_1 ?_
  refine ar_idV (pc := 3) dX7_hides_3 cal_X7_its kX7_103 rfl (sX7_its1 q (show k < 8 by omega)) rfl rfl rfl rfl rfl rfl rfl (fun r h1 hp => ?_)
  obtain ⟨rfl, rfl⟩ := hp
  refine ⟨rfl, ?_⟩
  rw [show rq_S q (20 + 5 * k + 1) = pm_ (vP w k) by have h := roP R hk; rw [Nat.zero_add] at h; exact h]
  refine ar_istore (pc := 6) dX7_hides_6 (Nat.le_of_ble_eq_true rfl) rfl ?_
  refine ar_iload_n (i := 3) (pc := 8) dX7_hides_8 rfl rfl ?_
  refine ar_if_ne (pc := 9) (tgt := 31) dX7_hides_9 (by decide) (fun c9 => absurd rfl c9) (fun c9 => ?_)
  refine ar_iload (pc := 12) dX7_hides_12 rfl ?_
  refine ar_aload_n (i := 0) (pc := 14) dX7_hides_14 rfl rfl ?_
  refine ar_iload_n (i := 2) (pc := 15) dX7_hides_15 rfl rfl ?_
  refine ar_iconst (pc := 16) dX7_hides_16 q_iconst_1 ?_
  refine ar_idV (pc := 17) dX7_hides_17 cal_X7_its kX7_103 rfl (sX7_its1 q (show j < 8 by have := hj.1; omega)) rfl rfl rfl rfl rfl rfl rfl (fun r h1 hp => ?_)
  obtain ⟨rfl, rfl⟩ := hp
  refine ⟨rfl, ?_⟩
  rw [show rq_S q (20 + 5 * j + 1) = vP w j by have h := roP R hj.1; rw [Nat.zero_add, pm_s hj.2] at h; exact h]
  refine ar_icmp_ge (pc := 20) (tgt := 27) dX7_hides_20 (by decide) (fun c20 => ?_) (fun c20 => ?_)
  · refine ar_iconst (pc := 27) dX7_hides_27 q_iconst_0 ?_
    refine ar_goto (tgt := 47) (pc := 28) dX7_hides_28 (by decide) ?_
    refine ar_istore (pc := 47) dX7_hides_47 (Nat.le_of_ble_eq_true rfl) rfl ?_
    refine ar_iload (pc := 49) dX7_hides_49 rfl ?_
    refine ar_if_lt (pc := 51) (tgt := 78) dX7_hides_51 (by decide) (fun c51 => ?_) (fun c51 => ?_)
    · refine ar_iconst (pc := 78) dX7_hides_78 q_iconst_0 ?_
      have c51n : ¬ vP w k ≠ -6 := fun e => absurd ((pm_st hv).mpr e) (Int32.not_le.mpr c51)
      exact ar_zret (pc := 79) dX7_hides_79 rfl (Or.inl rfl) rfl rfl ⟨Or.inr ⟨fun z => c51n z.1.2, rfl⟩, rfl⟩
    · refine ar_iload (pc := 54) dX7_hides_54 rfl ?_
      refine ar_if_eq (pc := 56) (tgt := 78) dX7_hides_56 (by decide) (fun c56 => ?_) (fun c56 => absurd rfl c56)
      refine ar_iconst (pc := 78) dX7_hides_78 q_iconst_0 ?_
      exact ar_zret (pc := 79) dX7_hides_79 rfl (Or.inl rfl) rfl rfl ⟨Or.inr ⟨fun z => (by have y := z.2.2.2.1 (by decide); rw [← pm_s z.1.2] at y; exact absurd y (Int32.not_lt.mpr c20)), rfl⟩, rfl⟩
  · refine ar_iconst (pc := 23) dX7_hides_23 q_iconst_1 ?_
    refine ar_goto (tgt := 47) (pc := 24) dX7_hides_24 (by decide) ?_
    refine ar_istore (pc := 47) dX7_hides_47 (Nat.le_of_ble_eq_true rfl) rfl ?_
    refine ar_iload (pc := 49) dX7_hides_49 rfl ?_
    refine ar_if_lt (pc := 51) (tgt := 78) dX7_hides_51 (by decide) (fun c51 => ?_) (fun c51 => ?_)
    · refine ar_iconst (pc := 78) dX7_hides_78 q_iconst_0 ?_
      have c51n : ¬ vP w k ≠ -6 := fun e => absurd ((pm_st hv).mpr e) (Int32.not_le.mpr c51)
      exact ar_zret (pc := 79) dX7_hides_79 rfl (Or.inl rfl) rfl rfl ⟨Or.inr ⟨fun z => c51n z.1.2, rfl⟩, rfl⟩
    · refine ar_iload (pc := 54) dX7_hides_54 rfl ?_
      refine ar_if_eq (pc := 56) (tgt := 78) dX7_hides_56 (by decide) (fun c56 => absurd c56 (by decide)) (fun c56 => ?_)
      refine ar_aload_n (i := 0) (pc := 59) dX7_hides_59 rfl rfl ?_
      refine ar_iload_n (i := 1) (pc := 60) dX7_hides_60 rfl rfl ?_
      refine ar_iconst (pc := 61) dX7_hides_61 q_iconst_0 ?_
      refine ar_idV (pc := 62) dX7_hides_62 cal_X7_its kX7_103 rfl (sX7_its0 q (show k < 8 by omega)) rfl rfl rfl rfl rfl rfl rfl (fun r h1 hp => ?_)
      obtain ⟨rfl, rfl⟩ := hp
      refine ⟨rfl, ?_⟩
      rw [show rq_S q (20 + 5 * k) = vH w k by have h := roH R hk; rw [Nat.zero_add] at h; exact h]
      refine ar_aload_n (i := 0) (pc := 65) dX7_hides_65 rfl rfl ?_
      refine ar_iload_n (i := 2) (pc := 66) dX7_hides_66 rfl rfl ?_
      refine ar_iconst (pc := 67) dX7_hides_67 q_iconst_0 ?_
      refine ar_idV (pc := 68) dX7_hides_68 cal_X7_its kX7_103 rfl (sX7_its0 q (show j < 8 by have := hj.1; omega)) rfl rfl rfl rfl rfl rfl rfl (fun r h1 hp => ?_)
      obtain ⟨rfl, rfl⟩ := hp
      refine ⟨rfl, ?_⟩
      rw [show rq_S q (20 + 5 * j) = vH w j by have h := roH R hj.1; rw [Nat.zero_add] at h; exact h]
      refine ar_icmp_lt (pc := 71) (tgt := 78) dX7_hides_71 (by decide) (fun c71 => ?_) (fun c71 => ?_)
      · refine ar_iconst (pc := 78) dX7_hides_78 q_iconst_0 ?_
        exact ar_zret (pc := 79) dX7_hides_79 rfl (Or.inl rfl) rfl rfl ⟨Or.inr ⟨fun z => absurd z.2.2.1 (Int32.not_le.mpr c71), rfl⟩, rfl⟩
      · refine ar_iconst (pc := 74) dX7_hides_74 q_iconst_1 ?_
        refine ar_goto (tgt := 79) (pc := 75) dX7_hides_75 (by decide) ?_
        have hn : vP w k ≠ -6 := (pm_st hv).mp (Int32.not_lt.mp c51)
        exact ar_zret (pc := 79) dX7_hides_79 rfl (Or.inr rfl) rfl rfl ⟨Or.inl ⟨⟨⟨hk, hn⟩, hj, Int32.not_lt.mp c71, fun _ => (by rw [← pm_s hn]; exact Int32.not_le.mp c20), fun e => absurd e (by decide)⟩, rfl⟩, rfl⟩

set_option maxHeartbeats 4000000 in
set_option maxRecDepth 100000 in
theorem sX7_hides1 (q : RV) (n : Nat) (w : SV) (R : ro_R 0 n w (rq_S q)) (h8 : n ≤ 8) (pl : pl_D w n) {k j : Nat} (hk : k < n) (hj : stP w n j) : am_Sp mX7_hides [.ref 2, .int (nI k), .int (nI j), .int 1] (md_H q) (am_bp (hdP w n k j 0) (md_H q)) := by
  refine am_intro (by decide) (Nat.le_of_ble_eq_true rfl) ?_
  have hv : vP w k = -6 ∨ 0 ≤ (vP w k).toInt := (pl k hk).imp_right fun e => e.1
  refine ar_aload_n (i := 0) (pc := 0) dX7_hides_0 rfl rfl ?_
  refine ar_iload_n (i := 1) (pc := 1) dX7_hides_1 rfl rfl ?_
  refine ar_iconst (pc := 2) dX7_hides_2 q_iconst_1 ?_
  refine ar_idV (pc := 3) dX7_hides_3 cal_X7_its kX7_103 rfl (sX7_its1 q (show k < 8 by omega)) rfl rfl rfl rfl rfl rfl rfl (fun r h1 hp => ?_)
  obtain ⟨rfl, rfl⟩ := hp
  refine ⟨rfl, ?_⟩
  rw [show rq_S q (20 + 5 * k + 1) = pm_ (vP w k) by have h := roP R hk; rw [Nat.zero_add] at h; exact h]
  refine ar_istore (pc := 6) dX7_hides_6 (Nat.le_of_ble_eq_true rfl) rfl ?_
  refine ar_iload_n (i := 3) (pc := 8) dX7_hides_8 rfl rfl ?_
  refine ar_if_ne (pc := 9) (tgt := 31) dX7_hides_9 (by decide) (fun c9 => ?_) (fun c9 => absurd c9 (by decide))
  refine ar_iload (pc := 31) dX7_hides_31 rfl ?_
  refine ar_aload_n (i := 0) (pc := 33) dX7_hides_33 rfl rfl ?_
  refine ar_iload_n (i := 2) (pc := 34) dX7_hides_34 rfl rfl ?_
  refine ar_iconst (pc := 35) dX7_hides_35 q_iconst_1 ?_
  refine ar_idV (pc := 36) dX7_hides_36 cal_X7_its kX7_103 rfl (sX7_its1 q (show j < 8 by have := hj.1; omega)) rfl rfl rfl rfl rfl rfl rfl (fun r h1 hp => ?_)
  obtain ⟨rfl, rfl⟩ := hp
  refine ⟨rfl, ?_⟩
  rw [show rq_S q (20 + 5 * j + 1) = vP w j by have h := roP R hj.1; rw [Nat.zero_add, pm_s hj.2] at h; exact h]
  refine ar_icmp_le (pc := 39) (tgt := 46) dX7_hides_39 (by decide) (fun c39 => ?_) (fun c39 => ?_)
  · refine ar_iconst (pc := 46) dX7_hides_46 q_iconst_0 ?_
    refine ar_istore (pc := 47) dX7_hides_47 (Nat.le_of_ble_eq_true rfl) rfl ?_
    refine ar_iload (pc := 49) dX7_hides_49 rfl ?_
    refine ar_if_lt (pc := 51) (tgt := 78) dX7_hides_51 (by decide) (fun c51 => ?_) (fun c51 => ?_)
    · refine ar_iconst (pc := 78) dX7_hides_78 q_iconst_0 ?_
      have c51n : ¬ vP w k ≠ -6 := fun e => absurd ((pm_st hv).mpr e) (Int32.not_le.mpr c51)
      exact ar_zret (pc := 79) dX7_hides_79 rfl (Or.inl rfl) rfl rfl ⟨Or.inr ⟨fun z => c51n z.1.2, rfl⟩, rfl⟩
    · refine ar_iload (pc := 54) dX7_hides_54 rfl ?_
      refine ar_if_eq (pc := 56) (tgt := 78) dX7_hides_56 (by decide) (fun c56 => ?_) (fun c56 => absurd rfl c56)
      refine ar_iconst (pc := 78) dX7_hides_78 q_iconst_0 ?_
      exact ar_zret (pc := 79) dX7_hides_79 rfl (Or.inl rfl) rfl rfl ⟨Or.inr ⟨fun z => (by have y := z.2.2.2.2 rfl; rw [← pm_s z.1.2] at y; exact absurd y (Int32.not_lt.mpr c39)), rfl⟩, rfl⟩
  · refine ar_iconst (pc := 42) dX7_hides_42 q_iconst_1 ?_
    refine ar_goto (tgt := 47) (pc := 43) dX7_hides_43 (by decide) ?_
    refine ar_istore (pc := 47) dX7_hides_47 (Nat.le_of_ble_eq_true rfl) rfl ?_
    refine ar_iload (pc := 49) dX7_hides_49 rfl ?_
    refine ar_if_lt (pc := 51) (tgt := 78) dX7_hides_51 (by decide) (fun c51 => ?_) (fun c51 => ?_)
    · refine ar_iconst (pc := 78) dX7_hides_78 q_iconst_0 ?_
      have c51n : ¬ vP w k ≠ -6 := fun e => absurd ((pm_st hv).mpr e) (Int32.not_le.mpr c51)
      exact ar_zret (pc := 79) dX7_hides_79 rfl (Or.inl rfl) rfl rfl ⟨Or.inr ⟨fun z => c51n z.1.2, rfl⟩, rfl⟩
    · refine ar_iload (pc := 54) dX7_hides_54 rfl ?_
      refine ar_if_eq (pc := 56) (tgt := 78) dX7_hides_56 (by decide) (fun c56 => absurd c56 (by decide)) (fun c56 => ?_)
      refine ar_aload_n (i := 0) (pc := 59) dX7_hides_59 rfl rfl ?_
      refine ar_iload_n (i := 1) (pc := 60) dX7_hides_60 rfl rfl ?_
      refine ar_iconst (pc := 61) dX7_hides_61 q_iconst_0 ?_
      refine ar_idV (pc := 62) dX7_hides_62 cal_X7_its kX7_103 rfl (sX7_its0 q (show k < 8 by omega)) rfl rfl rfl rfl rfl rfl rfl (fun r h1 hp => ?_)
      obtain ⟨rfl, rfl⟩ := hp
      refine ⟨rfl, ?_⟩
      rw [show rq_S q (20 + 5 * k) = vH w k by have h := roH R hk; rw [Nat.zero_add] at h; exact h]
      refine ar_aload_n (i := 0) (pc := 65) dX7_hides_65 rfl rfl ?_
      refine ar_iload_n (i := 2) (pc := 66) dX7_hides_66 rfl rfl ?_
      refine ar_iconst (pc := 67) dX7_hides_67 q_iconst_0 ?_
      refine ar_idV (pc := 68) dX7_hides_68 cal_X7_its kX7_103 rfl (sX7_its0 q (show j < 8 by have := hj.1; omega)) rfl rfl rfl rfl rfl rfl rfl (fun r h1 hp => ?_)
      obtain ⟨rfl, rfl⟩ := hp
      refine ⟨rfl, ?_⟩
      rw [show rq_S q (20 + 5 * j) = vH w j by have h := roH R hj.1; rw [Nat.zero_add] at h; exact h]
      refine ar_icmp_lt (pc := 71) (tgt := 78) dX7_hides_71 (by decide) (fun c71 => ?_) (fun c71 => ?_)
      · refine ar_iconst (pc := 78) dX7_hides_78 q_iconst_0 ?_
        exact ar_zret (pc := 79) dX7_hides_79 rfl (Or.inl rfl) rfl rfl ⟨Or.inr ⟨fun z => absurd z.2.2.1 (Int32.not_le.mpr c71), rfl⟩, rfl⟩
      · refine ar_iconst (pc := 74) dX7_hides_74 q_iconst_1 ?_
        refine ar_goto (tgt := 79) (pc := 75) dX7_hides_75 (by decide) ?_
        have hn : vP w k ≠ -6 := (pm_st hv).mp (Int32.not_lt.mp c51)
        exact ar_zret (pc := 79) dX7_hides_79 rfl (Or.inr rfl) rfl rfl ⟨Or.inl ⟨⟨⟨hk, hn⟩, hj, Int32.not_lt.mp c71, fun e => absurd rfl e, fun _ => (by rw [← pm_s hn]; exact Int32.not_le.mp c39)⟩, rfl⟩, rfl⟩

theorem ex_s {P : Nat → Prop} {k : Nat} (h : ¬ ∃ i, i < k ∧ P i) (h2 : ¬ P k) : ¬ ∃ i, i < k + 1 ∧ P i := by
  rintro ⟨i, hi, hP⟩
  by_cases e : i = k
  · subst e
    exact h2 hP
  · exact h ⟨i, by omega, hP⟩
set_option maxHeartbeats 4000000 in
set_option maxRecDepth 100000 in
theorem lX7_isHidden0 (h0 : am_H) (q : RV) (n : Nat) (w : SV) (R : ro_R 0 n w (rq_S q)) (h8 : n ≤ 8) (pl : pl_D w n) {j : Nat} (hj : stP w n j) : ∀ (d k : Nat) (x : Int32), k + d = n → ((x = 1 ∧ (∃ i, i < k ∧ hdP w n i j 1)) ∨ (x = 0 ∧ ¬ (∃ i, i < k ∧ hdP w n i j 1))) → am_RW mX7_isHidden h0 (am_bp (∃ i, i < n ∧ hdP w n i j 1) (md_H q)) 0 0 5 [some (.ref 2), some (.int (nI j)), some (.int 0), some (.int x), some (.int (nI k))] [] (md_H q) := by
  intro d
  induction d with
  | zero =>
    intro k x hk hI
    have e : k = n := by omega
    subst e
    refine ar_iload (pc := 5) dX7_isHidden_5 rfl ?_
    refine ar_aload_n (i := 0) (pc := 7) dX7_isHidden_7 rfl rfl ?_
    refine ar_getf (pc := 8) dX7_isHidden_8 fX7_7 rfl rfl ?_
    refine ar_bipush (pc := 11) dX7_isHidden_11 q_bipush_7 ?_
    refine ar_iald (pc := 13) dX7_isHidden_13 rfl (show 7 < 120 by decide) rfl ?_
    rw [show rq_S q 7 = nI k by have h := roN R; rw [Nat.zero_add] at h; exact h]
    refine ar_icmp_ge (pc := 14) (tgt := 44) dX7_isHidden_14 (by decide) (fun c14 => ?_) (fun c14 => absurd (Int32.le_refl _) c14)
    refine ar_iload_n (i := 3) (pc := 44) dX7_isHidden_44 rfl rfl ?_
    rcases hI with ⟨rfl, hI⟩ | ⟨rfl, hI⟩
    · exact ar_zret (pc := 45) dX7_isHidden_45 rfl (Or.inr rfl) rfl rfl ⟨Or.inl ⟨hI, rfl⟩, rfl⟩
    · exact ar_zret (pc := 45) dX7_isHidden_45 rfl (Or.inl rfl) rfl rfl ⟨Or.inr ⟨hI, rfl⟩, rfl⟩
  | succ d ih =>
    intro k x hk hI
    rcases hI with ⟨rfl, hI⟩ | ⟨rfl, hI⟩
    · skip
      refine ar_iload (pc := 5) dX7_isHidden_5 rfl ?_
      refine ar_aload_n (i := 0) (pc := 7) dX7_isHidden_7 rfl rfl ?_
      refine ar_getf (pc := 8) dX7_isHidden_8 fX7_7 rfl rfl ?_
      refine ar_bipush (pc := 11) dX7_isHidden_11 q_bipush_7 ?_
      refine ar_iald (pc := 13) dX7_isHidden_13 rfl (show 7 < 120 by decide) rfl ?_
      rw [show rq_S q 7 = nI n by have h := roN R; rw [Nat.zero_add] at h; exact h]
      refine ar_icmp_ge (pc := 14) (tgt := 44) dX7_isHidden_14 (by decide) (fun c14 => absurd ((nI_leI (by omega) (by omega)).mp c14) (by omega)) (fun c14 => ?_)
      refine ar_iload_n (i := 3) (pc := 17) dX7_isHidden_17 rfl rfl ?_
      refine ar_if_ne (pc := 18) (tgt := 32) dX7_isHidden_18 (by decide) (fun c18 => ?_) (fun c18 => absurd c18 (by decide))
      refine ar_iconst (pc := 32) dX7_isHidden_32 q_iconst_1 ?_
      refine ar_goto (tgt := 37) (pc := 33) dX7_isHidden_33 (by decide) ?_
      refine ar_istore_n (i := 3) (pc := 37) dX7_isHidden_37 rfl (Nat.le_of_ble_eq_true rfl) rfl ?_
      refine ar_iinc (pc := 38) dX7_isHidden_38 rfl (ni_inc _) (Nat.le_of_ble_eq_true rfl) rfl ?_
      refine ar_goto (tgt := 5) (pc := 41) dX7_isHidden_41 (by decide) ?_
      exact ih (k + 1) 1 (by omega) (Or.inl ⟨rfl, by obtain ⟨i, h1, h2⟩ := hI; exact ⟨i, by omega, h2⟩⟩)
    · skip
      refine ar_iload (pc := 5) dX7_isHidden_5 rfl ?_
      refine ar_aload_n (i := 0) (pc := 7) dX7_isHidden_7 rfl rfl ?_
      refine ar_getf (pc := 8) dX7_isHidden_8 fX7_7 rfl rfl ?_
      refine ar_bipush (pc := 11) dX7_isHidden_11 q_bipush_7 ?_
      refine ar_iald (pc := 13) dX7_isHidden_13 rfl (show 7 < 120 by decide) rfl ?_
      rw [show rq_S q 7 = nI n by have h := roN R; rw [Nat.zero_add] at h; exact h]
      refine ar_icmp_ge (pc := 14) (tgt := 44) dX7_isHidden_14 (by decide) (fun c14 => absurd ((nI_leI (by omega) (by omega)).mp c14) (by omega)) (fun c14 => ?_)
      refine ar_iload_n (i := 3) (pc := 17) dX7_isHidden_17 rfl rfl ?_
      refine ar_if_ne (pc := 18) (tgt := 32) dX7_isHidden_18 (by decide) (fun c18 => absurd rfl c18) (fun c18 => ?_)
      refine ar_aload_n (i := 0) (pc := 21) dX7_isHidden_21 rfl rfl ?_
      refine ar_iload (pc := 22) dX7_isHidden_22 rfl ?_
      refine ar_iload_n (i := 1) (pc := 24) dX7_isHidden_24 rfl rfl ?_
      refine ar_iload_n (i := 2) (pc := 25) dX7_isHidden_25 rfl rfl ?_
      refine ar_idV (pc := 26) dX7_isHidden_26 cal_X7_hides kX7_115 rfl (sX7_hides0 q n w R h8 pl (show k < n by omega) hj) rfl rfl rfl rfl rfl rfl rfl (fun r h1 hp => ?_)
      obtain ⟨⟨h26, rfl⟩ | ⟨h26, rfl⟩, rfl⟩ := hp
      · refine ⟨rfl, ?_⟩
        refine ar_if_eq (pc := 29) (tgt := 36) dX7_isHidden_29 (by decide) (fun c29 => absurd c29 (by decide)) (fun c29 => ?_)
        refine ar_iconst (pc := 32) dX7_isHidden_32 q_iconst_1 ?_
        refine ar_goto (tgt := 37) (pc := 33) dX7_isHidden_33 (by decide) ?_
        refine ar_istore_n (i := 3) (pc := 37) dX7_isHidden_37 rfl (Nat.le_of_ble_eq_true rfl) rfl ?_
        refine ar_iinc (pc := 38) dX7_isHidden_38 rfl (ni_inc _) (Nat.le_of_ble_eq_true rfl) rfl ?_
        refine ar_goto (tgt := 5) (pc := 41) dX7_isHidden_41 (by decide) ?_
        exact ih (k + 1) 1 (by omega) (Or.inl ⟨rfl, k, by omega, h26⟩)
      · refine ⟨rfl, ?_⟩
        refine ar_if_eq (pc := 29) (tgt := 36) dX7_isHidden_29 (by decide) (fun c29 => ?_) (fun c29 => absurd c29 (by decide))
        refine ar_iconst (pc := 36) dX7_isHidden_36 q_iconst_0 ?_
        refine ar_istore_n (i := 3) (pc := 37) dX7_isHidden_37 rfl (Nat.le_of_ble_eq_true rfl) rfl ?_
        refine ar_iinc (pc := 38) dX7_isHidden_38 rfl (ni_inc _) (Nat.le_of_ble_eq_true rfl) rfl ?_
        refine ar_goto (tgt := 5) (pc := 41) dX7_isHidden_41 (by decide) ?_
        exact ih (k + 1) 0 (by omega) (Or.inr ⟨rfl, ex_s hI h26⟩)
set_option maxHeartbeats 4000000 in
set_option maxRecDepth 100000 in
theorem sX7_isHidden0 (q : RV) (n : Nat) (w : SV) (R : ro_R 0 n w (rq_S q)) (h8 : n ≤ 8) (pl : pl_D w n) {j : Nat} (hj : stP w n j) : am_Sp mX7_isHidden [.ref 2, .int (nI j), .int 0] (md_H q) (am_bp (∃ i, i < n ∧ hdP w n i j 1) (md_H q)) := by
  refine am_intro (by decide) (Nat.le_of_ble_eq_true rfl) ?_
  refine ar_iconst (pc := 0) dX7_isHidden_0 q_iconst_0 ?_
  refine ar_istore_n (i := 3) (pc := 1) dX7_isHidden_1 rfl (Nat.le_of_ble_eq_true rfl) rfl ?_
  refine ar_iconst (pc := 2) dX7_isHidden_2 q_iconst_0 ?_
  refine ar_istore (pc := 3) dX7_isHidden_3 (Nat.le_of_ble_eq_true rfl) rfl ?_
  rw [← nI_0]
  have h := lX7_isHidden0 (md_H q) q n w R h8 pl hj n 0 0 (by omega) (Or.inr ⟨rfl, fun ⟨i, h1, _⟩ => absurd h1 (Nat.not_lt_zero i)⟩)
  rw [← nI_0] at h
  exact h

set_option maxHeartbeats 4000000 in
set_option maxRecDepth 100000 in
theorem lX7_isHidden1 (h0 : am_H) (q : RV) (n : Nat) (w : SV) (R : ro_R 0 n w (rq_S q)) (h8 : n ≤ 8) (pl : pl_D w n) {j : Nat} (hj : stP w n j) : ∀ (d k : Nat) (x : Int32), k + d = n → ((x = 1 ∧ (∃ i, i < k ∧ hdP w n i j 0)) ∨ (x = 0 ∧ ¬ (∃ i, i < k ∧ hdP w n i j 0))) → am_RW mX7_isHidden h0 (am_bp (∃ i, i < n ∧ hdP w n i j 0) (md_H q)) 0 0 5 [some (.ref 2), some (.int (nI j)), some (.int 1), some (.int x), some (.int (nI k))] [] (md_H q) := by
  intro d
  induction d with
  | zero =>
    intro k x hk hI
    have e : k = n := by omega
    subst e
    refine ar_iload (pc := 5) dX7_isHidden_5 rfl ?_
    refine ar_aload_n (i := 0) (pc := 7) dX7_isHidden_7 rfl rfl ?_
    refine ar_getf (pc := 8) dX7_isHidden_8 fX7_7 rfl rfl ?_
    refine ar_bipush (pc := 11) dX7_isHidden_11 q_bipush_7 ?_
    refine ar_iald (pc := 13) dX7_isHidden_13 rfl (show 7 < 120 by decide) rfl ?_
    rw [show rq_S q 7 = nI k by have h := roN R; rw [Nat.zero_add] at h; exact h]
    refine ar_icmp_ge (pc := 14) (tgt := 44) dX7_isHidden_14 (by decide) (fun c14 => ?_) (fun c14 => absurd (Int32.le_refl _) c14)
    refine ar_iload_n (i := 3) (pc := 44) dX7_isHidden_44 rfl rfl ?_
    rcases hI with ⟨rfl, hI⟩ | ⟨rfl, hI⟩
    · exact ar_zret (pc := 45) dX7_isHidden_45 rfl (Or.inr rfl) rfl rfl ⟨Or.inl ⟨hI, rfl⟩, rfl⟩
    · exact ar_zret (pc := 45) dX7_isHidden_45 rfl (Or.inl rfl) rfl rfl ⟨Or.inr ⟨hI, rfl⟩, rfl⟩
  | succ d ih =>
    intro k x hk hI
    rcases hI with ⟨rfl, hI⟩ | ⟨rfl, hI⟩
    · skip
      refine ar_iload (pc := 5) dX7_isHidden_5 rfl ?_
      refine ar_aload_n (i := 0) (pc := 7) dX7_isHidden_7 rfl rfl ?_
      refine ar_getf (pc := 8) dX7_isHidden_8 fX7_7 rfl rfl ?_
      refine ar_bipush (pc := 11) dX7_isHidden_11 q_bipush_7 ?_
      refine ar_iald (pc := 13) dX7_isHidden_13 rfl (show 7 < 120 by decide) rfl ?_
      rw [show rq_S q 7 = nI n by have h := roN R; rw [Nat.zero_add] at h; exact h]
      refine ar_icmp_ge (pc := 14) (tgt := 44) dX7_isHidden_14 (by decide) (fun c14 => absurd ((nI_leI (by omega) (by omega)).mp c14) (by omega)) (fun c14 => ?_)
      refine ar_iload_n (i := 3) (pc := 17) dX7_isHidden_17 rfl rfl ?_
      refine ar_if_ne (pc := 18) (tgt := 32) dX7_isHidden_18 (by decide) (fun c18 => ?_) (fun c18 => absurd c18 (by decide))
      refine ar_iconst (pc := 32) dX7_isHidden_32 q_iconst_1 ?_
      refine ar_goto (tgt := 37) (pc := 33) dX7_isHidden_33 (by decide) ?_
      refine ar_istore_n (i := 3) (pc := 37) dX7_isHidden_37 rfl (Nat.le_of_ble_eq_true rfl) rfl ?_
      refine ar_iinc (pc := 38) dX7_isHidden_38 rfl (ni_inc _) (Nat.le_of_ble_eq_true rfl) rfl ?_
      refine ar_goto (tgt := 5) (pc := 41) dX7_isHidden_41 (by decide) ?_
      exact ih (k + 1) 1 (by omega) (Or.inl ⟨rfl, by obtain ⟨i, h1, h2⟩ := hI; exact ⟨i, by omega, h2⟩⟩)
    · skip
      refine ar_iload (pc := 5) dX7_isHidden_5 rfl ?_
      refine ar_aload_n (i := 0) (pc := 7) dX7_isHidden_7 rfl rfl ?_
      refine ar_getf (pc := 8) dX7_isHidden_8 fX7_7 rfl rfl ?_
      refine ar_bipush (pc := 11) dX7_isHidden_11 q_bipush_7 ?_
      refine ar_iald (pc := 13) dX7_isHidden_13 rfl (show 7 < 120 by decide) rfl ?_
      rw [show rq_S q 7 = nI n by have h := roN R; rw [Nat.zero_add] at h; exact h]
      refine ar_icmp_ge (pc := 14) (tgt := 44) dX7_isHidden_14 (by decide) (fun c14 => absurd ((nI_leI (by omega) (by omega)).mp c14) (by omega)) (fun c14 => ?_)
      refine ar_iload_n (i := 3) (pc := 17) dX7_isHidden_17 rfl rfl ?_
      refine ar_if_ne (pc := 18) (tgt := 32) dX7_isHidden_18 (by decide) (fun c18 => absurd rfl c18) (fun c18 => ?_)
      refine ar_aload_n (i := 0) (pc := 21) dX7_isHidden_21 rfl rfl ?_
      refine ar_iload (pc := 22) dX7_isHidden_22 rfl ?_
      refine ar_iload_n (i := 1) (pc := 24) dX7_isHidden_24 rfl rfl ?_
      refine ar_iload_n (i := 2) (pc := 25) dX7_isHidden_25 rfl rfl ?_
      refine ar_idV (pc := 26) dX7_isHidden_26 cal_X7_hides kX7_115 rfl (sX7_hides1 q n w R h8 pl (show k < n by omega) hj) rfl rfl rfl rfl rfl rfl rfl (fun r h1 hp => ?_)
      obtain ⟨⟨h26, rfl⟩ | ⟨h26, rfl⟩, rfl⟩ := hp
      · refine ⟨rfl, ?_⟩
        refine ar_if_eq (pc := 29) (tgt := 36) dX7_isHidden_29 (by decide) (fun c29 => absurd c29 (by decide)) (fun c29 => ?_)
        refine ar_iconst (pc := 32) dX7_isHidden_32 q_iconst_1 ?_
        refine ar_goto (tgt := 37) (pc := 33) dX7_isHidden_33 (by decide) ?_
        refine ar_istore_n (i := 3) (pc := 37) dX7_isHidden_37 rfl (Nat.le_of_ble_eq_true rfl) rfl ?_
        refine ar_iinc (pc := 38) dX7_isHidden_38 rfl (ni_inc _) (Nat.le_of_ble_eq_true rfl) rfl ?_
        refine ar_goto (tgt := 5) (pc := 41) dX7_isHidden_41 (by decide) ?_
        exact ih (k + 1) 1 (by omega) (Or.inl ⟨rfl, k, by omega, h26⟩)
      · refine ⟨rfl, ?_⟩
        refine ar_if_eq (pc := 29) (tgt := 36) dX7_isHidden_29 (by decide) (fun c29 => ?_) (fun c29 => absurd c29 (by decide))
        refine ar_iconst (pc := 36) dX7_isHidden_36 q_iconst_0 ?_
        refine ar_istore_n (i := 3) (pc := 37) dX7_isHidden_37 rfl (Nat.le_of_ble_eq_true rfl) rfl ?_
        refine ar_iinc (pc := 38) dX7_isHidden_38 rfl (ni_inc _) (Nat.le_of_ble_eq_true rfl) rfl ?_
        refine ar_goto (tgt := 5) (pc := 41) dX7_isHidden_41 (by decide) ?_
        exact ih (k + 1) 0 (by omega) (Or.inr ⟨rfl, ex_s hI h26⟩)
set_option maxHeartbeats 4000000 in
set_option maxRecDepth 100000 in
theorem sX7_isHidden1 (q : RV) (n : Nat) (w : SV) (R : ro_R 0 n w (rq_S q)) (h8 : n ≤ 8) (pl : pl_D w n) {j : Nat} (hj : stP w n j) : am_Sp mX7_isHidden [.ref 2, .int (nI j), .int 1] (md_H q) (am_bp (∃ i, i < n ∧ hdP w n i j 0) (md_H q)) := by
  refine am_intro (by decide) (Nat.le_of_ble_eq_true rfl) ?_
  refine ar_iconst (pc := 0) dX7_isHidden_0 q_iconst_0 ?_
  refine ar_istore_n (i := 3) (pc := 1) dX7_isHidden_1 rfl (Nat.le_of_ble_eq_true rfl) rfl ?_
  refine ar_iconst (pc := 2) dX7_isHidden_2 q_iconst_0 ?_
  refine ar_istore (pc := 3) dX7_isHidden_3 (Nat.le_of_ble_eq_true rfl) rfl ?_
  rw [← nI_0]
  have h := lX7_isHidden1 (md_H q) q n w R h8 pl hj n 0 0 (by omega) (Or.inr ⟨rfl, fun ⟨i, h1, _⟩ => absurd h1 (Nat.not_lt_zero i)⟩)
  rw [← nI_0] at h
  exact h

