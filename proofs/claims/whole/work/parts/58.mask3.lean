/-! the reference asked: the best pitch, the best height, days that are foretold -/
theorem dst_le0 {o k : Nat} (ho : o < 12) (hk : k < 12) (h : nI (dst o k) ≤ 0) : o = k := by
  have d : dst o k < 12 := by unfold dst; split <;> omega
  rw [← nI_0] at h
  have h2 := (nI_leI (by omega) (by omega)).mp h
  unfold dst at h2
  split at h2 <;> omega
theorem tk_op {v : SV} {n j k : Nat} (K : ok_D v n) (hj : j < n) (hk : k < 12) : ¬ tkP v n (nI k) j ↔ opP (lkT v n (nI j) 8) k 0 := by
  have h8 := K.2.1.1
  have D := K.2.1.2.2.2.1
  have T := to_lkT D (show j < 8 by omega)
  constructor
  · intro ht o ho z
    have e := dst_le0 ho hk z.2
    subst e
    have z0 := z.1
    rw [(T o ho).2 fun i _ hi hij => not_tk D h8 (in_p ho) ht hi hij] at z0
    exact absurd z0 (by decide)
  · rintro O ⟨i, hi, hij⟩
    obtain ⟨-, -, h3, -⟩ := ffi_spec _ _ _ hi
    obtain ⟨h5, h6⟩ := atQ_s h3
    refine O k hk ⟨?_, ?_⟩
    · rw [(T k hk).1 i (by omega) h5 hij h6, Int32.lt_iff_toInt_lt, ti_0]
      have := (K.2.1.2.2.1 i h5).1
      omega
    · rw [dst_0, nI_0]
      exact Int32.le_refl 0
theorem rg_st {a b : Nat} (ha : a ≤ 999) (hb : b ≤ 100) : ∃ c, c ≤ a ∧ nI a * nI b / 100 = nI c := by
  have h : a * b ≤ a * 100 := Nat.mul_le_mul_left a hb
  refine ⟨a * b / 100, by omega, ?_⟩
  rw [pk_mul, show (100 : Int32) = nI 100 by decide +kernel, pk_div (by omega) (by omega) (by omega)]
theorem wk_rg {t : Nat → Int32} {a b : Nat} (ha : a ≤ 999) (hb : b ≤ 100) : ∀ k, ∃ c, c ≤ 999 ∧ (wk t (nI a) (nI b) k).1 = nI c
  | 0 => ⟨a, ha, rfl⟩
  | k + 1 => by
    obtain ⟨c, hc, e⟩ := wk_rg (t := t) ha hb k
    rw [wk]
    by_cases x : (wk t (nI a) (nI b) k).2 < t k
    · rw [if_pos x]
      obtain ⟨d, hd, e2⟩ := rg_st hc hb
      refine ⟨c - d, by omega, ?_⟩
      show (wk t (nI a) (nI b) k).1 - (wk t (nI a) (nI b) k).1 * nI b / 100 = _
      rw [e, e2, pk_sub hd]
    · rw [if_neg x]
      exact ⟨c, hc, e⟩
theorem stp_rg {l : Int32} {t : Nat → Int32} {a b : Nat} {p h : Int32} (ha : a ≤ 999) (hb : b ≤ 100) : ∃ c, c ≤ 999 ∧ stpV (arF l t (nI a) (nI b)) (taF l t (nI a) (nI b)) (nI b) p h = nI c := by
  unfold stpV
  by_cases x : inP p ∧ taF l t (nI a) (nI b) (ix p) < h
  · rw [if_pos x]
    obtain ⟨c, hc, e⟩ := wk_rg (t := fun k => t (pi l k)) ha hb (pi l (ix p))
    obtain ⟨d, hd, e2⟩ := rg_st hc hb
    refine ⟨d, by omega, ?_⟩
    rw [show arF l t (nI a) (nI b) (ix p) = nI c from e]
    exact e2
  · rw [if_neg x]
    exact ⟨0, by omega, nI_0.symm⟩
theorem cr_nn {v : SV} {n : Nat} (K : ok_D v n) (t : Nat → Int32) (p h : Int32) : ¬ crA v t p h ≤ -1 := by
  have S := K.2.2.2.1
  have g : ∀ k, k < 6 → vS v k = nI (ix (vS v k)) := fun k hk => ix_eq (S k hk).1
  have s0 := S 0 (by omega)
  have s1 := S 1 (by omega)
  have s2 := S 2 (by omega)
  rw [if_pos (by omega)] at s0 s1
  rw [if_neg (by omega), if_neg (by omega)] at s2
  obtain ⟨c, hc, e⟩ := stp_rg (l := 1) (t := t) (a := ix (vS v 0)) (b := ix (vS v 2)) (p := p) (h := h) (by unfold ix; omega) (by unfold ix; omega)
  obtain ⟨d, hd, e2⟩ := stp_rg (l := 0) (t := t) (a := ix (vS v 1)) (b := ix (vS v 2)) (p := p) (h := h) (by unfold ix; omega) (by unfold ix; omega)
  rw [← g 0 (by omega), ← g 2 (by omega)] at e
  rw [← g 1 (by omega), ← g 2 (by omega)] at e2
  unfold crA
  rw [e, e2, nI_add, Int32.le_iff_toInt_le, ti_m1, nI_toInt (by omega)]
  omega
theorem bh_cr {v : SV} {n j : Nat} (K : ok_D v n) (hj : j < n) (hs : stP v n j) (h : Nat) : sb_V 1 (uH v (upd (vH v) j (nI h))) n j + sb_V 0 (uH v (upd (vH v) j (nI h))) n j = crH v n j h := by
  have h8 := K.2.1.1
  have D := K.2.1.2.2.2.1
  have ip : inP (vP v j) := (K.2.1.2.2.2.2.1 j hj).resolve_left hs.2
  have ep := ix_eq ip.1
  have T := to_lkT D (show j < 8 by omega)
  have T2 : to_T (uH v (upd (vH v) j (nI h))) n 8 (tpV (uH v (upd (vH v) j (nI h))) n) := to_tpV D h8
  show crA v (tpV (uH v (upd (vH v) j (nI h))) n) (vP v j) (upd (vH v) j (nI h) j) = crA v (lkT v n (nI j) 8) (vP v j) (nI h)
  rw [pk_us]
  refine crA_cong fun q hq hne => ?_
  by_cases c : ∃ k, k < n ∧ k ≠ j ∧ vP v k = nI q
  · obtain ⟨k, c1, c2, c3⟩ := c
    rw [(T q hq).1 k (by omega) c1 c2 c3, (T2 q hq).1 k (by omega) c1 (by omega) c3]
    exact pk_un c2
  · rw [(T q hq).2 fun k _ c1 c2 c3 => c ⟨k, c1, c2, c3⟩, (T2 q hq).2 fun k _ c1 c2 c3 => ?_]
    by_cases e : k = j
    · subst e; exact hne c3.symm
    · exact c ⟨k, c1, e, c3⟩
set_option maxHeartbeats 4000000 in
set_option maxRecDepth 100000 in
theorem sX7_bestPitch_n (q : RV) (z : PV) (M : mr_R z q) (n : Nat) (K : ok_D (pN z) n) (R : ro_R 0 n (pN z) (rq_S q)) (b : Int32) (hb : ¬ bkP n b) : am_Sp mX7_bestPitch [.ref 2, .int b] (md_H q) (qq_P (-1) (z)) := by
  refine am_intro (by decide) (Nat.le_of_ble_eq_true rfl) ?_
  refine ar_aload_n (i := 0) (pc := 0) dX7_bestPitch_0 rfl rfl ?_
  refine ar_iload_n (i := 1) (pc := 1) dX7_bestPitch_1 rfl rfl ?_
  refine ar_idV (pc := 2) dX7_bestPitch_2 cal_X7_isBooth kX7_100 rfl (sX7_isBooth q n (show rq_S q 7 = nI n by have h := roN R; rw [Nat.zero_add] at h; exact h) K.2.1.1 _) rfl rfl rfl rfl rfl rfl rfl (fun r h1 hp => ?_)
  obtain ⟨⟨h2, rfl⟩ | ⟨h2, rfl⟩, rfl⟩ := hp
  · refine ⟨rfl, ?_⟩
    refine ar_if_ne (pc := 5) (tgt := 10) dX7_bestPitch_5 (by decide) (fun c5 => ?_) (fun c5 => absurd c5 (by decide))
    exact absurd h2 hb
  · refine ⟨rfl, ?_⟩
    refine ar_if_ne (pc := 5) (tgt := 10) dX7_bestPitch_5 (by decide) (fun c5 => absurd c5 (by decide)) (fun c5 => ?_)
    refine ar_iconst (pc := 8) dX7_bestPitch_8 q_iconst_m1 ?_
    exact ar_iret (pc := 9) dX7_bestPitch_9 rfl rfl rfl ⟨rfl, q, rfl, M⟩

abbrev bc_F (v : SV) (n j : Nat) : Nat → Int32 := crV (arF 1 (lkT v n (nI j) 8) (vS v 0) (vS v 2)) (taF 1 (lkT v n (nI j) 8) (vS v 0) (vS v 2)) (vS v 2) (arF 0 (lkT v n (nI j) 8) (vS v 1) (vS v 2)) (taF 0 (lkT v n (nI j) 8) (vS v 1) (vS v 2)) (vS v 2) (vH v j)
abbrev bo_F (v : SV) (n j : Nat) : Nat → Prop := fun k => opP (lkT v n (nI j) 8) k 0
set_option maxHeartbeats 4000000 in
set_option maxRecDepth 100000 in
theorem lX7_bestPitch (h0 : am_H) (q : RV) (z : PV) (M : mr_R z q) (n : Nat) (K : ok_D (pN z) n) (R : ro_R 0 n (pN z) (rq_S q)) {j : Nat} (hj : j < n) : ∀ (d k : Nat) (best most : Int32) (o5 : Option Value) (st : Nat → Int32), k + d = 12 → (best, most) = bopC (bc_F (pN z) n j) (bo_F (pN z) n j) k → am_RW mX7_bestPitch h0 (qq_P (bopC (bc_F (pN z) n j) (bo_F (pN z) n j) 12).1 z) 0 0 18 [some (.ref 2), some (.int (nI j)), some (.int best), some (.int most), some (.int (nI k)), o5] [] (md_H (ru_T q st)) := by
  intro d
  induction d with
  | zero =>
    intro k best most o5 st hk e
    have ek : k = 12 := by omega
    subst ek
    refine ar_iload (pc := 18) dX7_bestPitch_18 rfl ?_
    refine ar_bipush (pc := 20) dX7_bestPitch_20 q_bipush_12 ?_
    refine ar_icmp_ge (pc := 22) (tgt := 81) dX7_bestPitch_22 (by decide) (fun c22 => ?_) (fun c22 => absurd (by decide +kernel) c22)
    refine ar_iload_n (i := 2) (pc := 81) dX7_bestPitch_81 rfl rfl ?_
    exact ar_iret (pc := 82) dX7_bestPitch_82 rfl rfl rfl ⟨congrArg (fun x => some (Value.int x)) (congrArg Prod.fst e), _, rfl, mr_askT M⟩
  | succ d ih =>
    intro k best most o5 st hk e
    have hk12 : k < 12 := by omega
    have em : most = (bopC (bc_F (pN z) n j) (bo_F (pN z) n j) k).2 := congrArg Prod.snd e
    have hF := tk_op (k := k) K hj hk12
    refine ar_iload (pc := 18) dX7_bestPitch_18 rfl ?_
    refine ar_bipush (pc := 20) dX7_bestPitch_20 q_bipush_12 ?_
    refine ar_icmp_ge (pc := 22) (tgt := 81) dX7_bestPitch_22 (by decide) (fun c22 => absurd ((nI_leI (a := 12) (b := k) (by omega) (by omega)).mp c22) (by omega)) (fun c22 => ?_)
    refine ar_aload_n (i := 0) (pc := 25) dX7_bestPitch_25 rfl rfl ?_
    refine ar_iload_n (i := 1) (pc := 26) dX7_bestPitch_26 rfl rfl ?_
    refine ar_iload (pc := 27) dX7_bestPitch_27 rfl ?_
    refine ar_idV (pc := 29) dX7_bestPitch_29 cal_X7_isOthers kX7_106 rfl (sX7_isOthers (ru_T q st) n (pN z) R K.2.1.1 (show j < 8 by have := K.2.1.1; omega) k hk12) rfl rfl rfl rfl rfl rfl rfl (fun r h1 hp => ?_)
    obtain ⟨⟨h29, rfl⟩ | ⟨h29, rfl⟩, rfl⟩ := hp
    · refine ⟨rfl, ?_⟩
      refine ar_if_eq (pc := 32) (tgt := 39) dX7_bestPitch_32 (by decide) (fun c32 => absurd c32 (by decide)) (fun c32 => ?_)
      refine ar_iconst (pc := 35) dX7_bestPitch_35 q_iconst_m1 ?_
      refine ar_goto (tgt := 47) (pc := 36) dX7_bestPitch_36 (by decide) ?_
      refine ar_istore (pc := 47) dX7_bestPitch_47 (Nat.le_of_ble_eq_true rfl) rfl ?_
      refine ar_iload (pc := 49) dX7_bestPitch_49 rfl ?_
      refine ar_iload_n (i := 3) (pc := 51) dX7_bestPitch_51 rfl rfl ?_
      refine ar_icmp_le (pc := 52) (tgt := 60) dX7_bestPitch_52 (by decide) (fun c52 => ?_) (fun c52 => absurd (by rw [em]; exact bop_ge _ _ k) c52)
      refine ar_iload_n (i := 2) (pc := 60) dX7_bestPitch_60 rfl rfl ?_
      refine ar_istore_n (i := 2) (pc := 61) dX7_bestPitch_61 rfl (Nat.le_of_ble_eq_true rfl) rfl ?_
      refine ar_iload (pc := 62) dX7_bestPitch_62 rfl ?_
      refine ar_iload_n (i := 3) (pc := 64) dX7_bestPitch_64 rfl rfl ?_
      refine ar_icmp_le (pc := 65) (tgt := 73) dX7_bestPitch_65 (by decide) (fun c65 => ?_) (fun c65 => absurd (by rw [em]; exact bop_ge _ _ k) c65)
      refine ar_iload_n (i := 3) (pc := 73) dX7_bestPitch_73 rfl rfl ?_
      refine ar_istore_n (i := 3) (pc := 74) dX7_bestPitch_74 rfl (Nat.le_of_ble_eq_true rfl) rfl ?_
      refine ar_iinc (pc := 75) dX7_bestPitch_75 rfl (ni_inc _) (Nat.le_of_ble_eq_true rfl) rfl ?_
      refine ar_goto (tgt := 18) (pc := 78) dX7_bestPitch_78 (by decide) ?_
      exact ih (k + 1) _ _ _ _ (by omega) (e.trans (bopC_n _ _ k (fun z => hF.mpr z.2 h29)).symm)
    · refine ⟨rfl, ?_⟩
      refine ar_if_eq (pc := 32) (tgt := 39) dX7_bestPitch_32 (by decide) (fun c32 => ?_) (fun c32 => absurd c32 (by decide))
      refine ar_aload_n (i := 0) (pc := 39) dX7_bestPitch_39 rfl rfl ?_
      refine ar_iconst (pc := 40) dX7_bestPitch_40 q_iconst_0 ?_
      refine ar_iload_n (i := 1) (pc := 41) dX7_bestPitch_41 rfl rfl ?_
      refine ar_iload (pc := 42) dX7_bestPitch_42 rfl ?_
      refine ar_idV (pc := 44) dX7_bestPitch_44 cal_X7_crowdAt kX7_71 rfl (sX7_crowdAt0 (ru_T q st) n (pN z) R K.2.1.1 hj hk12 (di_st K hk12 h29)) rfl rfl rfl rfl rfl rfl rfl (fun r h1 hp => ?_)
      obtain ⟨st2, rfl, rfl⟩ := hp
      refine ⟨pat_md _ _, ?_⟩
      rw [ru_TT, ca_cr K.2.1.1 hj hk12 (to_lkT K.2.1.2.2.2.1 (show j < 8 by have := K.2.1.1; omega)) (di_st K hk12 h29), show crA (pN z) (lkT (pN z) n (nI j) 8) (nI k) (vH (pN z) j) = bc_F (pN z) n j k from rfl]
      refine ar_istore (pc := 47) dX7_bestPitch_47 (Nat.le_of_ble_eq_true rfl) rfl ?_
      refine ar_iload (pc := 49) dX7_bestPitch_49 rfl ?_
      refine ar_iload_n (i := 3) (pc := 51) dX7_bestPitch_51 rfl rfl ?_
      refine ar_icmp_le (pc := 52) (tgt := 60) dX7_bestPitch_52 (by decide) (fun c52 => ?_) (fun c52 => ?_)
      · refine ar_iload_n (i := 2) (pc := 60) dX7_bestPitch_60 rfl rfl ?_
        refine ar_istore_n (i := 2) (pc := 61) dX7_bestPitch_61 rfl (Nat.le_of_ble_eq_true rfl) rfl ?_
        refine ar_iload (pc := 62) dX7_bestPitch_62 rfl ?_
        refine ar_iload_n (i := 3) (pc := 64) dX7_bestPitch_64 rfl rfl ?_
        refine ar_icmp_le (pc := 65) (tgt := 73) dX7_bestPitch_65 (by decide) (fun c65 => ?_) (fun c65 => absurd c52 c65)
        refine ar_iload_n (i := 3) (pc := 73) dX7_bestPitch_73 rfl rfl ?_
        refine ar_istore_n (i := 3) (pc := 74) dX7_bestPitch_74 rfl (Nat.le_of_ble_eq_true rfl) rfl ?_
        refine ar_iinc (pc := 75) dX7_bestPitch_75 rfl (ni_inc _) (Nat.le_of_ble_eq_true rfl) rfl ?_
        refine ar_goto (tgt := 18) (pc := 78) dX7_bestPitch_78 (by decide) ?_
        exact ih (k + 1) _ _ _ _ (by omega) (e.trans (bopC_n _ _ k (fun z => absurd z.1 (by rw [← em]; exact Int32.not_lt.mpr c52))).symm)
      · refine ar_iload (pc := 55) dX7_bestPitch_55 rfl ?_
        refine ar_goto (tgt := 61) (pc := 57) dX7_bestPitch_57 (by decide) ?_
        refine ar_istore_n (i := 2) (pc := 61) dX7_bestPitch_61 rfl (Nat.le_of_ble_eq_true rfl) rfl ?_
        refine ar_iload (pc := 62) dX7_bestPitch_62 rfl ?_
        refine ar_iload_n (i := 3) (pc := 64) dX7_bestPitch_64 rfl rfl ?_
        refine ar_icmp_le (pc := 65) (tgt := 73) dX7_bestPitch_65 (by decide) (fun c65 => absurd c65 c52) (fun c65 => ?_)
        refine ar_iload (pc := 68) dX7_bestPitch_68 rfl ?_
        refine ar_goto (tgt := 74) (pc := 70) dX7_bestPitch_70 (by decide) ?_
        refine ar_istore_n (i := 3) (pc := 74) dX7_bestPitch_74 rfl (Nat.le_of_ble_eq_true rfl) rfl ?_
        refine ar_iinc (pc := 75) dX7_bestPitch_75 rfl (ni_inc _) (Nat.le_of_ble_eq_true rfl) rfl ?_
        refine ar_goto (tgt := 18) (pc := 78) dX7_bestPitch_78 (by decide) ?_
        exact ih (k + 1) _ _ _ _ (by omega) (bopC_s _ _ k ⟨by rw [← em]; exact Int32.not_le.mp c52, hF.mp h29⟩).symm
set_option maxHeartbeats 4000000 in
set_option maxRecDepth 100000 in
theorem sX7_bestPitch_s (q : RV) (z : PV) (M : mr_R z q) (n : Nat) (K : ok_D (pN z) n) (R : ro_R 0 n (pN z) (rq_S q)) {j : Nat} (hj : j < n) : am_Sp mX7_bestPitch [.ref 2, .int (nI j)] (md_H q) (qq_P (bpV (pN z) n (nI j)) (z)) := by
  refine am_intro (by decide) (Nat.le_of_ble_eq_true rfl) ?_
  refine ar_aload_n (i := 0) (pc := 0) dX7_bestPitch_0 rfl rfl ?_
  refine ar_iload_n (i := 1) (pc := 1) dX7_bestPitch_1 rfl rfl ?_
  refine ar_idV (pc := 2) dX7_bestPitch_2 cal_X7_isBooth kX7_100 rfl (sX7_isBooth q n (show rq_S q 7 = nI n by have h := roN R; rw [Nat.zero_add] at h; exact h) K.2.1.1 _) rfl rfl rfl rfl rfl rfl rfl (fun r h1 hp => ?_)
  obtain ⟨⟨h2, rfl⟩ | ⟨h2, rfl⟩, rfl⟩ := hp
  · refine ⟨rfl, ?_⟩
    refine ar_if_ne (pc := 5) (tgt := 10) dX7_bestPitch_5 (by decide) (fun c5 => ?_) (fun c5 => absurd c5 (by decide))
    refine ar_bipush (pc := 10) dX7_bestPitch_10 q_bipush_m6 ?_
    refine ar_istore_n (i := 2) (pc := 12) dX7_bestPitch_12 rfl (Nat.le_of_ble_eq_true rfl) rfl ?_
    refine ar_iconst (pc := 13) dX7_bestPitch_13 q_iconst_m1 ?_
    refine ar_istore_n (i := 3) (pc := 14) dX7_bestPitch_14 rfl (Nat.le_of_ble_eq_true rfl) rfl ?_
    refine ar_iconst (pc := 15) dX7_bestPitch_15 q_iconst_0 ?_
    refine ar_istore (pc := 16) dX7_bestPitch_16 (Nat.le_of_ble_eq_true rfl) rfl ?_
    rw [show bpV (pN z) n (nI j) = (bopC (bc_F (pN z) n j) (bo_F (pN z) n j) 12).1 by unfold bpV; rw [ix_nI (by have := K.2.1.1; omega)]]
    rw [← nI_0]
    refine ar_hp (h' := md_H (ru_T q (rq_T q))) (by rw [ru_T0]) ?_
    exact ar_k0 (lX7_bestPitch _ q z M n K R hj 12 0 (-6) (-1) _ _ (by omega) rfl) rfl rfl
  · refine ⟨rfl, ?_⟩
    refine ar_if_ne (pc := 5) (tgt := 10) dX7_bestPitch_5 (by decide) (fun c5 => absurd c5 (by decide)) (fun c5 => ?_)
    refine ar_iconst (pc := 8) dX7_bestPitch_8 q_iconst_m1 ?_
    exact absurd (bk_j K.2.1.1 hj) h2

set_option maxHeartbeats 4000000 in
set_option maxRecDepth 100000 in
theorem sX7_bestHeight_n (q : RV) (z : PV) (M : mr_R z q) (n : Nat) (K : ok_D (pN z) n) (R : ro_R 0 n (pN z) (rq_S q)) (b : Int32) (hb : ¬ bkP n b) : am_Sp mX7_bestHeight [.ref 2, .int b] (md_H q) (qq_P (-1) (z)) := by
  refine am_intro (by decide) (Nat.le_of_ble_eq_true rfl) ?_
  refine ar_aload_n (i := 0) (pc := 0) dX7_bestHeight_0 rfl rfl ?_
  refine ar_iload_n (i := 1) (pc := 1) dX7_bestHeight_1 rfl rfl ?_
  refine ar_idV (pc := 2) dX7_bestHeight_2 cal_X7_isBooth kX7_100 rfl (sX7_isBooth q n (show rq_S q 7 = nI n by have h := roN R; rw [Nat.zero_add] at h; exact h) K.2.1.1 _) rfl rfl rfl rfl rfl rfl rfl (fun r h1 hp => ?_)
  obtain ⟨⟨h2, rfl⟩ | ⟨h2, rfl⟩, rfl⟩ := hp
  · refine ⟨rfl, ?_⟩
    refine ar_if_ne (pc := 5) (tgt := 10) dX7_bestHeight_5 (by decide) (fun c5 => ?_) (fun c5 => absurd c5 (by decide))
    exact absurd h2 hb
  · refine ⟨rfl, ?_⟩
    refine ar_if_ne (pc := 5) (tgt := 10) dX7_bestHeight_5 (by decide) (fun c5 => absurd c5 (by decide)) (fun c5 => ?_)
    refine ar_iconst (pc := 8) dX7_bestHeight_8 q_iconst_m1 ?_
    exact ar_iret (pc := 9) dX7_bestHeight_9 rfl rfl rfl ⟨rfl, q, rfl, M⟩

set_option maxHeartbeats 4000000 in
set_option maxRecDepth 100000 in
theorem sX7_bestHeight_z (q : RV) (z : PV) (M : mr_R z q) (n : Nat) (K : ok_D (pN z) n) (R : ro_R 0 n (pN z) (rq_S q)) {j : Nat} (hj : j < n) (hs : ¬ stP (pN z) n j) : am_Sp mX7_bestHeight [.ref 2, .int (nI j)] (md_H q) (qq_P (-5) (z)) := by
  have hv : vP (pN z) j = -6 ∨ 0 ≤ (vP (pN z) j).toInt := (K.2.1.2.2.2.2.1 j hj).imp_right fun e => e.1
  refine am_intro (by decide) (Nat.le_of_ble_eq_true rfl) ?_
  refine ar_aload_n (i := 0) (pc := 0) dX7_bestHeight_0 rfl rfl ?_
  refine ar_iload_n (i := 1) (pc := 1) dX7_bestHeight_1 rfl rfl ?_
  refine ar_idV (pc := 2) dX7_bestHeight_2 cal_X7_isBooth kX7_100 rfl (sX7_isBooth q n (show rq_S q 7 = nI n by have h := roN R; rw [Nat.zero_add] at h; exact h) K.2.1.1 _) rfl rfl rfl rfl rfl rfl rfl (fun r h1 hp => ?_)
  obtain ⟨⟨h2, rfl⟩ | ⟨h2, rfl⟩, rfl⟩ := hp
  · refine ⟨rfl, ?_⟩
    refine ar_if_ne (pc := 5) (tgt := 10) dX7_bestHeight_5 (by decide) (fun c5 => ?_) (fun c5 => absurd c5 (by decide))
    refine ar_aload_n (i := 0) (pc := 10) dX7_bestHeight_10 rfl rfl ?_
    refine ar_iload_n (i := 1) (pc := 11) dX7_bestHeight_11 rfl rfl ?_
    refine ar_iconst (pc := 12) dX7_bestHeight_12 q_iconst_1 ?_
    refine ar_idV (pc := 13) dX7_bestHeight_13 cal_X7_its kX7_103 rfl (sX7_its1 q (show j < 8 by have := K.2.1.1; omega)) rfl rfl rfl rfl rfl rfl rfl (fun r h1 hp => ?_)
    obtain ⟨rfl, rfl⟩ := hp
    refine ⟨rfl, ?_⟩
    rw [show rq_S q (20 + 5 * j + 1) = pm_ (vP (pN z) j) by have h := roP R hj; rw [Nat.zero_add] at h; exact h]
    refine ar_if_ge (pc := 16) (tgt := 22) dX7_bestHeight_16 (by decide) (fun c16 => absurd ⟨hj, (pm_st hv).mp c16⟩ hs) (fun c16 => ?_)
    refine ar_bipush (pc := 19) dX7_bestHeight_19 q_bipush_m5 ?_
    exact ar_iret (pc := 21) dX7_bestHeight_21 rfl rfl rfl ⟨rfl, q, rfl, M⟩
  · refine ⟨rfl, ?_⟩
    refine ar_if_ne (pc := 5) (tgt := 10) dX7_bestHeight_5 (by decide) (fun c5 => absurd c5 (by decide)) (fun c5 => ?_)
    refine ar_iconst (pc := 8) dX7_bestHeight_8 q_iconst_m1 ?_
    exact absurd (bk_j K.2.1.1 hj) h2

theorem upd2' {f : Nat → Int32} {i : Nat} {y : Int32} (x : Int32) : upd (upd f i y) i x = upd f i x := by
  funext t
  by_cases e : t = i
  · subst e; rw [pk_us, pk_us]
  · rw [pk_un e, pk_un e, pk_un e]
set_option maxHeartbeats 4000000 in
set_option maxRecDepth 100000 in
theorem lX7_bestHeight (h0 : am_H) (q : RV) (z : PV) (M : mr_R z q) (n : Nat) (K : ok_D (pN z) n) (R : ro_R 0 n (pN z) (rq_S q)) {j : Nat} (hj : j < n) (hs : stP (pN z) n j) : ∀ (d k : Nat) (best most : Int32) (o6 : Option Value) (st s : Nat → Int32), k + d = 8 → (best, most) = bhF (crH (pN z) n j) k → (∀ x, upd s (20 + 5 * j) x = upd (rq_S q) (20 + 5 * j) x) → am_RW mX7_bestHeight h0 (qq_P (bhF (crH (pN z) n j) 8).1 z) 0 0 37 [some (.ref 2), some (.int (nI j)), some (.int (vH (pN z) j)), some (.int best), some (.int most), some (.int (nI (k + 2))), o6] [] (md_H (ru_S (ru_T q st) s)) := by
  intro d
  induction d with
  | zero =>
    intro k best most o6 st s hk e hs2
    have ek : k = 8 := by omega
    subst ek
    have eq : upd s (20 + 5 * j) (vH (pN z) j) = rq_S q := by
      rw [hs2]
      have h := roH R hj
      rw [Nat.zero_add] at h
      exact upd_self h
    refine ar_iload (pc := 37) dX7_bestHeight_37 rfl ?_
    refine ar_bipush (pc := 39) dX7_bestHeight_39 q_bipush_10 ?_
    refine ar_icmp_ge (pc := 41) (tgt := 102) dX7_bestHeight_41 (by decide) (fun c41 => ?_) (fun c41 => absurd (by decide +kernel) c41)
    refine ar_aload_n (i := 0) (pc := 102) dX7_bestHeight_102 rfl rfl ?_
    refine ar_getf (pc := 103) dX7_bestHeight_103 fX7_7 rfl rfl ?_
    refine ar_iconst (pc := 106) dX7_bestHeight_106 q_iconst_0 ?_
    refine ar_iload_n (i := 1) (pc := 107) dX7_bestHeight_107 rfl rfl ?_
    refine ar_idS (pc := 108) dX7_bestHeight_108 cal_X7_at kX7_36 rfl (sX7_at0 _ j) rfl rfl rfl rfl rfl (fun r h1 hp => ?_)
    obtain ⟨rfl, rfl⟩ := hp
    refine ⟨rfl, ?_⟩
    refine ar_iconst (pc := 111) dX7_bestHeight_111 q_iconst_0 ?_
    refine ar_iadd (pc := 112) dX7_bestHeight_112 ?_
    refine ar_iload_n (i := 2) (pc := 113) dX7_bestHeight_113 rfl rfl ?_
    refine ar_iast (pc := 114) dX7_bestHeight_114 rfl (show 20 + 5 * j < 120 by have := K.2.1.1; omega) (nI_add _ 0) ?_
    refine ar_iload_n (i := 3) (pc := 115) dX7_bestHeight_115 rfl rfl ?_
    rw [md_S, rq_SS, ru_STc, eq]
    exact ar_iret (pc := 116) dX7_bestHeight_116 rfl rfl rfl ⟨congrArg (fun x => some (Value.int x)) (congrArg Prod.fst e), _, rfl, mr_ask M (fun _ _ => rfl)⟩
  | succ d ih =>
    intro k best most o6 st s hk e hs2
    refine ar_iload (pc := 37) dX7_bestHeight_37 rfl ?_
    refine ar_bipush (pc := 39) dX7_bestHeight_39 q_bipush_10 ?_
    refine ar_icmp_ge (pc := 41) (tgt := 102) dX7_bestHeight_41 (by decide) (fun c41 => absurd ((nI_leI (a := 10) (b := k + 2) (by omega) (by omega)).mp c41) (by omega)) (fun c41 => ?_)
    refine ar_aload_n (i := 0) (pc := 44) dX7_bestHeight_44 rfl rfl ?_
    refine ar_getf (pc := 45) dX7_bestHeight_45 fX7_7 rfl rfl ?_
    refine ar_iconst (pc := 48) dX7_bestHeight_48 q_iconst_0 ?_
    refine ar_iload_n (i := 1) (pc := 49) dX7_bestHeight_49 rfl rfl ?_
    refine ar_idS (pc := 50) dX7_bestHeight_50 cal_X7_at kX7_36 rfl (sX7_at0 _ j) rfl rfl rfl rfl rfl (fun r h1 hp => ?_)
    obtain ⟨rfl, rfl⟩ := hp
    refine ⟨rfl, ?_⟩
    refine ar_iconst (pc := 53) dX7_bestHeight_53 q_iconst_0 ?_
    refine ar_iadd (pc := 54) dX7_bestHeight_54 ?_
    refine ar_iload (pc := 55) dX7_bestHeight_55 rfl ?_
    refine ar_iast (pc := 57) dX7_bestHeight_57 rfl (show 20 + 5 * j < 120 by have := K.2.1.1; omega) (nI_add _ 0) ?_
    rw [md_S, rq_SS, ru_STc, hs2]
    refine ar_aload_n (i := 0) (pc := 58) dX7_bestHeight_58 rfl rfl ?_
    refine ar_iload_n (i := 1) (pc := 59) dX7_bestHeight_59 rfl rfl ?_
    refine ar_iconst (pc := 60) dX7_bestHeight_60 q_iconst_2 ?_
    refine ar_idV (pc := 61) dX7_bestHeight_61 cal_X7_crowd kX7_112 rfl (sX7_crowd2 (ru_S (ru_T q st) (upd (rq_S q) (20 + 5 * j) (nI (k + 2)))) n (uH (pN z) (upd (vH (pN z)) j (nI (k + 2)))) (by have h := ro_uH R j (nI (k + 2)); rw [Nat.zero_add] at h; exact h) K.2.1.1 K.2.1.2.2.2.1 hj) rfl rfl rfl rfl rfl rfl rfl (fun r h1 hp => ?_)
    obtain ⟨st2, rfl, rfl⟩ := hp
    refine ⟨pat_md _ _, ?_⟩
    rw [ru_TST, bh_cr K hj hs (k + 2)]
    refine ar_istore (pc := 64) dX7_bestHeight_64 (Nat.le_of_ble_eq_true rfl) rfl ?_
    refine ar_iload (pc := 66) dX7_bestHeight_66 rfl ?_
    refine ar_iload (pc := 68) dX7_bestHeight_68 rfl ?_
    refine ar_icmp_le (pc := 70) (tgt := 78) dX7_bestHeight_70 (by decide) (fun c70 => ?_) (fun c70 => ?_)
    · refine ar_iload_n (i := 3) (pc := 78) dX7_bestHeight_78 rfl rfl ?_
      refine ar_istore_n (i := 3) (pc := 79) dX7_bestHeight_79 rfl (Nat.le_of_ble_eq_true rfl) rfl ?_
      refine ar_iload (pc := 80) dX7_bestHeight_80 rfl ?_
      refine ar_iload (pc := 82) dX7_bestHeight_82 rfl ?_
      refine ar_icmp_le (pc := 84) (tgt := 92) dX7_bestHeight_84 (by decide) (fun c84 => ?_) (fun c84 => absurd c70 c84)
      refine ar_iload (pc := 92) dX7_bestHeight_92 rfl ?_
      refine ar_istore (pc := 94) dX7_bestHeight_94 (Nat.le_of_ble_eq_true rfl) rfl ?_
      refine ar_iinc (pc := 96) dX7_bestHeight_96 rfl (ni_inc _) (Nat.le_of_ble_eq_true rfl) rfl ?_
      refine ar_goto (tgt := 37) (pc := 99) dX7_bestHeight_99 (by decide) ?_
      exact ih (k + 1) _ _ _ _ _ (by omega) (bh_n e rfl (Int32.not_lt.mpr c70)) (fun x => upd2' x)
    · refine ar_iload (pc := 73) dX7_bestHeight_73 rfl ?_
      refine ar_goto (tgt := 79) (pc := 75) dX7_bestHeight_75 (by decide) ?_
      refine ar_istore_n (i := 3) (pc := 79) dX7_bestHeight_79 rfl (Nat.le_of_ble_eq_true rfl) rfl ?_
      refine ar_iload (pc := 80) dX7_bestHeight_80 rfl ?_
      refine ar_iload (pc := 82) dX7_bestHeight_82 rfl ?_
      refine ar_icmp_le (pc := 84) (tgt := 92) dX7_bestHeight_84 (by decide) (fun c84 => absurd c84 c70) (fun c84 => ?_)
      refine ar_iload (pc := 87) dX7_bestHeight_87 rfl ?_
      refine ar_goto (tgt := 94) (pc := 89) dX7_bestHeight_89 (by decide) ?_
      refine ar_istore (pc := 94) dX7_bestHeight_94 (Nat.le_of_ble_eq_true rfl) rfl ?_
      refine ar_iinc (pc := 96) dX7_bestHeight_96 rfl (ni_inc _) (Nat.le_of_ble_eq_true rfl) rfl ?_
      refine ar_goto (tgt := 37) (pc := 99) dX7_bestHeight_99 (by decide) ?_
      exact ih (k + 1) _ _ _ _ _ (by omega) (bh_y e rfl (Int32.not_le.mp c70)) (fun x => upd2' x)
set_option maxHeartbeats 4000000 in
set_option maxRecDepth 100000 in
theorem lX7_bestHeight_1 (h0 : am_H) (q : RV) (z : PV) (M : mr_R z q) (n : Nat) (K : ok_D (pN z) n) (R : ro_R 0 n (pN z) (rq_S q)) {j : Nat} (hj : j < n) (hs : stP (pN z) n j) : am_RW mX7_bestHeight h0 (qq_P (bhF (crH (pN z) n j) 8).1 z) 0 0 37 [some (.ref 2), some (.int (nI j)), some (.int (vH (pN z) j)), some (.int 1), some (.int (-1)), some (.int 1), none] [] (md_H q) := by
  refine ar_iload (pc := 37) dX7_bestHeight_37 rfl ?_
  refine ar_bipush (pc := 39) dX7_bestHeight_39 q_bipush_10 ?_
  refine ar_icmp_ge (pc := 41) (tgt := 102) dX7_bestHeight_41 (by decide) (fun c41 => absurd c41 (by decide)) (fun c41 => ?_)
  refine ar_aload_n (i := 0) (pc := 44) dX7_bestHeight_44 rfl rfl ?_
  refine ar_getf (pc := 45) dX7_bestHeight_45 fX7_7 rfl rfl ?_
  refine ar_iconst (pc := 48) dX7_bestHeight_48 q_iconst_0 ?_
  refine ar_iload_n (i := 1) (pc := 49) dX7_bestHeight_49 rfl rfl ?_
  refine ar_idS (pc := 50) dX7_bestHeight_50 cal_X7_at kX7_36 rfl (sX7_at0 _ j) rfl rfl rfl rfl rfl (fun r h1 hp => ?_)
  obtain ⟨rfl, rfl⟩ := hp
  refine ⟨rfl, ?_⟩
  refine ar_iconst (pc := 53) dX7_bestHeight_53 q_iconst_0 ?_
  refine ar_iadd (pc := 54) dX7_bestHeight_54 ?_
  refine ar_iload (pc := 55) dX7_bestHeight_55 rfl ?_
  refine ar_iast (pc := 57) dX7_bestHeight_57 rfl (show 20 + 5 * j < 120 by have := K.2.1.1; omega) (nI_add _ 0) ?_
  rw [md_S]
  refine ar_hp (h' := md_H (ru_S (ru_T q (rq_T q)) (upd (rq_S q) (20 + 5 * j) (nI 1)))) (by rw [ru_T0]; rfl) ?_
  refine ar_aload_n (i := 0) (pc := 58) dX7_bestHeight_58 rfl rfl ?_
  refine ar_iload_n (i := 1) (pc := 59) dX7_bestHeight_59 rfl rfl ?_
  refine ar_iconst (pc := 60) dX7_bestHeight_60 q_iconst_2 ?_
  refine ar_idV (pc := 61) dX7_bestHeight_61 cal_X7_crowd kX7_112 rfl (sX7_crowd2 (ru_S (ru_T q (rq_T q)) (upd (rq_S q) (20 + 5 * j) (nI (1)))) n (uH (pN z) (upd (vH (pN z)) j (nI (1)))) (by have h := ro_uH R j (nI (1)); rw [Nat.zero_add] at h; exact h) K.2.1.1 K.2.1.2.2.2.1 hj) rfl rfl rfl rfl rfl rfl rfl (fun r h1 hp => ?_)
  obtain ⟨st2, rfl, rfl⟩ := hp
  refine ⟨pat_md _ _, ?_⟩
  rw [ru_TST, bh_cr K hj hs (1)]
  refine ar_istore (pc := 64) dX7_bestHeight_64 (Nat.le_of_ble_eq_true rfl) rfl ?_
  refine ar_iload (pc := 66) dX7_bestHeight_66 rfl ?_
  refine ar_iload (pc := 68) dX7_bestHeight_68 rfl ?_
  refine ar_icmp_le (pc := 70) (tgt := 78) dX7_bestHeight_70 (by decide) (fun c70 => absurd c70 (cr_nn K _ _ _)) (fun c70 => ?_)
  refine ar_iload (pc := 73) dX7_bestHeight_73 rfl ?_
  refine ar_goto (tgt := 79) (pc := 75) dX7_bestHeight_75 (by decide) ?_
  refine ar_istore_n (i := 3) (pc := 79) dX7_bestHeight_79 rfl (Nat.le_of_ble_eq_true rfl) rfl ?_
  refine ar_iload (pc := 80) dX7_bestHeight_80 rfl ?_
  refine ar_iload (pc := 82) dX7_bestHeight_82 rfl ?_
  refine ar_icmp_le (pc := 84) (tgt := 92) dX7_bestHeight_84 (by decide) (fun c84 => absurd c84 (cr_nn K _ _ _)) (fun c84 => ?_)
  refine ar_iload (pc := 87) dX7_bestHeight_87 rfl ?_
  refine ar_goto (tgt := 94) (pc := 89) dX7_bestHeight_89 (by decide) ?_
  refine ar_istore (pc := 94) dX7_bestHeight_94 (Nat.le_of_ble_eq_true rfl) rfl ?_
  refine ar_iinc (pc := 96) dX7_bestHeight_96 rfl (show (1 : Int32) + Int32.ofInt 1 = nI (0 + 2) by decide +kernel) (Nat.le_of_ble_eq_true rfl) rfl ?_
  refine ar_goto (tgt := 37) (pc := 99) dX7_bestHeight_99 (by decide) ?_
  exact ar_k0 (lX7_bestHeight _ q z M n K R hj hs 8 0 _ _ _ _ _ (by omega) rfl (fun x => upd2' x)) rfl rfl
set_option maxHeartbeats 4000000 in
set_option maxRecDepth 100000 in
theorem sX7_bestHeight_s (q : RV) (z : PV) (M : mr_R z q) (n : Nat) (K : ok_D (pN z) n) (R : ro_R 0 n (pN z) (rq_S q)) {j : Nat} (hj : j < n) (hs : stP (pN z) n j) : am_Sp mX7_bestHeight [.ref 2, .int (nI j)] (md_H q) (qq_P ((bhF (crH (pN z) n j) 8).1) (z)) := by
  have hv : vP (pN z) j = -6 ∨ 0 ≤ (vP (pN z) j).toInt := (K.2.1.2.2.2.2.1 j hj).imp_right fun e => e.1
  refine am_intro (by decide) (Nat.le_of_ble_eq_true rfl) ?_
  refine ar_aload_n (i := 0) (pc := 0) dX7_bestHeight_0 rfl rfl ?_
  refine ar_iload_n (i := 1) (pc := 1) dX7_bestHeight_1 rfl rfl ?_
  refine ar_idV (pc := 2) dX7_bestHeight_2 cal_X7_isBooth kX7_100 rfl (sX7_isBooth q n (show rq_S q 7 = nI n by have h := roN R; rw [Nat.zero_add] at h; exact h) K.2.1.1 _) rfl rfl rfl rfl rfl rfl rfl (fun r h1 hp => ?_)
  obtain ⟨⟨h2, rfl⟩ | ⟨h2, rfl⟩, rfl⟩ := hp
  · refine ⟨rfl, ?_⟩
    refine ar_if_ne (pc := 5) (tgt := 10) dX7_bestHeight_5 (by decide) (fun c5 => ?_) (fun c5 => absurd c5 (by decide))
    refine ar_aload_n (i := 0) (pc := 10) dX7_bestHeight_10 rfl rfl ?_
    refine ar_iload_n (i := 1) (pc := 11) dX7_bestHeight_11 rfl rfl ?_
    refine ar_iconst (pc := 12) dX7_bestHeight_12 q_iconst_1 ?_
    refine ar_idV (pc := 13) dX7_bestHeight_13 cal_X7_its kX7_103 rfl (sX7_its1 q (show j < 8 by have := K.2.1.1; omega)) rfl rfl rfl rfl rfl rfl rfl (fun r h1 hp => ?_)
    obtain ⟨rfl, rfl⟩ := hp
    refine ⟨rfl, ?_⟩
    rw [show rq_S q (20 + 5 * j + 1) = pm_ (vP (pN z) j) by have h := roP R hj; rw [Nat.zero_add] at h; exact h]
    refine ar_if_ge (pc := 16) (tgt := 22) dX7_bestHeight_16 (by decide) (fun c16 => ?_) (fun c16 => absurd ((pm_st hv).mpr hs.2) c16)
    refine ar_aload_n (i := 0) (pc := 22) dX7_bestHeight_22 rfl rfl ?_
    refine ar_iload_n (i := 1) (pc := 23) dX7_bestHeight_23 rfl rfl ?_
    refine ar_iconst (pc := 24) dX7_bestHeight_24 q_iconst_0 ?_
    refine ar_idV (pc := 25) dX7_bestHeight_25 cal_X7_its kX7_103 rfl (sX7_its0 q (show j < 8 by have := K.2.1.1; omega)) rfl rfl rfl rfl rfl rfl rfl (fun r h1 hp => ?_)
    obtain ⟨rfl, rfl⟩ := hp
    refine ⟨rfl, ?_⟩
    rw [show rq_S q (20 + 5 * j) = vH (pN z) j by have h := roH R hj; rw [Nat.zero_add] at h; exact h]
    refine ar_istore_n (i := 2) (pc := 28) dX7_bestHeight_28 rfl (Nat.le_of_ble_eq_true rfl) rfl ?_
    refine ar_iconst (pc := 29) dX7_bestHeight_29 q_iconst_1 ?_
    refine ar_istore_n (i := 3) (pc := 30) dX7_bestHeight_30 rfl (Nat.le_of_ble_eq_true rfl) rfl ?_
    refine ar_iconst (pc := 31) dX7_bestHeight_31 q_iconst_m1 ?_
    refine ar_istore (pc := 32) dX7_bestHeight_32 (Nat.le_of_ble_eq_true rfl) rfl ?_
    refine ar_iconst (pc := 34) dX7_bestHeight_34 q_iconst_1 ?_
    refine ar_istore (pc := 35) dX7_bestHeight_35 (Nat.le_of_ble_eq_true rfl) rfl ?_
    exact ar_k0 (lX7_bestHeight_1 _ q z M n K R hj hs) rfl rfl
  · refine ⟨rfl, ?_⟩
    refine ar_if_ne (pc := 5) (tgt := 10) dX7_bestHeight_5 (by decide) (fun c5 => absurd c5 (by decide)) (fun c5 => ?_)
    refine ar_iconst (pc := 8) dX7_bestHeight_8 q_iconst_m1 ?_
    exact absurd (bk_j K.2.1.1 hj) h2

set_option maxHeartbeats 4000000 in
set_option maxRecDepth 100000 in
theorem sX7_ifPlayed_o (q : RV) (z : PV) (M : mr_R z q) (n : Nat) (K : ok_D (pN z) n) (R : ro_R 0 n (pN z) (rq_S q)) (a w : Int32) (ho : a < 1 ∨ 100 < a ∨ (¬ w = 0 ∧ ¬ w = 1)) : am_Sp mX7_ifPlayed [.ref 2, .int a, .int w] (md_H q) (qq_P (-2) (z)) := by
  refine am_intro (by decide) (Nat.le_of_ble_eq_true rfl) ?_
  refine ar_iload_n (i := 1) (pc := 0) dX7_ifPlayed_0 rfl rfl ?_
  refine ar_iconst (pc := 1) dX7_ifPlayed_1 q_iconst_1 ?_
  refine ar_bipush (pc := 2) dX7_ifPlayed_2 q_bipush_100 ?_
  refine ar_idS (pc := 4) dX7_ifPlayed_4 cal_X7_in kX7_32 rfl (sX7_inB (md_H q) a 1 100) rfl rfl rfl rfl rfl (fun r h1 hp => ?_)
  obtain ⟨⟨h4, rfl⟩ | ⟨h4, rfl⟩, rfl⟩ := hp
  · refine ⟨rfl, ?_⟩
    refine ar_if_eq (pc := 7) (tgt := 19) dX7_ifPlayed_7 (by decide) (fun c7 => absurd c7 (by decide)) (fun c7 => ?_)
    refine ar_iload_n (i := 2) (pc := 10) dX7_ifPlayed_10 rfl rfl ?_
    refine ar_iconst (pc := 11) dX7_ifPlayed_11 q_iconst_0 ?_
    refine ar_iconst (pc := 12) dX7_ifPlayed_12 q_iconst_1 ?_
    refine ar_idS (pc := 13) dX7_ifPlayed_13 cal_X7_in kX7_32 rfl (sX7_inB (md_H q) w 0 1) rfl rfl rfl rfl rfl (fun r h1 hp => ?_)
    obtain ⟨⟨h13, rfl⟩ | ⟨h13, rfl⟩, rfl⟩ := hp
    · refine ⟨rfl, ?_⟩
      refine ar_if_ne (pc := 16) (tgt := 22) dX7_ifPlayed_16 (by decide) (fun c16 => ?_) (fun c16 => absurd c16 (by decide))
      exact False.elim (ho.elim (fun e => absurd h4.1 (by rw [Int32.lt_iff_toInt_lt] at e; omega)) (fun e => e.elim (fun e => absurd h4.2 (by rw [Int32.lt_iff_toInt_lt] at e; omega)) (fun e => (in01' h13).elim e.1 e.2)))
    · refine ⟨rfl, ?_⟩
      refine ar_if_ne (pc := 16) (tgt := 22) dX7_ifPlayed_16 (by decide) (fun c16 => absurd c16 (by decide)) (fun c16 => ?_)
      refine ar_bipush (pc := 19) dX7_ifPlayed_19 q_bipush_m2 ?_
      exact ar_iret (pc := 21) dX7_ifPlayed_21 rfl rfl rfl ⟨rfl, q, rfl, M⟩
  · refine ⟨rfl, ?_⟩
    refine ar_if_eq (pc := 7) (tgt := 19) dX7_ifPlayed_7 (by decide) (fun c7 => ?_) (fun c7 => absurd c7 (by decide))
    refine ar_bipush (pc := 19) dX7_ifPlayed_19 q_bipush_m2 ?_
    exact ar_iret (pc := 21) dX7_ifPlayed_21 rfl rfl rfl ⟨rfl, q, rfl, M⟩

theorem it_vv {v : SV} {n : Nat} (V : vv_D v n) : ∀ k, vv_D (itV v n k).1 n
  | 0 => V
  | k + 1 => vv_dy (it_vv V k)
set_option maxHeartbeats 4000000 in
set_option maxRecDepth 100000 in
theorem lX7_ifPlayed (h0 : am_H) (q : RV) (z : PV) (M : mr_R z q) (n : Nat) (K : ok_D (pN z) n) (R : ro_R 0 n (pN z) (rq_S q)) (m : Nat) (hm : m ≤ 100) (w : Int32) : ∀ (d k : Nat) (u : SV) (c : Int32) (st s : Nat → Int32), k + d = m → (u, c) = itV (pN z) n k → ro_R 60 n u s → (∀ j, j < 60 → s j = rq_S q j) → am_RW mX7_ifPlayed h0 (qq_P (if w = 0 then (itV (pN z) n m).2 else vRa (itV (pN z) n m).1 - vRa (pN z)) z) 0 0 31 [some (.ref 2), some (.int (nI m)), some (.int w), some (.int c), some (.int (nI k))] [] (md_H (ru_S (ru_T q st) s)) := by
  intro d
  induction d with
  | zero =>
    intro k u c st s hk e R2 hs
    have ek : k = m := by omega
    subst ek
    refine ar_iload (pc := 31) dX7_ifPlayed_31 rfl ?_
    refine ar_iload_n (i := 1) (pc := 33) dX7_ifPlayed_33 rfl rfl ?_
    refine ar_icmp_ge (pc := 34) (tgt := 52) dX7_ifPlayed_34 (by decide) (fun c34 => ?_) (fun c34 => absurd (Int32.le_refl _) c34)
    refine ar_iload_n (i := 2) (pc := 52) dX7_ifPlayed_52 rfl rfl ?_
    refine ar_if_ne (pc := 53) (tgt := 60) dX7_ifPlayed_53 (by decide) (fun c53 => ?_) (fun c53 => ?_)
    · refine ar_aload_n (i := 0) (pc := 60) dX7_ifPlayed_60 rfl rfl ?_
      refine ar_getf (pc := 61) dX7_ifPlayed_61 fX7_7 rfl rfl ?_
      refine ar_bipush (pc := 64) dX7_ifPlayed_64 q_bipush_70 ?_
      refine ar_iald (pc := 66) dX7_ifPlayed_66 rfl (show 70 < 120 by decide) rfl ?_
      rw [rq_SS, show s 70 = vRa u from roRa R2]
      refine ar_aload_n (i := 0) (pc := 67) dX7_ifPlayed_67 rfl rfl ?_
      refine ar_getf (pc := 68) dX7_ifPlayed_68 fX7_7 rfl rfl ?_
      refine ar_bipush (pc := 71) dX7_ifPlayed_71 q_bipush_10 ?_
      refine ar_iald (pc := 73) dX7_ifPlayed_73 rfl (show 10 < 120 by decide) rfl ?_
      rw [rq_SS, hs 10 (by decide), show rq_S q 10 = vRa (pN z) by have h := roRa R; rw [Nat.zero_add] at h; exact h]
      refine ar_isub (pc := 74) dX7_ifPlayed_74 ?_
      exact ar_iret (pc := 75) dX7_ifPlayed_75 rfl rfl rfl ⟨by rw [if_neg c53, ← e], _, rfl, mr_ask M hs⟩
    · refine ar_iload_n (i := 3) (pc := 56) dX7_ifPlayed_56 rfl rfl ?_
      refine ar_goto (tgt := 75) (pc := 57) dX7_ifPlayed_57 (by decide) ?_
      exact ar_iret (pc := 75) dX7_ifPlayed_75 rfl rfl rfl ⟨by rw [if_pos c53, ← e], _, rfl, mr_ask M hs⟩
  | succ d ih =>
    intro k u c st s hk e R2 hs
    have V : vv_D u n := by rw [show u = (itV (pN z) n k).1 from congrArg Prod.fst e]; exact it_vv K.2.1 k
    refine ar_iload (pc := 31) dX7_ifPlayed_31 rfl ?_
    refine ar_iload_n (i := 1) (pc := 33) dX7_ifPlayed_33 rfl rfl ?_
    refine ar_icmp_ge (pc := 34) (tgt := 52) dX7_ifPlayed_34 (by decide) (fun c34 => absurd ((nI_leI (by omega) (by omega)).mp c34) (by omega)) (fun c34 => ?_)
    refine ar_iload_n (i := 3) (pc := 37) dX7_ifPlayed_37 rfl rfl ?_
    refine ar_aload_n (i := 0) (pc := 38) dX7_ifPlayed_38 rfl rfl ?_
    refine ar_bipush (pc := 39) dX7_ifPlayed_39 q_bipush_60 ?_
    refine ar_idV (pc := 41) dX7_ifPlayed_41 cal_X7_plays kX7_109 rfl (sX7_plays60 (ru_S (ru_T q st) s) n u R2 V) rfl rfl rfl rfl rfl rfl rfl (fun r h1 hp => ?_)
    obtain ⟨st2, s2, rfl, rfl, R3, M3⟩ := hp
    refine ⟨pat_md _ _, ?_⟩
    rw [ru_STS]
    refine ar_iadd (pc := 44) dX7_ifPlayed_44 ?_
    refine ar_istore_n (i := 3) (pc := 45) dX7_ifPlayed_45 rfl (Nat.le_of_ble_eq_true rfl) rfl ?_
    refine ar_iinc (pc := 46) dX7_ifPlayed_46 rfl (ni_inc _) (Nat.le_of_ble_eq_true rfl) rfl ?_
    refine ar_goto (tgt := 31) (pc := 49) dX7_ifPlayed_49 (by decide) ?_
    exact ih (k + 1) (dyV u n) _ st2 s2 (by omega) (itV_s e) R3 (fun j hj => (M3 j (by omega)).trans (hs j hj))
set_option maxHeartbeats 4000000 in
set_option maxRecDepth 100000 in
theorem sX7_ifPlayed_s (q : RV) (z : PV) (M : mr_R z q) (n : Nat) (K : ok_D (pN z) n) (R : ro_R 0 n (pN z) (rq_S q)) (m : Nat) (h1 : 1 ≤ m) (hm : m ≤ 100) (w : Int32) (hw : w = 0 ∨ w = 1) : am_Sp mX7_ifPlayed [.ref 2, .int (nI m), .int w] (md_H q) (qq_P (if w = 0 then (itV (pN z) n m).2 else vRa (itV (pN z) n m).1 - vRa (pN z)) (z)) := by
  refine am_intro (by decide) (Nat.le_of_ble_eq_true rfl) ?_
  refine ar_iload_n (i := 1) (pc := 0) dX7_ifPlayed_0 rfl rfl ?_
  refine ar_iconst (pc := 1) dX7_ifPlayed_1 q_iconst_1 ?_
  refine ar_bipush (pc := 2) dX7_ifPlayed_2 q_bipush_100 ?_
  refine ar_idS (pc := 4) dX7_ifPlayed_4 cal_X7_in kX7_32 rfl (sX7_inB (md_H q) (nI m) 1 100) rfl rfl rfl rfl rfl (fun r h1 hp => ?_)
  obtain ⟨⟨h4, rfl⟩ | ⟨h4, rfl⟩, rfl⟩ := hp
  · refine ⟨rfl, ?_⟩
    refine ar_if_eq (pc := 7) (tgt := 19) dX7_ifPlayed_7 (by decide) (fun c7 => absurd c7 (by decide)) (fun c7 => ?_)
    refine ar_iload_n (i := 2) (pc := 10) dX7_ifPlayed_10 rfl rfl ?_
    refine ar_iconst (pc := 11) dX7_ifPlayed_11 q_iconst_0 ?_
    refine ar_iconst (pc := 12) dX7_ifPlayed_12 q_iconst_1 ?_
    refine ar_idS (pc := 13) dX7_ifPlayed_13 cal_X7_in kX7_32 rfl (sX7_inB (md_H q) w 0 1) rfl rfl rfl rfl rfl (fun r h1 hp => ?_)
    obtain ⟨⟨h13, rfl⟩ | ⟨h13, rfl⟩, rfl⟩ := hp
    · refine ⟨rfl, ?_⟩
      refine ar_if_ne (pc := 16) (tgt := 22) dX7_ifPlayed_16 (by decide) (fun c16 => ?_) (fun c16 => absurd c16 (by decide))
      refine ar_aload_n (i := 0) (pc := 22) dX7_ifPlayed_22 rfl rfl ?_
      refine ar_idV (pc := 23) dX7_ifPlayed_23 cal_X7_copies kX7_133 rfl (sX7_copies q) rfl rfl rfl rfl rfl rfl rfl (fun r h1 hp => ?_)
      obtain ⟨rfl, rfl⟩ := hp
      refine ⟨rfl, ?_⟩
      refine ar_iconst (pc := 26) dX7_ifPlayed_26 q_iconst_0 ?_
      refine ar_istore_n (i := 3) (pc := 27) dX7_ifPlayed_27 rfl (Nat.le_of_ble_eq_true rfl) rfl ?_
      refine ar_iconst (pc := 28) dX7_ifPlayed_28 q_iconst_0 ?_
      refine ar_istore (pc := 29) dX7_ifPlayed_29 (Nat.le_of_ble_eq_true rfl) rfl ?_
      have h := lX7_ifPlayed (md_H q) q z M n K R m hm w m 0 (pN z) (nI 0) (rq_T q) (cp_F (rq_S q) (rq_S q) 1 60) (by omega) (by rw [itV_0, nI_0]) (ro_move R K.2.1.1 (fun j hj => by rw [cp_F, if_pos (by omega)]; exact congrArg (rq_S q) (by omega))) (fun j hj => by rw [cp_F, if_neg (by omega)])
      rw [ru_T0, nI_0] at h
      exact ar_k0 h rfl rfl
    · refine ⟨rfl, ?_⟩
      refine ar_if_ne (pc := 16) (tgt := 22) dX7_ifPlayed_16 (by decide) (fun c16 => absurd c16 (by decide)) (fun c16 => ?_)
      refine ar_bipush (pc := 19) dX7_ifPlayed_19 q_bipush_m2 ?_
      exact absurd (in01 hw) h13
  · refine ⟨rfl, ?_⟩
    refine ar_if_eq (pc := 7) (tgt := 19) dX7_ifPlayed_7 (by decide) (fun c7 => ?_) (fun c7 => absurd c7 (by decide))
    refine ar_bipush (pc := 19) dX7_ifPlayed_19 q_bipush_m2 ?_
    exact absurd ⟨by rw [ti_1, nI_toInt (by omega)]; omega, by rw [ti_100, nI_toInt (by omega)]; omega⟩ h4

