/-! the reference asked: seen, count, lot, if it stood -/
theorem taF_cong {l : Int32} {t t' : Nat → Int32} {w s : Int32} {p : Nat} (hp : p < 12) (e : ∀ q, q < 12 → t q = t' q) : taF l t w s p = taF l t' w s p := by
  unfold taF
  rw [show wkt l t w s (pi l p) = wkt l t' w s (pi l p) from wk_cong _ (fun k hk => e _ (pi_lt (by have := pi_lt (l := l) hp; omega)))]
set_option maxHeartbeats 4000000 in
set_option maxRecDepth 100000 in
theorem lX7_highest0 (h0 : am_H) (q : RV) (n : Nat) (w : SV) (R : ro_R 0 n w (rq_S q)) (h8 : n ≤ 8) (D : di_D w n) (pl : pl_D w n) {j : Nat} (hj : stP w n j) : ∀ (d k : Nat) (most : Int32) (o5 o6 : Option Value), k + d = pi 1 (ix (vP w j)) → most = (wkt 1 (tpV w n) (vS w 0) (vS w 2) k).2 → am_RW mX7_highest h0 (am_rp (taF 1 (tpV w n) (vS w 0) (vS w 2) (ix (vP w j))) (md_H q)) 0 0 14 [some (.ref 2), some (.int (nI j)), some (.int 0), some (.int most), some (.int (nI (k))), o5, o6] [] (md_H q) := by
  have ip : inP (vP w j) := (pl j hj.1).resolve_left hj.2
  have lp : ix (vP w j) < 12 := by have := ip; unfold ix; omega
  have lk := pi_lt (l := 1) lp
  have epi : pi 1 (ix (vP w j)) = ix (vP w j) := by unfold pi; rfl
  intro d
  induction d with
  | zero =>
    intro k most o5 o6 hk eh
    have e : k = pi 1 (ix (vP w j)) := by omega
    subst e
    refine ar_iload (pc := 14) dX7_highest_14 rfl ?_
    refine ar_aload_n (i := 0) (pc := 16) dX7_highest_16 rfl rfl ?_
    refine ar_iload_n (i := 1) (pc := 17) dX7_highest_17 rfl rfl ?_
    refine ar_iconst (pc := 18) dX7_highest_18 q_iconst_1 ?_
    refine ar_idV (pc := 19) dX7_highest_19 cal_X7_its kX7_103 rfl (sX7_its1 q (show j < 8 by have := hj.1; omega)) rfl rfl rfl rfl rfl rfl rfl (fun r h1 hp => ?_)
    obtain ⟨rfl, rfl⟩ := hp
    refine ⟨rfl, ?_⟩
    rw [show rq_S q (20 + 5 * j + 1) = nI (ix (vP w j)) by have h := roP R hj.1; rw [Nat.zero_add, pm_s hj.2] at h; exact h.trans (ix_eq ip.1)]
    refine ar_icmp_eq (pc := 22) (tgt := 84) dX7_highest_22 (by decide) (fun c22 => ?_) (fun c22 => absurd (congrArg nI (by rw [epi])) c22)
    refine ar_iload_n (i := 3) (pc := 84) dX7_highest_84 rfl rfl ?_
    exact ar_iret (pc := 85) dX7_highest_85 rfl rfl rfl ⟨by rw [eh]; rfl, rfl⟩
  | succ d ih =>
    intro k most o5 o6 hk eh
    have hk12 : k < 12 := by omega
    have hba := sX7_boothAt0 q n w R h8 (pi 1 k) (pi_lt hk12)
    rw [show nI (pi 1 k) = nI (k) by unfold pi; rfl] at hba
    cases eo : ffi (atQ w n (nI (pi 1 k))) 8 0 with
    | none =>
      rw [show ffi (atQ w n (nI (k))) 8 0 = none from eo] at hba
      refine ar_iload (pc := 14) dX7_highest_14 rfl ?_
      refine ar_aload_n (i := 0) (pc := 16) dX7_highest_16 rfl rfl ?_
      refine ar_iload_n (i := 1) (pc := 17) dX7_highest_17 rfl rfl ?_
      refine ar_iconst (pc := 18) dX7_highest_18 q_iconst_1 ?_
      refine ar_idV (pc := 19) dX7_highest_19 cal_X7_its kX7_103 rfl (sX7_its1 q (show j < 8 by have := hj.1; omega)) rfl rfl rfl rfl rfl rfl rfl (fun r h1 hp => ?_)
      obtain ⟨rfl, rfl⟩ := hp
      refine ⟨rfl, ?_⟩
      rw [show rq_S q (20 + 5 * j + 1) = nI (ix (vP w j)) by have h := roP R hj.1; rw [Nat.zero_add, pm_s hj.2] at h; exact h.trans (ix_eq ip.1)]
      refine ar_icmp_eq (pc := 22) (tgt := 84) dX7_highest_22 (by decide) (fun c22 => absurd ((nI_eq (by omega) (by omega)).mp c22) (by omega)) (fun c22 => ?_)
      refine ar_aload_n (i := 0) (pc := 25) dX7_highest_25 rfl rfl ?_
      refine ar_iconst (pc := 26) dX7_highest_26 q_iconst_0 ?_
      refine ar_iload (pc := 27) dX7_highest_27 rfl ?_
      refine ar_idV (pc := 29) dX7_highest_29 cal_X7_boothAt kX7_44 rfl (hba) rfl rfl rfl rfl rfl rfl rfl (fun r h1 hp => ?_)
      obtain ⟨rfl, rfl⟩ := hp
      refine ⟨rfl, ?_⟩
      refine ar_istore (pc := 32) dX7_highest_32 (Nat.le_of_ble_eq_true rfl) rfl ?_
      refine ar_iload (pc := 34) dX7_highest_34 rfl ?_
      refine ar_bipush (pc := 36) dX7_highest_36 q_bipush_m6 ?_
      refine ar_icmp_ne (pc := 38) (tgt := 45) dX7_highest_38 (by decide) (fun c38 => absurd rfl c38) (fun c38 => ?_)
      refine ar_iconst (pc := 41) dX7_highest_41 q_iconst_0 ?_
      refine ar_goto (tgt := 52) (pc := 42) dX7_highest_42 (by decide) ?_
      refine ar_istore (pc := 52) dX7_highest_52 (Nat.le_of_ble_eq_true rfl) rfl ?_
      refine ar_iload (pc := 54) dX7_highest_54 rfl ?_
      refine ar_iload_n (i := 3) (pc := 56) dX7_highest_56 rfl rfl ?_
      refine ar_icmp_le (pc := 57) (tgt := 65) dX7_highest_57 (by decide) (fun c57 => ?_) (fun c57 => absurd (by rw [eh]; exact wk_nn k) c57)
      refine ar_iload_n (i := 3) (pc := 65) dX7_highest_65 rfl rfl ?_
      refine ar_istore_n (i := 3) (pc := 66) dX7_highest_66 rfl (Nat.le_of_ble_eq_true rfl) rfl ?_
      refine ar_iload (pc := 67) dX7_highest_67 rfl ?_
      refine ar_iload_n (i := 2) (pc := 69) dX7_highest_69 rfl rfl ?_
      refine ar_if_ne (pc := 70) (tgt := 77) dX7_highest_70 (by decide) (fun c70 => absurd rfl c70) (fun c70 => ?_)
      refine ar_iconst (pc := 73) dX7_highest_73 q_iconst_1 ?_
      refine ar_goto (tgt := 78) (pc := 74) dX7_highest_74 (by decide) ?_
      refine ar_iadd (pc := 78) dX7_highest_78 ?_
      rw [nI_1]
      refine ar_istore (pc := 79) dX7_highest_79 (Nat.le_of_ble_eq_true rfl) rfl ?_
      refine ar_goto (tgt := 14) (pc := 81) dX7_highest_81 (by decide) ?_
      obtain ⟨-, f2⟩ := wk_n (t := fun k => tpV w n (pi 1 k)) rfl eh (show (0 : Int32) = tpV w n (pi 1 k) by unfold tpV; rw [eo]) (Int32.not_lt.mpr c57)
      exact ih (k + 1) most _ _ (by omega) f2
    | some b =>
      obtain ⟨-, hb8, hat, -⟩ := ffi_spec 8 0 b eo
      obtain ⟨hbn, hpb⟩ := atQ_s hat
      rw [show ffi (atQ w n (nI (k))) 8 0 = some b from eo, show o2i (some b) = nI b from rfl] at hba
      refine ar_iload (pc := 14) dX7_highest_14 rfl ?_
      refine ar_aload_n (i := 0) (pc := 16) dX7_highest_16 rfl rfl ?_
      refine ar_iload_n (i := 1) (pc := 17) dX7_highest_17 rfl rfl ?_
      refine ar_iconst (pc := 18) dX7_highest_18 q_iconst_1 ?_
      refine ar_idV (pc := 19) dX7_highest_19 cal_X7_its kX7_103 rfl (sX7_its1 q (show j < 8 by have := hj.1; omega)) rfl rfl rfl rfl rfl rfl rfl (fun r h1 hp => ?_)
      obtain ⟨rfl, rfl⟩ := hp
      refine ⟨rfl, ?_⟩
      rw [show rq_S q (20 + 5 * j + 1) = nI (ix (vP w j)) by have h := roP R hj.1; rw [Nat.zero_add, pm_s hj.2] at h; exact h.trans (ix_eq ip.1)]
      refine ar_icmp_eq (pc := 22) (tgt := 84) dX7_highest_22 (by decide) (fun c22 => absurd ((nI_eq (by omega) (by omega)).mp c22) (by omega)) (fun c22 => ?_)
      refine ar_aload_n (i := 0) (pc := 25) dX7_highest_25 rfl rfl ?_
      refine ar_iconst (pc := 26) dX7_highest_26 q_iconst_0 ?_
      refine ar_iload (pc := 27) dX7_highest_27 rfl ?_
      refine ar_idV (pc := 29) dX7_highest_29 cal_X7_boothAt kX7_44 rfl (hba) rfl rfl rfl rfl rfl rfl rfl (fun r h1 hp => ?_)
      obtain ⟨rfl, rfl⟩ := hp
      refine ⟨rfl, ?_⟩
      refine ar_istore (pc := 32) dX7_highest_32 (Nat.le_of_ble_eq_true rfl) rfl ?_
      refine ar_iload (pc := 34) dX7_highest_34 rfl ?_
      refine ar_bipush (pc := 36) dX7_highest_36 q_bipush_m6 ?_
      refine ar_icmp_ne (pc := 38) (tgt := 45) dX7_highest_38 (by decide) (fun c38 => ?_) (fun c38 => absurd c38 (nI_m6 (q := b) (by omega)))
      refine ar_aload_n (i := 0) (pc := 45) dX7_highest_45 rfl rfl ?_
      refine ar_iload (pc := 46) dX7_highest_46 rfl ?_
      refine ar_iconst (pc := 48) dX7_highest_48 q_iconst_0 ?_
      refine ar_idV (pc := 49) dX7_highest_49 cal_X7_its kX7_103 rfl (sX7_its0 q (show b < 8 by omega)) rfl rfl rfl rfl rfl rfl rfl (fun r h1 hp => ?_)
      obtain ⟨rfl, rfl⟩ := hp
      refine ⟨rfl, ?_⟩
      rw [show rq_S q (20 + 5 * b) = vH w b by have h := roH R hbn; rw [Nat.zero_add] at h; exact h]
      refine ar_istore (pc := 52) dX7_highest_52 (Nat.le_of_ble_eq_true rfl) rfl ?_
      refine ar_iload (pc := 54) dX7_highest_54 rfl ?_
      refine ar_iload_n (i := 3) (pc := 56) dX7_highest_56 rfl rfl ?_
      refine ar_icmp_le (pc := 57) (tgt := 65) dX7_highest_57 (by decide) (fun c57 => ?_) (fun c57 => ?_)
      · refine ar_iload_n (i := 3) (pc := 65) dX7_highest_65 rfl rfl ?_
        refine ar_istore_n (i := 3) (pc := 66) dX7_highest_66 rfl (Nat.le_of_ble_eq_true rfl) rfl ?_
        refine ar_iload (pc := 67) dX7_highest_67 rfl ?_
        refine ar_iload_n (i := 2) (pc := 69) dX7_highest_69 rfl rfl ?_
        refine ar_if_ne (pc := 70) (tgt := 77) dX7_highest_70 (by decide) (fun c70 => absurd rfl c70) (fun c70 => ?_)
        refine ar_iconst (pc := 73) dX7_highest_73 q_iconst_1 ?_
        refine ar_goto (tgt := 78) (pc := 74) dX7_highest_74 (by decide) ?_
        refine ar_iadd (pc := 78) dX7_highest_78 ?_
        rw [nI_1]
        refine ar_istore (pc := 79) dX7_highest_79 (Nat.le_of_ble_eq_true rfl) rfl ?_
        refine ar_goto (tgt := 14) (pc := 81) dX7_highest_81 (by decide) ?_
        obtain ⟨-, f2⟩ := wk_n (t := fun k => tpV w n (pi 1 k)) rfl eh (show vH w b = tpV w n (pi 1 k) by unfold tpV; rw [eo]) (Int32.not_lt.mpr c57)
        exact ih (k + 1) most _ _ (by omega) f2
      · refine ar_iload (pc := 60) dX7_highest_60 rfl ?_
        refine ar_goto (tgt := 66) (pc := 62) dX7_highest_62 (by decide) ?_
        refine ar_istore_n (i := 3) (pc := 66) dX7_highest_66 rfl (Nat.le_of_ble_eq_true rfl) rfl ?_
        refine ar_iload (pc := 67) dX7_highest_67 rfl ?_
        refine ar_iload_n (i := 2) (pc := 69) dX7_highest_69 rfl rfl ?_
        refine ar_if_ne (pc := 70) (tgt := 77) dX7_highest_70 (by decide) (fun c70 => absurd rfl c70) (fun c70 => ?_)
        refine ar_iconst (pc := 73) dX7_highest_73 q_iconst_1 ?_
        refine ar_goto (tgt := 78) (pc := 74) dX7_highest_74 (by decide) ?_
        refine ar_iadd (pc := 78) dX7_highest_78 ?_
        rw [nI_1]
        refine ar_istore (pc := 79) dX7_highest_79 (Nat.le_of_ble_eq_true rfl) rfl ?_
        refine ar_goto (tgt := 14) (pc := 81) dX7_highest_81 (by decide) ?_
        obtain ⟨-, f2⟩ := wk_y (t := fun k => tpV w n (pi 1 k)) rfl eh (show vH w b = tpV w n (pi 1 k) by unfold tpV; rw [eo]) (Int32.not_le.mp c57)
        exact ih (k + 1) _ _ _ (by omega) f2
set_option maxHeartbeats 4000000 in
set_option maxRecDepth 100000 in
theorem sX7_highest0 (q : RV) (n : Nat) (w : SV) (R : ro_R 0 n w (rq_S q)) (h8 : n ≤ 8) (D : di_D w n) (pl : pl_D w n) {j : Nat} (hj : stP w n j) : am_Sp mX7_highest [.ref 2, .int (nI j), .int 0] (md_H q) (am_rp (taF 1 (tpV w n) (vS w 0) (vS w 2) (ix (vP w j))) (md_H q)) := by
  refine am_intro (by decide) (Nat.le_of_ble_eq_true rfl) ?_
  refine ar_iconst (pc := 0) dX7_highest_0 q_iconst_0 ?_
  refine ar_istore_n (i := 3) (pc := 1) dX7_highest_1 rfl (Nat.le_of_ble_eq_true rfl) rfl ?_
  refine ar_iload_n (i := 2) (pc := 2) dX7_highest_2 rfl rfl ?_
  refine ar_if_ne (pc := 3) (tgt := 10) dX7_highest_3 (by decide) (fun c3 => absurd rfl c3) (fun c3 => ?_)
  refine ar_iconst (pc := 6) dX7_highest_6 q_iconst_0 ?_
  refine ar_goto (tgt := 12) (pc := 7) dX7_highest_7 (by decide) ?_
  refine ar_istore (pc := 12) dX7_highest_12 (Nat.le_of_ble_eq_true rfl) rfl ?_
  rw [← nI_0]
  exact lX7_highest0 _ q n w R h8 D pl hj (pi 1 (ix (vP w j))) 0 (nI 0) _ _ (by omega) nI_0

set_option maxHeartbeats 4000000 in
set_option maxRecDepth 100000 in
theorem lX7_highest1 (h0 : am_H) (q : RV) (n : Nat) (w : SV) (R : ro_R 0 n w (rq_S q)) (h8 : n ≤ 8) (D : di_D w n) (pl : pl_D w n) {j : Nat} (hj : stP w n j) : ∀ (d k : Nat) (most : Int32) (o5 o6 : Option Value), k + d = pi 0 (ix (vP w j)) → most = (wkt 0 (tpV w n) (vS w 1) (vS w 2) k).2 → am_RW mX7_highest h0 (am_rp (taF 0 (tpV w n) (vS w 1) (vS w 2) (ix (vP w j))) (md_H q)) 0 0 14 [some (.ref 2), some (.int (nI j)), some (.int 1), some (.int most), some (.int (nI (11 - (k)))), o5, o6] [] (md_H q) := by
  have ip : inP (vP w j) := (pl j hj.1).resolve_left hj.2
  have lp : ix (vP w j) < 12 := by have := ip; unfold ix; omega
  have lk := pi_lt (l := 0) lp
  have epi : pi 0 (ix (vP w j)) = 11 - ix (vP w j) := by unfold pi; rfl
  intro d
  induction d with
  | zero =>
    intro k most o5 o6 hk eh
    have e : k = pi 0 (ix (vP w j)) := by omega
    subst e
    refine ar_iload (pc := 14) dX7_highest_14 rfl ?_
    refine ar_aload_n (i := 0) (pc := 16) dX7_highest_16 rfl rfl ?_
    refine ar_iload_n (i := 1) (pc := 17) dX7_highest_17 rfl rfl ?_
    refine ar_iconst (pc := 18) dX7_highest_18 q_iconst_1 ?_
    refine ar_idV (pc := 19) dX7_highest_19 cal_X7_its kX7_103 rfl (sX7_its1 q (show j < 8 by have := hj.1; omega)) rfl rfl rfl rfl rfl rfl rfl (fun r h1 hp => ?_)
    obtain ⟨rfl, rfl⟩ := hp
    refine ⟨rfl, ?_⟩
    rw [show rq_S q (20 + 5 * j + 1) = nI (ix (vP w j)) by have h := roP R hj.1; rw [Nat.zero_add, pm_s hj.2] at h; exact h.trans (ix_eq ip.1)]
    refine ar_icmp_eq (pc := 22) (tgt := 84) dX7_highest_22 (by decide) (fun c22 => ?_) (fun c22 => absurd (congrArg nI (by rw [epi]; omega)) c22)
    refine ar_iload_n (i := 3) (pc := 84) dX7_highest_84 rfl rfl ?_
    exact ar_iret (pc := 85) dX7_highest_85 rfl rfl rfl ⟨by rw [eh]; rfl, rfl⟩
  | succ d ih =>
    intro k most o5 o6 hk eh
    have hk12 : k < 12 := by omega
    have hba := sX7_boothAt0 q n w R h8 (pi 0 k) (pi_lt hk12)
    rw [show nI (pi 0 k) = nI (11 - (k)) by unfold pi; rfl] at hba
    cases eo : ffi (atQ w n (nI (pi 0 k))) 8 0 with
    | none =>
      rw [show ffi (atQ w n (nI (11 - (k)))) 8 0 = none from eo] at hba
      refine ar_iload (pc := 14) dX7_highest_14 rfl ?_
      refine ar_aload_n (i := 0) (pc := 16) dX7_highest_16 rfl rfl ?_
      refine ar_iload_n (i := 1) (pc := 17) dX7_highest_17 rfl rfl ?_
      refine ar_iconst (pc := 18) dX7_highest_18 q_iconst_1 ?_
      refine ar_idV (pc := 19) dX7_highest_19 cal_X7_its kX7_103 rfl (sX7_its1 q (show j < 8 by have := hj.1; omega)) rfl rfl rfl rfl rfl rfl rfl (fun r h1 hp => ?_)
      obtain ⟨rfl, rfl⟩ := hp
      refine ⟨rfl, ?_⟩
      rw [show rq_S q (20 + 5 * j + 1) = nI (ix (vP w j)) by have h := roP R hj.1; rw [Nat.zero_add, pm_s hj.2] at h; exact h.trans (ix_eq ip.1)]
      refine ar_icmp_eq (pc := 22) (tgt := 84) dX7_highest_22 (by decide) (fun c22 => absurd ((nI_eq (by omega) (by omega)).mp c22) (by omega)) (fun c22 => ?_)
      refine ar_aload_n (i := 0) (pc := 25) dX7_highest_25 rfl rfl ?_
      refine ar_iconst (pc := 26) dX7_highest_26 q_iconst_0 ?_
      refine ar_iload (pc := 27) dX7_highest_27 rfl ?_
      refine ar_idV (pc := 29) dX7_highest_29 cal_X7_boothAt kX7_44 rfl (hba) rfl rfl rfl rfl rfl rfl rfl (fun r h1 hp => ?_)
      obtain ⟨rfl, rfl⟩ := hp
      refine ⟨rfl, ?_⟩
      refine ar_istore (pc := 32) dX7_highest_32 (Nat.le_of_ble_eq_true rfl) rfl ?_
      refine ar_iload (pc := 34) dX7_highest_34 rfl ?_
      refine ar_bipush (pc := 36) dX7_highest_36 q_bipush_m6 ?_
      refine ar_icmp_ne (pc := 38) (tgt := 45) dX7_highest_38 (by decide) (fun c38 => absurd rfl c38) (fun c38 => ?_)
      refine ar_iconst (pc := 41) dX7_highest_41 q_iconst_0 ?_
      refine ar_goto (tgt := 52) (pc := 42) dX7_highest_42 (by decide) ?_
      refine ar_istore (pc := 52) dX7_highest_52 (Nat.le_of_ble_eq_true rfl) rfl ?_
      refine ar_iload (pc := 54) dX7_highest_54 rfl ?_
      refine ar_iload_n (i := 3) (pc := 56) dX7_highest_56 rfl rfl ?_
      refine ar_icmp_le (pc := 57) (tgt := 65) dX7_highest_57 (by decide) (fun c57 => ?_) (fun c57 => absurd (by rw [eh]; exact wk_nn k) c57)
      refine ar_iload_n (i := 3) (pc := 65) dX7_highest_65 rfl rfl ?_
      refine ar_istore_n (i := 3) (pc := 66) dX7_highest_66 rfl (Nat.le_of_ble_eq_true rfl) rfl ?_
      refine ar_iload (pc := 67) dX7_highest_67 rfl ?_
      refine ar_iload_n (i := 2) (pc := 69) dX7_highest_69 rfl rfl ?_
      refine ar_if_ne (pc := 70) (tgt := 77) dX7_highest_70 (by decide) (fun c70 => ?_) (fun c70 => absurd c70 (by decide))
      refine ar_iconst (pc := 77) dX7_highest_77 q_iconst_m1 ?_
      refine ar_iadd (pc := 78) dX7_highest_78 ?_
      rw [show nI (11 - k) + (-1) = nI (11 - (k + 1)) by obtain ⟨c, hc⟩ : ∃ c, 11 - k = c + 1 := ⟨10 - k, by omega⟩; rw [hc, pk_m1]; exact congrArg nI (by omega)]
      refine ar_istore (pc := 79) dX7_highest_79 (Nat.le_of_ble_eq_true rfl) rfl ?_
      refine ar_goto (tgt := 14) (pc := 81) dX7_highest_81 (by decide) ?_
      obtain ⟨-, f2⟩ := wk_n (t := fun k => tpV w n (pi 0 k)) rfl eh (show (0 : Int32) = tpV w n (pi 0 k) by unfold tpV; rw [eo]) (Int32.not_lt.mpr c57)
      exact ih (k + 1) most _ _ (by omega) f2
    | some b =>
      obtain ⟨-, hb8, hat, -⟩ := ffi_spec 8 0 b eo
      obtain ⟨hbn, hpb⟩ := atQ_s hat
      rw [show ffi (atQ w n (nI (11 - (k)))) 8 0 = some b from eo, show o2i (some b) = nI b from rfl] at hba
      refine ar_iload (pc := 14) dX7_highest_14 rfl ?_
      refine ar_aload_n (i := 0) (pc := 16) dX7_highest_16 rfl rfl ?_
      refine ar_iload_n (i := 1) (pc := 17) dX7_highest_17 rfl rfl ?_
      refine ar_iconst (pc := 18) dX7_highest_18 q_iconst_1 ?_
      refine ar_idV (pc := 19) dX7_highest_19 cal_X7_its kX7_103 rfl (sX7_its1 q (show j < 8 by have := hj.1; omega)) rfl rfl rfl rfl rfl rfl rfl (fun r h1 hp => ?_)
      obtain ⟨rfl, rfl⟩ := hp
      refine ⟨rfl, ?_⟩
      rw [show rq_S q (20 + 5 * j + 1) = nI (ix (vP w j)) by have h := roP R hj.1; rw [Nat.zero_add, pm_s hj.2] at h; exact h.trans (ix_eq ip.1)]
      refine ar_icmp_eq (pc := 22) (tgt := 84) dX7_highest_22 (by decide) (fun c22 => absurd ((nI_eq (by omega) (by omega)).mp c22) (by omega)) (fun c22 => ?_)
      refine ar_aload_n (i := 0) (pc := 25) dX7_highest_25 rfl rfl ?_
      refine ar_iconst (pc := 26) dX7_highest_26 q_iconst_0 ?_
      refine ar_iload (pc := 27) dX7_highest_27 rfl ?_
      refine ar_idV (pc := 29) dX7_highest_29 cal_X7_boothAt kX7_44 rfl (hba) rfl rfl rfl rfl rfl rfl rfl (fun r h1 hp => ?_)
      obtain ⟨rfl, rfl⟩ := hp
      refine ⟨rfl, ?_⟩
      refine ar_istore (pc := 32) dX7_highest_32 (Nat.le_of_ble_eq_true rfl) rfl ?_
      refine ar_iload (pc := 34) dX7_highest_34 rfl ?_
      refine ar_bipush (pc := 36) dX7_highest_36 q_bipush_m6 ?_
      refine ar_icmp_ne (pc := 38) (tgt := 45) dX7_highest_38 (by decide) (fun c38 => ?_) (fun c38 => absurd c38 (nI_m6 (q := b) (by omega)))
      refine ar_aload_n (i := 0) (pc := 45) dX7_highest_45 rfl rfl ?_
      refine ar_iload (pc := 46) dX7_highest_46 rfl ?_
      refine ar_iconst (pc := 48) dX7_highest_48 q_iconst_0 ?_
      refine ar_idV (pc := 49) dX7_highest_49 cal_X7_its kX7_103 rfl (sX7_its0 q (show b < 8 by omega)) rfl rfl rfl rfl rfl rfl rfl (fun r h1 hp => ?_)
      obtain ⟨rfl, rfl⟩ := hp
      refine ⟨rfl, ?_⟩
      rw [show rq_S q (20 + 5 * b) = vH w b by have h := roH R hbn; rw [Nat.zero_add] at h; exact h]
      refine ar_istore (pc := 52) dX7_highest_52 (Nat.le_of_ble_eq_true rfl) rfl ?_
      refine ar_iload (pc := 54) dX7_highest_54 rfl ?_
      refine ar_iload_n (i := 3) (pc := 56) dX7_highest_56 rfl rfl ?_
      refine ar_icmp_le (pc := 57) (tgt := 65) dX7_highest_57 (by decide) (fun c57 => ?_) (fun c57 => ?_)
      · refine ar_iload_n (i := 3) (pc := 65) dX7_highest_65 rfl rfl ?_
        refine ar_istore_n (i := 3) (pc := 66) dX7_highest_66 rfl (Nat.le_of_ble_eq_true rfl) rfl ?_
        refine ar_iload (pc := 67) dX7_highest_67 rfl ?_
        refine ar_iload_n (i := 2) (pc := 69) dX7_highest_69 rfl rfl ?_
        refine ar_if_ne (pc := 70) (tgt := 77) dX7_highest_70 (by decide) (fun c70 => ?_) (fun c70 => absurd c70 (by decide))
        refine ar_iconst (pc := 77) dX7_highest_77 q_iconst_m1 ?_
        refine ar_iadd (pc := 78) dX7_highest_78 ?_
        rw [show nI (11 - k) + (-1) = nI (11 - (k + 1)) by obtain ⟨c, hc⟩ : ∃ c, 11 - k = c + 1 := ⟨10 - k, by omega⟩; rw [hc, pk_m1]; exact congrArg nI (by omega)]
        refine ar_istore (pc := 79) dX7_highest_79 (Nat.le_of_ble_eq_true rfl) rfl ?_
        refine ar_goto (tgt := 14) (pc := 81) dX7_highest_81 (by decide) ?_
        obtain ⟨-, f2⟩ := wk_n (t := fun k => tpV w n (pi 0 k)) rfl eh (show vH w b = tpV w n (pi 0 k) by unfold tpV; rw [eo]) (Int32.not_lt.mpr c57)
        exact ih (k + 1) most _ _ (by omega) f2
      · refine ar_iload (pc := 60) dX7_highest_60 rfl ?_
        refine ar_goto (tgt := 66) (pc := 62) dX7_highest_62 (by decide) ?_
        refine ar_istore_n (i := 3) (pc := 66) dX7_highest_66 rfl (Nat.le_of_ble_eq_true rfl) rfl ?_
        refine ar_iload (pc := 67) dX7_highest_67 rfl ?_
        refine ar_iload_n (i := 2) (pc := 69) dX7_highest_69 rfl rfl ?_
        refine ar_if_ne (pc := 70) (tgt := 77) dX7_highest_70 (by decide) (fun c70 => ?_) (fun c70 => absurd c70 (by decide))
        refine ar_iconst (pc := 77) dX7_highest_77 q_iconst_m1 ?_
        refine ar_iadd (pc := 78) dX7_highest_78 ?_
        rw [show nI (11 - k) + (-1) = nI (11 - (k + 1)) by obtain ⟨c, hc⟩ : ∃ c, 11 - k = c + 1 := ⟨10 - k, by omega⟩; rw [hc, pk_m1]; exact congrArg nI (by omega)]
        refine ar_istore (pc := 79) dX7_highest_79 (Nat.le_of_ble_eq_true rfl) rfl ?_
        refine ar_goto (tgt := 14) (pc := 81) dX7_highest_81 (by decide) ?_
        obtain ⟨-, f2⟩ := wk_y (t := fun k => tpV w n (pi 0 k)) rfl eh (show vH w b = tpV w n (pi 0 k) by unfold tpV; rw [eo]) (Int32.not_le.mp c57)
        exact ih (k + 1) _ _ _ (by omega) f2
set_option maxHeartbeats 4000000 in
set_option maxRecDepth 100000 in
theorem sX7_highest1 (q : RV) (n : Nat) (w : SV) (R : ro_R 0 n w (rq_S q)) (h8 : n ≤ 8) (D : di_D w n) (pl : pl_D w n) {j : Nat} (hj : stP w n j) : am_Sp mX7_highest [.ref 2, .int (nI j), .int 1] (md_H q) (am_rp (taF 0 (tpV w n) (vS w 1) (vS w 2) (ix (vP w j))) (md_H q)) := by
  refine am_intro (by decide) (Nat.le_of_ble_eq_true rfl) ?_
  refine ar_iconst (pc := 0) dX7_highest_0 q_iconst_0 ?_
  refine ar_istore_n (i := 3) (pc := 1) dX7_highest_1 rfl (Nat.le_of_ble_eq_true rfl) rfl ?_
  refine ar_iload_n (i := 2) (pc := 2) dX7_highest_2 rfl rfl ?_
  refine ar_if_ne (pc := 3) (tgt := 10) dX7_highest_3 (by decide) (fun c3 => ?_) (fun c3 => absurd c3 (by decide))
  refine ar_bipush (pc := 10) dX7_highest_10 q_bipush_11 ?_
  refine ar_istore (pc := 12) dX7_highest_12 (Nat.le_of_ble_eq_true rfl) rfl ?_
  exact lX7_highest1 _ q n w R h8 D pl hj (pi 0 (ix (vP w j))) 0 0 _ _ (by omega) rfl

set_option maxHeartbeats 4000000 in
set_option maxRecDepth 100000 in
theorem sX7_seen_n (q : RV) (z : PV) (M : mr_R z q) (n : Nat) (K : ok_D (pN z) n) (R : ro_R 0 n (pN z) (rq_S q)) (b s y : Int32) (hb : ¬ bkP n b) : am_Sp mX7_seen [.ref 2, .int b, .int s, .int y] (md_H q) (qq_P (-1) (z)) := by
  refine am_intro (by decide) (Nat.le_of_ble_eq_true rfl) ?_
  refine ar_aload_n (i := 0) (pc := 0) dX7_seen_0 rfl rfl ?_
  refine ar_iload_n (i := 1) (pc := 1) dX7_seen_1 rfl rfl ?_
  refine ar_idV (pc := 2) dX7_seen_2 cal_X7_isBooth kX7_100 rfl (sX7_isBooth q n (show rq_S q 7 = nI n by have h := roN R; rw [Nat.zero_add] at h; exact h) K.2.1.1 _) rfl rfl rfl rfl rfl rfl rfl (fun r h1 hp => ?_)
  obtain ⟨⟨h2, rfl⟩ | ⟨h2, rfl⟩, rfl⟩ := hp
  · refine ⟨rfl, ?_⟩
    refine ar_if_ne (pc := 5) (tgt := 10) dX7_seen_5 (by decide) (fun c5 => ?_) (fun c5 => absurd c5 (by decide))
    exact absurd h2 hb
  · refine ⟨rfl, ?_⟩
    refine ar_if_ne (pc := 5) (tgt := 10) dX7_seen_5 (by decide) (fun c5 => absurd c5 (by decide)) (fun c5 => ?_)
    refine ar_iconst (pc := 8) dX7_seen_8 q_iconst_m1 ?_
    exact ar_iret (pc := 9) dX7_seen_9 rfl rfl rfl ⟨rfl, q, rfl, M⟩

theorem hd_x {v : SV} {n j : Nat} {l : Int32} (hs : stP v n j) (h : ∃ i, i < n ∧ hdP v n i j l) (h8 : n ≤ 8) : ∃ i, i < 8 ∧ i ≠ j ∧ hdP v n i j l := by
  obtain ⟨i, h1, h2⟩ := h
  refine ⟨i, by omega, fun e => ?_, h2⟩
  subst e
  by_cases c : l = 0
  · exact Int32.lt_irrefl (h2.2.2.2.2 c)
  · exact Int32.lt_irrefl (h2.2.2.2.1 c)
theorem hd_y {v : SV} {n j : Nat} {l : Int32} (h : ∃ i, i < 8 ∧ i ≠ j ∧ hdP v n i j l) : ∃ i, i < n ∧ hdP v n i j l := by
  obtain ⟨i, h1, h2, h3⟩ := h
  exact ⟨i, h3.1.1, h3⟩
theorem in01 {s : Int32} (h : s = 0 ∨ s = 1) : (0 : Int32).toInt ≤ s.toInt ∧ s.toInt ≤ (1 : Int32).toInt := by
  rcases h with h | h <;> subst h <;> decide +kernel
theorem in01' {s : Int32} (h : (0 : Int32).toInt ≤ s.toInt ∧ s.toInt ≤ (1 : Int32).toInt) : s = 0 ∨ s = 1 := by
  rw [ti_0, ti_1] at h
  rcases (show s.toInt = 0 ∨ s.toInt = 1 by omega) with e | e
  · exact Or.inl (Int32.toInt_inj.mp (by rw [e, ti_0]))
  · exact Or.inr (Int32.toInt_inj.mp (by rw [e, ti_1]))
set_option maxHeartbeats 4000000 in
set_option maxRecDepth 100000 in
theorem sX7_seen_o (q : RV) (z : PV) (M : mr_R z q) (n : Nat) (K : ok_D (pN z) n) (R : ro_R 0 n (pN z) (rq_S q)) {j : Nat} (hj : j < n) (s y : Int32) (ho : (¬ s = 0 ∧ ¬ s = 1) ∨ (¬ y = 0 ∧ ¬ y = 1)) : am_Sp mX7_seen [.ref 2, .int (nI j), .int s, .int y] (md_H q) (qq_P (-2) (z)) := by
  refine am_intro (by decide) (Nat.le_of_ble_eq_true rfl) ?_
  refine ar_aload_n (i := 0) (pc := 0) dX7_seen_0 rfl rfl ?_
  refine ar_iload_n (i := 1) (pc := 1) dX7_seen_1 rfl rfl ?_
  refine ar_idV (pc := 2) dX7_seen_2 cal_X7_isBooth kX7_100 rfl (sX7_isBooth q n (show rq_S q 7 = nI n by have h := roN R; rw [Nat.zero_add] at h; exact h) K.2.1.1 _) rfl rfl rfl rfl rfl rfl rfl (fun r h1 hp => ?_)
  obtain ⟨⟨h2, rfl⟩ | ⟨h2, rfl⟩, rfl⟩ := hp
  · refine ⟨rfl, ?_⟩
    refine ar_if_ne (pc := 5) (tgt := 10) dX7_seen_5 (by decide) (fun c5 => ?_) (fun c5 => absurd c5 (by decide))
    refine ar_iload_n (i := 2) (pc := 10) dX7_seen_10 rfl rfl ?_
    refine ar_iconst (pc := 11) dX7_seen_11 q_iconst_0 ?_
    refine ar_iconst (pc := 12) dX7_seen_12 q_iconst_1 ?_
    refine ar_idS (pc := 13) dX7_seen_13 cal_X7_in kX7_32 rfl (sX7_inB (md_H q) s 0 1) rfl rfl rfl rfl rfl (fun r h1 hp => ?_)
    obtain ⟨⟨h13, rfl⟩ | ⟨h13, rfl⟩, rfl⟩ := hp
    · refine ⟨rfl, ?_⟩
      refine ar_if_eq (pc := 16) (tgt := 28) dX7_seen_16 (by decide) (fun c16 => absurd c16 (by decide)) (fun c16 => ?_)
      refine ar_iload_n (i := 3) (pc := 19) dX7_seen_19 rfl rfl ?_
      refine ar_iconst (pc := 20) dX7_seen_20 q_iconst_0 ?_
      refine ar_iconst (pc := 21) dX7_seen_21 q_iconst_1 ?_
      refine ar_idS (pc := 22) dX7_seen_22 cal_X7_in kX7_32 rfl (sX7_inB (md_H q) y 0 1) rfl rfl rfl rfl rfl (fun r h1 hp => ?_)
      obtain ⟨⟨h22, rfl⟩ | ⟨h22, rfl⟩, rfl⟩ := hp
      · refine ⟨rfl, ?_⟩
        refine ar_if_ne (pc := 25) (tgt := 31) dX7_seen_25 (by decide) (fun c25 => ?_) (fun c25 => absurd c25 (by decide))
        exact False.elim (ho.elim (fun e => (in01' h13).elim e.1 e.2) (fun e => (in01' h22).elim e.1 e.2))
      · refine ⟨rfl, ?_⟩
        refine ar_if_ne (pc := 25) (tgt := 31) dX7_seen_25 (by decide) (fun c25 => absurd c25 (by decide)) (fun c25 => ?_)
        refine ar_bipush (pc := 28) dX7_seen_28 q_bipush_m2 ?_
        exact ar_iret (pc := 30) dX7_seen_30 rfl rfl rfl ⟨rfl, q, rfl, M⟩
    · refine ⟨rfl, ?_⟩
      refine ar_if_eq (pc := 16) (tgt := 28) dX7_seen_16 (by decide) (fun c16 => ?_) (fun c16 => absurd c16 (by decide))
      refine ar_bipush (pc := 28) dX7_seen_28 q_bipush_m2 ?_
      exact ar_iret (pc := 30) dX7_seen_30 rfl rfl rfl ⟨rfl, q, rfl, M⟩
  · refine ⟨rfl, ?_⟩
    refine ar_if_ne (pc := 5) (tgt := 10) dX7_seen_5 (by decide) (fun c5 => absurd c5 (by decide)) (fun c5 => ?_)
    refine ar_iconst (pc := 8) dX7_seen_8 q_iconst_m1 ?_
    exact absurd (bk_j K.2.1.1 hj) h2

set_option maxHeartbeats 4000000 in
set_option maxRecDepth 100000 in
theorem sX7_seen_z (q : RV) (z : PV) (M : mr_R z q) (n : Nat) (K : ok_D (pN z) n) (R : ro_R 0 n (pN z) (rq_S q)) {j : Nat} (hj : j < n) (hs : ¬ stP (pN z) n j) (s y : Int32) (hh1 : s = 0 ∨ s = 1) (hh2 : y = 0 ∨ y = 1) : am_Sp mX7_seen [.ref 2, .int (nI j), .int s, .int y] (md_H q) (qq_P (0) (z)) := by
  have hv : vP (pN z) j = -6 ∨ 0 ≤ (vP (pN z) j).toInt := (K.2.1.2.2.2.2.1 j hj).imp_right fun e => e.1
  refine am_intro (by decide) (Nat.le_of_ble_eq_true rfl) ?_
  refine ar_aload_n (i := 0) (pc := 0) dX7_seen_0 rfl rfl ?_
  refine ar_iload_n (i := 1) (pc := 1) dX7_seen_1 rfl rfl ?_
  refine ar_idV (pc := 2) dX7_seen_2 cal_X7_isBooth kX7_100 rfl (sX7_isBooth q n (show rq_S q 7 = nI n by have h := roN R; rw [Nat.zero_add] at h; exact h) K.2.1.1 _) rfl rfl rfl rfl rfl rfl rfl (fun r h1 hp => ?_)
  obtain ⟨⟨h2, rfl⟩ | ⟨h2, rfl⟩, rfl⟩ := hp
  · refine ⟨rfl, ?_⟩
    refine ar_if_ne (pc := 5) (tgt := 10) dX7_seen_5 (by decide) (fun c5 => ?_) (fun c5 => absurd c5 (by decide))
    refine ar_iload_n (i := 2) (pc := 10) dX7_seen_10 rfl rfl ?_
    refine ar_iconst (pc := 11) dX7_seen_11 q_iconst_0 ?_
    refine ar_iconst (pc := 12) dX7_seen_12 q_iconst_1 ?_
    refine ar_idS (pc := 13) dX7_seen_13 cal_X7_in kX7_32 rfl (sX7_inB (md_H q) s 0 1) rfl rfl rfl rfl rfl (fun r h1 hp => ?_)
    obtain ⟨⟨h13, rfl⟩ | ⟨h13, rfl⟩, rfl⟩ := hp
    · refine ⟨rfl, ?_⟩
      refine ar_if_eq (pc := 16) (tgt := 28) dX7_seen_16 (by decide) (fun c16 => absurd c16 (by decide)) (fun c16 => ?_)
      refine ar_iload_n (i := 3) (pc := 19) dX7_seen_19 rfl rfl ?_
      refine ar_iconst (pc := 20) dX7_seen_20 q_iconst_0 ?_
      refine ar_iconst (pc := 21) dX7_seen_21 q_iconst_1 ?_
      refine ar_idS (pc := 22) dX7_seen_22 cal_X7_in kX7_32 rfl (sX7_inB (md_H q) y 0 1) rfl rfl rfl rfl rfl (fun r h1 hp => ?_)
      obtain ⟨⟨h22, rfl⟩ | ⟨h22, rfl⟩, rfl⟩ := hp
      · refine ⟨rfl, ?_⟩
        refine ar_if_ne (pc := 25) (tgt := 31) dX7_seen_25 (by decide) (fun c25 => ?_) (fun c25 => absurd c25 (by decide))
        refine ar_aload_n (i := 0) (pc := 31) dX7_seen_31 rfl rfl ?_
        refine ar_iload_n (i := 1) (pc := 32) dX7_seen_32 rfl rfl ?_
        refine ar_iconst (pc := 33) dX7_seen_33 q_iconst_1 ?_
        refine ar_idV (pc := 34) dX7_seen_34 cal_X7_its kX7_103 rfl (sX7_its1 q (show j < 8 by have := K.2.1.1; omega)) rfl rfl rfl rfl rfl rfl rfl (fun r h1 hp => ?_)
        obtain ⟨rfl, rfl⟩ := hp
        refine ⟨rfl, ?_⟩
        rw [show rq_S q (20 + 5 * j + 1) = pm_ (vP (pN z) j) by have h := roP R hj; rw [Nat.zero_add] at h; exact h]
        refine ar_if_ge (pc := 37) (tgt := 42) dX7_seen_37 (by decide) (fun c37 => absurd ⟨hj, (pm_st hv).mp c37⟩ hs) (fun c37 => ?_)
        refine ar_iconst (pc := 40) dX7_seen_40 q_iconst_0 ?_
        exact ar_iret (pc := 41) dX7_seen_41 rfl rfl rfl ⟨rfl, q, rfl, M⟩
      · refine ⟨rfl, ?_⟩
        refine ar_if_ne (pc := 25) (tgt := 31) dX7_seen_25 (by decide) (fun c25 => absurd c25 (by decide)) (fun c25 => ?_)
        refine ar_bipush (pc := 28) dX7_seen_28 q_bipush_m2 ?_
        exact absurd (in01 hh2) h22
    · refine ⟨rfl, ?_⟩
      refine ar_if_eq (pc := 16) (tgt := 28) dX7_seen_16 (by decide) (fun c16 => ?_) (fun c16 => absurd c16 (by decide))
      refine ar_bipush (pc := 28) dX7_seen_28 q_bipush_m2 ?_
      exact absurd (in01 hh1) h13
  · refine ⟨rfl, ?_⟩
    refine ar_if_ne (pc := 5) (tgt := 10) dX7_seen_5 (by decide) (fun c5 => absurd c5 (by decide)) (fun c5 => ?_)
    refine ar_iconst (pc := 8) dX7_seen_8 q_iconst_m1 ?_
    exact absurd (bk_j K.2.1.1 hj) h2

set_option maxHeartbeats 4000000 in
set_option maxRecDepth 100000 in
theorem sX7_seen_00 (q : RV) (z : PV) (M : mr_R z q) (n : Nat) (K : ok_D (pN z) n) (R : ro_R 0 n (pN z) (rq_S q)) {j : Nat} (hj : j < n) (hs : stP (pN z) n j) : am_Sp mX7_seen [.ref 2, .int (nI j), .int 0, .int 0] (md_H q) (qq_P (if_I (inP (vP (pN z) j) ∧ taF 1 (lkT (pN z) n (-6) 8) (vS (pN z) 0) (vS (pN z) 2) (ix (vP (pN z) j)) < vH (pN z) j)) (z)) := by
  have hv : vP (pN z) j = -6 ∨ 0 ≤ (vP (pN z) j).toInt := (K.2.1.2.2.2.2.1 j hj).imp_right fun e => e.1
  have ip : inP (vP (pN z) j) := (K.2.1.2.2.2.2.1 j hj).resolve_left hs.2
  have et : taF 1 (tpV (pN z) n) (vS (pN z) 0) (vS (pN z) 2) (ix (vP (pN z) j)) = taF 1 (lkT (pN z) n (-6) 8) (vS (pN z) 0) (vS (pN z) 2) (ix (vP (pN z) j)) := taF_cong (by have := ip; unfold ix; omega) (fun x hx => to_uniq K.2.1.1 (to_tpV K.2.1.2.2.2.1 K.2.1.1) (to_lk6 K.2.1.2.2.2.1) hx)
  refine am_intro (by decide) (Nat.le_of_ble_eq_true rfl) ?_
  refine ar_aload_n (i := 0) (pc := 0) dX7_seen_0 rfl rfl ?_
  refine ar_iload_n (i := 1) (pc := 1) dX7_seen_1 rfl rfl ?_
  refine ar_idV (pc := 2) dX7_seen_2 cal_X7_isBooth kX7_100 rfl (sX7_isBooth q n (show rq_S q 7 = nI n by have h := roN R; rw [Nat.zero_add] at h; exact h) K.2.1.1 _) rfl rfl rfl rfl rfl rfl rfl (fun r h1 hp => ?_)
  obtain ⟨⟨h2, rfl⟩ | ⟨h2, rfl⟩, rfl⟩ := hp
  · refine ⟨rfl, ?_⟩
    refine ar_if_ne (pc := 5) (tgt := 10) dX7_seen_5 (by decide) (fun c5 => ?_) (fun c5 => absurd c5 (by decide))
    refine ar_iload_n (i := 2) (pc := 10) dX7_seen_10 rfl rfl ?_
    refine ar_iconst (pc := 11) dX7_seen_11 q_iconst_0 ?_
    refine ar_iconst (pc := 12) dX7_seen_12 q_iconst_1 ?_
    refine ar_idS (pc := 13) dX7_seen_13 cal_X7_in kX7_32 rfl (sX7_inB (md_H q) 0 0 1) rfl rfl rfl rfl rfl (fun r h1 hp => ?_)
    obtain ⟨⟨h13, rfl⟩ | ⟨h13, rfl⟩, rfl⟩ := hp
    · refine ⟨rfl, ?_⟩
      refine ar_if_eq (pc := 16) (tgt := 28) dX7_seen_16 (by decide) (fun c16 => absurd c16 (by decide)) (fun c16 => ?_)
      refine ar_iload_n (i := 3) (pc := 19) dX7_seen_19 rfl rfl ?_
      refine ar_iconst (pc := 20) dX7_seen_20 q_iconst_0 ?_
      refine ar_iconst (pc := 21) dX7_seen_21 q_iconst_1 ?_
      refine ar_idS (pc := 22) dX7_seen_22 cal_X7_in kX7_32 rfl (sX7_inB (md_H q) 0 0 1) rfl rfl rfl rfl rfl (fun r h1 hp => ?_)
      obtain ⟨⟨h22, rfl⟩ | ⟨h22, rfl⟩, rfl⟩ := hp
      · refine ⟨rfl, ?_⟩
        refine ar_if_ne (pc := 25) (tgt := 31) dX7_seen_25 (by decide) (fun c25 => ?_) (fun c25 => absurd c25 (by decide))
        refine ar_aload_n (i := 0) (pc := 31) dX7_seen_31 rfl rfl ?_
        refine ar_iload_n (i := 1) (pc := 32) dX7_seen_32 rfl rfl ?_
        refine ar_iconst (pc := 33) dX7_seen_33 q_iconst_1 ?_
        refine ar_idV (pc := 34) dX7_seen_34 cal_X7_its kX7_103 rfl (sX7_its1 q (show j < 8 by have := K.2.1.1; omega)) rfl rfl rfl rfl rfl rfl rfl (fun r h1 hp => ?_)
        obtain ⟨rfl, rfl⟩ := hp
        refine ⟨rfl, ?_⟩
        rw [show rq_S q (20 + 5 * j + 1) = pm_ (vP (pN z) j) by have h := roP R hj; rw [Nat.zero_add] at h; exact h]
        refine ar_if_ge (pc := 37) (tgt := 42) dX7_seen_37 (by decide) (fun c37 => ?_) (fun c37 => absurd ((pm_st hv).mpr hs.2) c37)
        refine ar_iload_n (i := 3) (pc := 42) dX7_seen_42 rfl rfl ?_
        refine ar_if_ne (pc := 43) (tgt := 69) dX7_seen_43 (by decide) (fun c43 => absurd rfl c43) (fun c43 => ?_)
        refine ar_aload_n (i := 0) (pc := 46) dX7_seen_46 rfl rfl ?_
        refine ar_iload_n (i := 1) (pc := 47) dX7_seen_47 rfl rfl ?_
        refine ar_iload_n (i := 2) (pc := 48) dX7_seen_48 rfl rfl ?_
        refine ar_idV (pc := 49) dX7_seen_49 cal_X7_highest kX7_118 rfl (sX7_highest0 q n (pN z) R K.2.1.1 K.2.1.2.2.2.1 K.2.1.2.2.2.2.1 hs) rfl rfl rfl rfl rfl rfl rfl (fun r h1 hp => ?_)
        obtain ⟨rfl, rfl⟩ := hp
        refine ⟨rfl, ?_⟩
        refine ar_aload_n (i := 0) (pc := 52) dX7_seen_52 rfl rfl ?_
        refine ar_iload_n (i := 1) (pc := 53) dX7_seen_53 rfl rfl ?_
        refine ar_iconst (pc := 54) dX7_seen_54 q_iconst_0 ?_
        refine ar_idV (pc := 55) dX7_seen_55 cal_X7_its kX7_103 rfl (sX7_its0 q (show j < 8 by have := K.2.1.1; omega)) rfl rfl rfl rfl rfl rfl rfl (fun r h1 hp => ?_)
        obtain ⟨rfl, rfl⟩ := hp
        refine ⟨rfl, ?_⟩
        rw [show rq_S q (20 + 5 * j) = vH (pN z) j by have h := roH R hj; rw [Nat.zero_add] at h; exact h]
        refine ar_icmp_ge (pc := 58) (tgt := 65) dX7_seen_58 (by decide) (fun c58 => ?_) (fun c58 => ?_)
        · refine ar_iconst (pc := 65) dX7_seen_65 q_iconst_0 ?_
          refine ar_goto (tgt := 83) (pc := 66) dX7_seen_66 (by decide) ?_
          refine ar_istore (pc := 83) dX7_seen_83 (Nat.le_of_ble_eq_true rfl) rfl ?_
          refine ar_iload (pc := 85) dX7_seen_85 rfl ?_
          refine ar_if_eq (pc := 87) (tgt := 94) dX7_seen_87 (by decide) (fun c87 => ?_) (fun c87 => absurd rfl c87)
          refine ar_iconst (pc := 94) dX7_seen_94 q_iconst_0 ?_
          exact ar_iret (pc := 95) dX7_seen_95 rfl rfl rfl ⟨by rw [if_0 (fun e => absurd c58 (Int32.not_le.mpr (by rw [et]; exact e.2)))], q, rfl, M⟩
        · refine ar_iconst (pc := 61) dX7_seen_61 q_iconst_1 ?_
          refine ar_goto (tgt := 83) (pc := 62) dX7_seen_62 (by decide) ?_
          refine ar_istore (pc := 83) dX7_seen_83 (Nat.le_of_ble_eq_true rfl) rfl ?_
          refine ar_iload (pc := 85) dX7_seen_85 rfl ?_
          refine ar_if_eq (pc := 87) (tgt := 94) dX7_seen_87 (by decide) (fun c87 => absurd c87 (by decide)) (fun c87 => ?_)
          refine ar_iconst (pc := 90) dX7_seen_90 q_iconst_1 ?_
          refine ar_goto (tgt := 95) (pc := 91) dX7_seen_91 (by decide) ?_
          exact ar_iret (pc := 95) dX7_seen_95 rfl rfl rfl ⟨by rw [if_1 ⟨ip, by rw [← et]; exact Int32.not_le.mp c58⟩], q, rfl, M⟩
      · refine ⟨rfl, ?_⟩
        refine ar_if_ne (pc := 25) (tgt := 31) dX7_seen_25 (by decide) (fun c25 => absurd c25 (by decide)) (fun c25 => ?_)
        refine ar_bipush (pc := 28) dX7_seen_28 q_bipush_m2 ?_
        exact absurd (in01 (by decide)) h22
    · refine ⟨rfl, ?_⟩
      refine ar_if_eq (pc := 16) (tgt := 28) dX7_seen_16 (by decide) (fun c16 => ?_) (fun c16 => absurd c16 (by decide))
      refine ar_bipush (pc := 28) dX7_seen_28 q_bipush_m2 ?_
      exact absurd (in01 (by decide)) h13
  · refine ⟨rfl, ?_⟩
    refine ar_if_ne (pc := 5) (tgt := 10) dX7_seen_5 (by decide) (fun c5 => absurd c5 (by decide)) (fun c5 => ?_)
    refine ar_iconst (pc := 8) dX7_seen_8 q_iconst_m1 ?_
    exact absurd (bk_j K.2.1.1 hj) h2

set_option maxHeartbeats 4000000 in
set_option maxRecDepth 100000 in
theorem sX7_seen_01 (q : RV) (z : PV) (M : mr_R z q) (n : Nat) (K : ok_D (pN z) n) (R : ro_R 0 n (pN z) (rq_S q)) {j : Nat} (hj : j < n) (hs : stP (pN z) n j) : am_Sp mX7_seen [.ref 2, .int (nI j), .int 0, .int 1] (md_H q) (qq_P (if_I (¬ ∃ i, i < 8 ∧ i ≠ j ∧ hdP (pN z) n i j 1)) (z)) := by
  have hv : vP (pN z) j = -6 ∨ 0 ≤ (vP (pN z) j).toInt := (K.2.1.2.2.2.2.1 j hj).imp_right fun e => e.1
  have ip : inP (vP (pN z) j) := (K.2.1.2.2.2.2.1 j hj).resolve_left hs.2
  have et : taF 1 (tpV (pN z) n) (vS (pN z) 0) (vS (pN z) 2) (ix (vP (pN z) j)) = taF 1 (lkT (pN z) n (-6) 8) (vS (pN z) 0) (vS (pN z) 2) (ix (vP (pN z) j)) := taF_cong (by have := ip; unfold ix; omega) (fun x hx => to_uniq K.2.1.1 (to_tpV K.2.1.2.2.2.1 K.2.1.1) (to_lk6 K.2.1.2.2.2.1) hx)
  refine am_intro (by decide) (Nat.le_of_ble_eq_true rfl) ?_
  refine ar_aload_n (i := 0) (pc := 0) dX7_seen_0 rfl rfl ?_
  refine ar_iload_n (i := 1) (pc := 1) dX7_seen_1 rfl rfl ?_
  refine ar_idV (pc := 2) dX7_seen_2 cal_X7_isBooth kX7_100 rfl (sX7_isBooth q n (show rq_S q 7 = nI n by have h := roN R; rw [Nat.zero_add] at h; exact h) K.2.1.1 _) rfl rfl rfl rfl rfl rfl rfl (fun r h1 hp => ?_)
  obtain ⟨⟨h2, rfl⟩ | ⟨h2, rfl⟩, rfl⟩ := hp
  · refine ⟨rfl, ?_⟩
    refine ar_if_ne (pc := 5) (tgt := 10) dX7_seen_5 (by decide) (fun c5 => ?_) (fun c5 => absurd c5 (by decide))
    refine ar_iload_n (i := 2) (pc := 10) dX7_seen_10 rfl rfl ?_
    refine ar_iconst (pc := 11) dX7_seen_11 q_iconst_0 ?_
    refine ar_iconst (pc := 12) dX7_seen_12 q_iconst_1 ?_
    refine ar_idS (pc := 13) dX7_seen_13 cal_X7_in kX7_32 rfl (sX7_inB (md_H q) 0 0 1) rfl rfl rfl rfl rfl (fun r h1 hp => ?_)
    obtain ⟨⟨h13, rfl⟩ | ⟨h13, rfl⟩, rfl⟩ := hp
    · refine ⟨rfl, ?_⟩
      refine ar_if_eq (pc := 16) (tgt := 28) dX7_seen_16 (by decide) (fun c16 => absurd c16 (by decide)) (fun c16 => ?_)
      refine ar_iload_n (i := 3) (pc := 19) dX7_seen_19 rfl rfl ?_
      refine ar_iconst (pc := 20) dX7_seen_20 q_iconst_0 ?_
      refine ar_iconst (pc := 21) dX7_seen_21 q_iconst_1 ?_
      refine ar_idS (pc := 22) dX7_seen_22 cal_X7_in kX7_32 rfl (sX7_inB (md_H q) 1 0 1) rfl rfl rfl rfl rfl (fun r h1 hp => ?_)
      obtain ⟨⟨h22, rfl⟩ | ⟨h22, rfl⟩, rfl⟩ := hp
      · refine ⟨rfl, ?_⟩
        refine ar_if_ne (pc := 25) (tgt := 31) dX7_seen_25 (by decide) (fun c25 => ?_) (fun c25 => absurd c25 (by decide))
        refine ar_aload_n (i := 0) (pc := 31) dX7_seen_31 rfl rfl ?_
        refine ar_iload_n (i := 1) (pc := 32) dX7_seen_32 rfl rfl ?_
        refine ar_iconst (pc := 33) dX7_seen_33 q_iconst_1 ?_
        refine ar_idV (pc := 34) dX7_seen_34 cal_X7_its kX7_103 rfl (sX7_its1 q (show j < 8 by have := K.2.1.1; omega)) rfl rfl rfl rfl rfl rfl rfl (fun r h1 hp => ?_)
        obtain ⟨rfl, rfl⟩ := hp
        refine ⟨rfl, ?_⟩
        rw [show rq_S q (20 + 5 * j + 1) = pm_ (vP (pN z) j) by have h := roP R hj; rw [Nat.zero_add] at h; exact h]
        refine ar_if_ge (pc := 37) (tgt := 42) dX7_seen_37 (by decide) (fun c37 => ?_) (fun c37 => absurd ((pm_st hv).mpr hs.2) c37)
        refine ar_iload_n (i := 3) (pc := 42) dX7_seen_42 rfl rfl ?_
        refine ar_if_ne (pc := 43) (tgt := 69) dX7_seen_43 (by decide) (fun c43 => ?_) (fun c43 => absurd c43 (by decide))
        refine ar_aload_n (i := 0) (pc := 69) dX7_seen_69 rfl rfl ?_
        refine ar_iload_n (i := 1) (pc := 70) dX7_seen_70 rfl rfl ?_
        refine ar_iload_n (i := 2) (pc := 71) dX7_seen_71 rfl rfl ?_
        refine ar_idV (pc := 72) dX7_seen_72 cal_X7_isHidden kX7_121 rfl (sX7_isHidden0 q n (pN z) R K.2.1.1 K.2.1.2.2.2.2.1 hs) rfl rfl rfl rfl rfl rfl rfl (fun r h1 hp => ?_)
        obtain ⟨⟨h72, rfl⟩ | ⟨h72, rfl⟩, rfl⟩ := hp
        · refine ⟨rfl, ?_⟩
          refine ar_if_ne (pc := 75) (tgt := 82) dX7_seen_75 (by decide) (fun c75 => ?_) (fun c75 => absurd c75 (by decide))
          refine ar_iconst (pc := 82) dX7_seen_82 q_iconst_0 ?_
          refine ar_istore (pc := 83) dX7_seen_83 (Nat.le_of_ble_eq_true rfl) rfl ?_
          refine ar_iload (pc := 85) dX7_seen_85 rfl ?_
          refine ar_if_eq (pc := 87) (tgt := 94) dX7_seen_87 (by decide) (fun c87 => ?_) (fun c87 => absurd rfl c87)
          refine ar_iconst (pc := 94) dX7_seen_94 q_iconst_0 ?_
          exact ar_iret (pc := 95) dX7_seen_95 rfl rfl rfl ⟨by rw [if_0 (fun e => e (hd_x hs h72 K.2.1.1))], q, rfl, M⟩
        · refine ⟨rfl, ?_⟩
          refine ar_if_ne (pc := 75) (tgt := 82) dX7_seen_75 (by decide) (fun c75 => absurd c75 (by decide)) (fun c75 => ?_)
          refine ar_iconst (pc := 78) dX7_seen_78 q_iconst_1 ?_
          refine ar_goto (tgt := 83) (pc := 79) dX7_seen_79 (by decide) ?_
          refine ar_istore (pc := 83) dX7_seen_83 (Nat.le_of_ble_eq_true rfl) rfl ?_
          refine ar_iload (pc := 85) dX7_seen_85 rfl ?_
          refine ar_if_eq (pc := 87) (tgt := 94) dX7_seen_87 (by decide) (fun c87 => absurd c87 (by decide)) (fun c87 => ?_)
          refine ar_iconst (pc := 90) dX7_seen_90 q_iconst_1 ?_
          refine ar_goto (tgt := 95) (pc := 91) dX7_seen_91 (by decide) ?_
          exact ar_iret (pc := 95) dX7_seen_95 rfl rfl rfl ⟨by rw [if_1 (fun e => h72 (hd_y e))], q, rfl, M⟩
      · refine ⟨rfl, ?_⟩
        refine ar_if_ne (pc := 25) (tgt := 31) dX7_seen_25 (by decide) (fun c25 => absurd c25 (by decide)) (fun c25 => ?_)
        refine ar_bipush (pc := 28) dX7_seen_28 q_bipush_m2 ?_
        exact absurd (in01 (by decide)) h22
    · refine ⟨rfl, ?_⟩
      refine ar_if_eq (pc := 16) (tgt := 28) dX7_seen_16 (by decide) (fun c16 => ?_) (fun c16 => absurd c16 (by decide))
      refine ar_bipush (pc := 28) dX7_seen_28 q_bipush_m2 ?_
      exact absurd (in01 (by decide)) h13
  · refine ⟨rfl, ?_⟩
    refine ar_if_ne (pc := 5) (tgt := 10) dX7_seen_5 (by decide) (fun c5 => absurd c5 (by decide)) (fun c5 => ?_)
    refine ar_iconst (pc := 8) dX7_seen_8 q_iconst_m1 ?_
    exact absurd (bk_j K.2.1.1 hj) h2

set_option maxHeartbeats 4000000 in
set_option maxRecDepth 100000 in
theorem sX7_seen_10 (q : RV) (z : PV) (M : mr_R z q) (n : Nat) (K : ok_D (pN z) n) (R : ro_R 0 n (pN z) (rq_S q)) {j : Nat} (hj : j < n) (hs : stP (pN z) n j) : am_Sp mX7_seen [.ref 2, .int (nI j), .int 1, .int 0] (md_H q) (qq_P (if_I (inP (vP (pN z) j) ∧ taF 0 (lkT (pN z) n (-6) 8) (vS (pN z) 1) (vS (pN z) 2) (ix (vP (pN z) j)) < vH (pN z) j)) (z)) := by
  have hv : vP (pN z) j = -6 ∨ 0 ≤ (vP (pN z) j).toInt := (K.2.1.2.2.2.2.1 j hj).imp_right fun e => e.1
  have ip : inP (vP (pN z) j) := (K.2.1.2.2.2.2.1 j hj).resolve_left hs.2
  have et : taF 0 (tpV (pN z) n) (vS (pN z) 1) (vS (pN z) 2) (ix (vP (pN z) j)) = taF 0 (lkT (pN z) n (-6) 8) (vS (pN z) 1) (vS (pN z) 2) (ix (vP (pN z) j)) := taF_cong (by have := ip; unfold ix; omega) (fun x hx => to_uniq K.2.1.1 (to_tpV K.2.1.2.2.2.1 K.2.1.1) (to_lk6 K.2.1.2.2.2.1) hx)
  refine am_intro (by decide) (Nat.le_of_ble_eq_true rfl) ?_
  refine ar_aload_n (i := 0) (pc := 0) dX7_seen_0 rfl rfl ?_
  refine ar_iload_n (i := 1) (pc := 1) dX7_seen_1 rfl rfl ?_
  refine ar_idV (pc := 2) dX7_seen_2 cal_X7_isBooth kX7_100 rfl (sX7_isBooth q n (show rq_S q 7 = nI n by have h := roN R; rw [Nat.zero_add] at h; exact h) K.2.1.1 _) rfl rfl rfl rfl rfl rfl rfl (fun r h1 hp => ?_)
  obtain ⟨⟨h2, rfl⟩ | ⟨h2, rfl⟩, rfl⟩ := hp
  · refine ⟨rfl, ?_⟩
    refine ar_if_ne (pc := 5) (tgt := 10) dX7_seen_5 (by decide) (fun c5 => ?_) (fun c5 => absurd c5 (by decide))
    refine ar_iload_n (i := 2) (pc := 10) dX7_seen_10 rfl rfl ?_
    refine ar_iconst (pc := 11) dX7_seen_11 q_iconst_0 ?_
    refine ar_iconst (pc := 12) dX7_seen_12 q_iconst_1 ?_
    refine ar_idS (pc := 13) dX7_seen_13 cal_X7_in kX7_32 rfl (sX7_inB (md_H q) 1 0 1) rfl rfl rfl rfl rfl (fun r h1 hp => ?_)
    obtain ⟨⟨h13, rfl⟩ | ⟨h13, rfl⟩, rfl⟩ := hp
    · refine ⟨rfl, ?_⟩
      refine ar_if_eq (pc := 16) (tgt := 28) dX7_seen_16 (by decide) (fun c16 => absurd c16 (by decide)) (fun c16 => ?_)
      refine ar_iload_n (i := 3) (pc := 19) dX7_seen_19 rfl rfl ?_
      refine ar_iconst (pc := 20) dX7_seen_20 q_iconst_0 ?_
      refine ar_iconst (pc := 21) dX7_seen_21 q_iconst_1 ?_
      refine ar_idS (pc := 22) dX7_seen_22 cal_X7_in kX7_32 rfl (sX7_inB (md_H q) 0 0 1) rfl rfl rfl rfl rfl (fun r h1 hp => ?_)
      obtain ⟨⟨h22, rfl⟩ | ⟨h22, rfl⟩, rfl⟩ := hp
      · refine ⟨rfl, ?_⟩
        refine ar_if_ne (pc := 25) (tgt := 31) dX7_seen_25 (by decide) (fun c25 => ?_) (fun c25 => absurd c25 (by decide))
        refine ar_aload_n (i := 0) (pc := 31) dX7_seen_31 rfl rfl ?_
        refine ar_iload_n (i := 1) (pc := 32) dX7_seen_32 rfl rfl ?_
        refine ar_iconst (pc := 33) dX7_seen_33 q_iconst_1 ?_
        refine ar_idV (pc := 34) dX7_seen_34 cal_X7_its kX7_103 rfl (sX7_its1 q (show j < 8 by have := K.2.1.1; omega)) rfl rfl rfl rfl rfl rfl rfl (fun r h1 hp => ?_)
        obtain ⟨rfl, rfl⟩ := hp
        refine ⟨rfl, ?_⟩
        rw [show rq_S q (20 + 5 * j + 1) = pm_ (vP (pN z) j) by have h := roP R hj; rw [Nat.zero_add] at h; exact h]
        refine ar_if_ge (pc := 37) (tgt := 42) dX7_seen_37 (by decide) (fun c37 => ?_) (fun c37 => absurd ((pm_st hv).mpr hs.2) c37)
        refine ar_iload_n (i := 3) (pc := 42) dX7_seen_42 rfl rfl ?_
        refine ar_if_ne (pc := 43) (tgt := 69) dX7_seen_43 (by decide) (fun c43 => absurd rfl c43) (fun c43 => ?_)
        refine ar_aload_n (i := 0) (pc := 46) dX7_seen_46 rfl rfl ?_
        refine ar_iload_n (i := 1) (pc := 47) dX7_seen_47 rfl rfl ?_
        refine ar_iload_n (i := 2) (pc := 48) dX7_seen_48 rfl rfl ?_
        refine ar_idV (pc := 49) dX7_seen_49 cal_X7_highest kX7_118 rfl (sX7_highest1 q n (pN z) R K.2.1.1 K.2.1.2.2.2.1 K.2.1.2.2.2.2.1 hs) rfl rfl rfl rfl rfl rfl rfl (fun r h1 hp => ?_)
        obtain ⟨rfl, rfl⟩ := hp
        refine ⟨rfl, ?_⟩
        refine ar_aload_n (i := 0) (pc := 52) dX7_seen_52 rfl rfl ?_
        refine ar_iload_n (i := 1) (pc := 53) dX7_seen_53 rfl rfl ?_
        refine ar_iconst (pc := 54) dX7_seen_54 q_iconst_0 ?_
        refine ar_idV (pc := 55) dX7_seen_55 cal_X7_its kX7_103 rfl (sX7_its0 q (show j < 8 by have := K.2.1.1; omega)) rfl rfl rfl rfl rfl rfl rfl (fun r h1 hp => ?_)
        obtain ⟨rfl, rfl⟩ := hp
        refine ⟨rfl, ?_⟩
        rw [show rq_S q (20 + 5 * j) = vH (pN z) j by have h := roH R hj; rw [Nat.zero_add] at h; exact h]
        refine ar_icmp_ge (pc := 58) (tgt := 65) dX7_seen_58 (by decide) (fun c58 => ?_) (fun c58 => ?_)
        · refine ar_iconst (pc := 65) dX7_seen_65 q_iconst_0 ?_
          refine ar_goto (tgt := 83) (pc := 66) dX7_seen_66 (by decide) ?_
          refine ar_istore (pc := 83) dX7_seen_83 (Nat.le_of_ble_eq_true rfl) rfl ?_
          refine ar_iload (pc := 85) dX7_seen_85 rfl ?_
          refine ar_if_eq (pc := 87) (tgt := 94) dX7_seen_87 (by decide) (fun c87 => ?_) (fun c87 => absurd rfl c87)
          refine ar_iconst (pc := 94) dX7_seen_94 q_iconst_0 ?_
          exact ar_iret (pc := 95) dX7_seen_95 rfl rfl rfl ⟨by rw [if_0 (fun e => absurd c58 (Int32.not_le.mpr (by rw [et]; exact e.2)))], q, rfl, M⟩
        · refine ar_iconst (pc := 61) dX7_seen_61 q_iconst_1 ?_
          refine ar_goto (tgt := 83) (pc := 62) dX7_seen_62 (by decide) ?_
          refine ar_istore (pc := 83) dX7_seen_83 (Nat.le_of_ble_eq_true rfl) rfl ?_
          refine ar_iload (pc := 85) dX7_seen_85 rfl ?_
          refine ar_if_eq (pc := 87) (tgt := 94) dX7_seen_87 (by decide) (fun c87 => absurd c87 (by decide)) (fun c87 => ?_)
          refine ar_iconst (pc := 90) dX7_seen_90 q_iconst_1 ?_
          refine ar_goto (tgt := 95) (pc := 91) dX7_seen_91 (by decide) ?_
          exact ar_iret (pc := 95) dX7_seen_95 rfl rfl rfl ⟨by rw [if_1 ⟨ip, by rw [← et]; exact Int32.not_le.mp c58⟩], q, rfl, M⟩
      · refine ⟨rfl, ?_⟩
        refine ar_if_ne (pc := 25) (tgt := 31) dX7_seen_25 (by decide) (fun c25 => absurd c25 (by decide)) (fun c25 => ?_)
        refine ar_bipush (pc := 28) dX7_seen_28 q_bipush_m2 ?_
        exact absurd (in01 (by decide)) h22
    · refine ⟨rfl, ?_⟩
      refine ar_if_eq (pc := 16) (tgt := 28) dX7_seen_16 (by decide) (fun c16 => ?_) (fun c16 => absurd c16 (by decide))
      refine ar_bipush (pc := 28) dX7_seen_28 q_bipush_m2 ?_
      exact absurd (in01 (by decide)) h13
  · refine ⟨rfl, ?_⟩
    refine ar_if_ne (pc := 5) (tgt := 10) dX7_seen_5 (by decide) (fun c5 => absurd c5 (by decide)) (fun c5 => ?_)
    refine ar_iconst (pc := 8) dX7_seen_8 q_iconst_m1 ?_
    exact absurd (bk_j K.2.1.1 hj) h2

set_option maxHeartbeats 4000000 in
set_option maxRecDepth 100000 in
theorem sX7_seen_11 (q : RV) (z : PV) (M : mr_R z q) (n : Nat) (K : ok_D (pN z) n) (R : ro_R 0 n (pN z) (rq_S q)) {j : Nat} (hj : j < n) (hs : stP (pN z) n j) : am_Sp mX7_seen [.ref 2, .int (nI j), .int 1, .int 1] (md_H q) (qq_P (if_I (¬ ∃ i, i < 8 ∧ i ≠ j ∧ hdP (pN z) n i j 0)) (z)) := by
  have hv : vP (pN z) j = -6 ∨ 0 ≤ (vP (pN z) j).toInt := (K.2.1.2.2.2.2.1 j hj).imp_right fun e => e.1
  have ip : inP (vP (pN z) j) := (K.2.1.2.2.2.2.1 j hj).resolve_left hs.2
  have et : taF 0 (tpV (pN z) n) (vS (pN z) 1) (vS (pN z) 2) (ix (vP (pN z) j)) = taF 0 (lkT (pN z) n (-6) 8) (vS (pN z) 1) (vS (pN z) 2) (ix (vP (pN z) j)) := taF_cong (by have := ip; unfold ix; omega) (fun x hx => to_uniq K.2.1.1 (to_tpV K.2.1.2.2.2.1 K.2.1.1) (to_lk6 K.2.1.2.2.2.1) hx)
  refine am_intro (by decide) (Nat.le_of_ble_eq_true rfl) ?_
  refine ar_aload_n (i := 0) (pc := 0) dX7_seen_0 rfl rfl ?_
  refine ar_iload_n (i := 1) (pc := 1) dX7_seen_1 rfl rfl ?_
  refine ar_idV (pc := 2) dX7_seen_2 cal_X7_isBooth kX7_100 rfl (sX7_isBooth q n (show rq_S q 7 = nI n by have h := roN R; rw [Nat.zero_add] at h; exact h) K.2.1.1 _) rfl rfl rfl rfl rfl rfl rfl (fun r h1 hp => ?_)
  obtain ⟨⟨h2, rfl⟩ | ⟨h2, rfl⟩, rfl⟩ := hp
  · refine ⟨rfl, ?_⟩
    refine ar_if_ne (pc := 5) (tgt := 10) dX7_seen_5 (by decide) (fun c5 => ?_) (fun c5 => absurd c5 (by decide))
    refine ar_iload_n (i := 2) (pc := 10) dX7_seen_10 rfl rfl ?_
    refine ar_iconst (pc := 11) dX7_seen_11 q_iconst_0 ?_
    refine ar_iconst (pc := 12) dX7_seen_12 q_iconst_1 ?_
    refine ar_idS (pc := 13) dX7_seen_13 cal_X7_in kX7_32 rfl (sX7_inB (md_H q) 1 0 1) rfl rfl rfl rfl rfl (fun r h1 hp => ?_)
    obtain ⟨⟨h13, rfl⟩ | ⟨h13, rfl⟩, rfl⟩ := hp
    · refine ⟨rfl, ?_⟩
      refine ar_if_eq (pc := 16) (tgt := 28) dX7_seen_16 (by decide) (fun c16 => absurd c16 (by decide)) (fun c16 => ?_)
      refine ar_iload_n (i := 3) (pc := 19) dX7_seen_19 rfl rfl ?_
      refine ar_iconst (pc := 20) dX7_seen_20 q_iconst_0 ?_
      refine ar_iconst (pc := 21) dX7_seen_21 q_iconst_1 ?_
      refine ar_idS (pc := 22) dX7_seen_22 cal_X7_in kX7_32 rfl (sX7_inB (md_H q) 1 0 1) rfl rfl rfl rfl rfl (fun r h1 hp => ?_)
      obtain ⟨⟨h22, rfl⟩ | ⟨h22, rfl⟩, rfl⟩ := hp
      · refine ⟨rfl, ?_⟩
        refine ar_if_ne (pc := 25) (tgt := 31) dX7_seen_25 (by decide) (fun c25 => ?_) (fun c25 => absurd c25 (by decide))
        refine ar_aload_n (i := 0) (pc := 31) dX7_seen_31 rfl rfl ?_
        refine ar_iload_n (i := 1) (pc := 32) dX7_seen_32 rfl rfl ?_
        refine ar_iconst (pc := 33) dX7_seen_33 q_iconst_1 ?_
        refine ar_idV (pc := 34) dX7_seen_34 cal_X7_its kX7_103 rfl (sX7_its1 q (show j < 8 by have := K.2.1.1; omega)) rfl rfl rfl rfl rfl rfl rfl (fun r h1 hp => ?_)
        obtain ⟨rfl, rfl⟩ := hp
        refine ⟨rfl, ?_⟩
        rw [show rq_S q (20 + 5 * j + 1) = pm_ (vP (pN z) j) by have h := roP R hj; rw [Nat.zero_add] at h; exact h]
        refine ar_if_ge (pc := 37) (tgt := 42) dX7_seen_37 (by decide) (fun c37 => ?_) (fun c37 => absurd ((pm_st hv).mpr hs.2) c37)
        refine ar_iload_n (i := 3) (pc := 42) dX7_seen_42 rfl rfl ?_
        refine ar_if_ne (pc := 43) (tgt := 69) dX7_seen_43 (by decide) (fun c43 => ?_) (fun c43 => absurd c43 (by decide))
        refine ar_aload_n (i := 0) (pc := 69) dX7_seen_69 rfl rfl ?_
        refine ar_iload_n (i := 1) (pc := 70) dX7_seen_70 rfl rfl ?_
        refine ar_iload_n (i := 2) (pc := 71) dX7_seen_71 rfl rfl ?_
        refine ar_idV (pc := 72) dX7_seen_72 cal_X7_isHidden kX7_121 rfl (sX7_isHidden1 q n (pN z) R K.2.1.1 K.2.1.2.2.2.2.1 hs) rfl rfl rfl rfl rfl rfl rfl (fun r h1 hp => ?_)
        obtain ⟨⟨h72, rfl⟩ | ⟨h72, rfl⟩, rfl⟩ := hp
        · refine ⟨rfl, ?_⟩
          refine ar_if_ne (pc := 75) (tgt := 82) dX7_seen_75 (by decide) (fun c75 => ?_) (fun c75 => absurd c75 (by decide))
          refine ar_iconst (pc := 82) dX7_seen_82 q_iconst_0 ?_
          refine ar_istore (pc := 83) dX7_seen_83 (Nat.le_of_ble_eq_true rfl) rfl ?_
          refine ar_iload (pc := 85) dX7_seen_85 rfl ?_
          refine ar_if_eq (pc := 87) (tgt := 94) dX7_seen_87 (by decide) (fun c87 => ?_) (fun c87 => absurd rfl c87)
          refine ar_iconst (pc := 94) dX7_seen_94 q_iconst_0 ?_
          exact ar_iret (pc := 95) dX7_seen_95 rfl rfl rfl ⟨by rw [if_0 (fun e => e (hd_x hs h72 K.2.1.1))], q, rfl, M⟩
        · refine ⟨rfl, ?_⟩
          refine ar_if_ne (pc := 75) (tgt := 82) dX7_seen_75 (by decide) (fun c75 => absurd c75 (by decide)) (fun c75 => ?_)
          refine ar_iconst (pc := 78) dX7_seen_78 q_iconst_1 ?_
          refine ar_goto (tgt := 83) (pc := 79) dX7_seen_79 (by decide) ?_
          refine ar_istore (pc := 83) dX7_seen_83 (Nat.le_of_ble_eq_true rfl) rfl ?_
          refine ar_iload (pc := 85) dX7_seen_85 rfl ?_
          refine ar_if_eq (pc := 87) (tgt := 94) dX7_seen_87 (by decide) (fun c87 => absurd c87 (by decide)) (fun c87 => ?_)
          refine ar_iconst (pc := 90) dX7_seen_90 q_iconst_1 ?_
          refine ar_goto (tgt := 95) (pc := 91) dX7_seen_91 (by decide) ?_
          exact ar_iret (pc := 95) dX7_seen_95 rfl rfl rfl ⟨by rw [if_1 (fun e => h72 (hd_y e))], q, rfl, M⟩
      · refine ⟨rfl, ?_⟩
        refine ar_if_ne (pc := 25) (tgt := 31) dX7_seen_25 (by decide) (fun c25 => absurd c25 (by decide)) (fun c25 => ?_)
        refine ar_bipush (pc := 28) dX7_seen_28 q_bipush_m2 ?_
        exact absurd (in01 (by decide)) h22
    · refine ⟨rfl, ?_⟩
      refine ar_if_eq (pc := 16) (tgt := 28) dX7_seen_16 (by decide) (fun c16 => ?_) (fun c16 => absurd c16 (by decide))
      refine ar_bipush (pc := 28) dX7_seen_28 q_bipush_m2 ?_
      exact absurd (in01 (by decide)) h13
  · refine ⟨rfl, ?_⟩
    refine ar_if_ne (pc := 5) (tgt := 10) dX7_seen_5 (by decide) (fun c5 => absurd c5 (by decide)) (fun c5 => ?_)
    refine ar_iconst (pc := 8) dX7_seen_8 q_iconst_m1 ?_
    exact absurd (bk_j K.2.1.1 hj) h2

theorem cst_end {v : SV} {n : Nat} : ∀ m, cst v n (n + m) = cst v n n
  | 0 => rfl
  | m + 1 => by
    rw [← cst_end m, show n + (m + 1) = n + m + 1 by omega, cst, if_neg (fun z => absurd z.1 (by omega)), Nat.add_zero]
set_option maxHeartbeats 4000000 in
set_option maxRecDepth 100000 in
theorem lX7_standing (h0 : am_H) (q : RV) (n : Nat) (w : SV) (R : ro_R 0 n w (rq_S q)) (h8 : n ≤ 8) (pl : pl_D w n) : ∀ (d k : Nat), k + d = n → am_RW mX7_standing h0 (am_rp (nI (cst w n n)) (md_H q)) 0 0 4 [some (.ref 2), some (.int (nI (cst w n k))), some (.int (nI k))] [] (md_H q) := by
  intro d
  induction d with
  | zero =>
    intro k hk
    have e : k = n := by omega
    subst e
    refine ar_iload_n (i := 2) (pc := 4) dX7_standing_4 rfl rfl ?_
    refine ar_aload_n (i := 0) (pc := 5) dX7_standing_5 rfl rfl ?_
    refine ar_getf (pc := 6) dX7_standing_6 fX7_7 rfl rfl ?_
    refine ar_bipush (pc := 9) dX7_standing_9 q_bipush_7 ?_
    refine ar_iald (pc := 11) dX7_standing_11 rfl (show 7 < 120 by decide) rfl ?_
    rw [show rq_S q 7 = nI k by have h := roN R; rw [Nat.zero_add] at h; exact h]
    refine ar_icmp_ge (pc := 12) (tgt := 38) dX7_standing_12 (by decide) (fun c12 => ?_) (fun c12 => absurd (Int32.le_refl _) c12)
    refine ar_iload_n (i := 1) (pc := 38) dX7_standing_38 rfl rfl ?_
    exact ar_iret (pc := 39) dX7_standing_39 rfl rfl rfl ⟨rfl, rfl⟩
  | succ d ih =>
    intro k hk
    have hv : vP w k = -6 ∨ 0 ≤ (vP w k).toInt := (pl k (by omega)).imp_right fun e => e.1
    have ih2 := ih (k + 1) (by omega)
    refine ar_iload_n (i := 2) (pc := 4) dX7_standing_4 rfl rfl ?_
    refine ar_aload_n (i := 0) (pc := 5) dX7_standing_5 rfl rfl ?_
    refine ar_getf (pc := 6) dX7_standing_6 fX7_7 rfl rfl ?_
    refine ar_bipush (pc := 9) dX7_standing_9 q_bipush_7 ?_
    refine ar_iald (pc := 11) dX7_standing_11 rfl (show 7 < 120 by decide) rfl ?_
    rw [show rq_S q 7 = nI n by have h := roN R; rw [Nat.zero_add] at h; exact h]
    refine ar_icmp_ge (pc := 12) (tgt := 38) dX7_standing_12 (by decide) (fun c12 => absurd ((nI_leI (by omega) (by omega)).mp c12) (by omega)) (fun c12 => ?_)
    refine ar_iload_n (i := 1) (pc := 15) dX7_standing_15 rfl rfl ?_
    refine ar_aload_n (i := 0) (pc := 16) dX7_standing_16 rfl rfl ?_
    refine ar_iload_n (i := 2) (pc := 17) dX7_standing_17 rfl rfl ?_
    refine ar_iconst (pc := 18) dX7_standing_18 q_iconst_1 ?_
    refine ar_idV (pc := 19) dX7_standing_19 cal_X7_its kX7_103 rfl (sX7_its1 q (show k < 8 by omega)) rfl rfl rfl rfl rfl rfl rfl (fun r h1 hp => ?_)
    obtain ⟨rfl, rfl⟩ := hp
    refine ⟨rfl, ?_⟩
    rw [show rq_S q (20 + 5 * k + 1) = pm_ (vP w k) by have h := roP R (show k < n by omega); rw [Nat.zero_add] at h; exact h]
    refine ar_if_lt (pc := 22) (tgt := 29) dX7_standing_22 (by decide) (fun c22 => ?_) (fun c22 => ?_)
    · refine ar_iconst (pc := 29) dX7_standing_29 q_iconst_0 ?_
      refine ar_iadd (pc := 30) dX7_standing_30 ?_
      refine ar_istore_n (i := 1) (pc := 31) dX7_standing_31 rfl (Nat.le_of_ble_eq_true rfl) rfl ?_
      refine ar_iinc (pc := 32) dX7_standing_32 rfl (ni_inc _) (Nat.le_of_ble_eq_true rfl) rfl ?_
      refine ar_goto (tgt := 4) (pc := 35) dX7_standing_35 (by decide) ?_
      rw [cst, if_neg (fun z => absurd ((pm_st hv).mpr z.2) (Int32.not_le.mpr c22)), Nat.add_zero] at ih2
      rw [add_0']
      exact ih2
    · refine ar_iconst (pc := 25) dX7_standing_25 q_iconst_1 ?_
      refine ar_goto (tgt := 30) (pc := 26) dX7_standing_26 (by decide) ?_
      refine ar_iadd (pc := 30) dX7_standing_30 ?_
      refine ar_istore_n (i := 1) (pc := 31) dX7_standing_31 rfl (Nat.le_of_ble_eq_true rfl) rfl ?_
      refine ar_iinc (pc := 32) dX7_standing_32 rfl (ni_inc _) (Nat.le_of_ble_eq_true rfl) rfl ?_
      refine ar_goto (tgt := 4) (pc := 35) dX7_standing_35 (by decide) ?_
      rw [cst, if_pos ⟨by omega, (pm_st hv).mp (Int32.not_lt.mp c22)⟩] at ih2
      rw [nI_1]
      exact ih2
set_option maxHeartbeats 4000000 in
set_option maxRecDepth 100000 in
theorem sX7_standing (q : RV) (n : Nat) (w : SV) (R : ro_R 0 n w (rq_S q)) (h8 : n ≤ 8) (pl : pl_D w n) : am_Sp mX7_standing [.ref 2] (md_H q) (am_rp (nI (cst w n 8)) (md_H q)) := by
  refine am_intro (by decide) (Nat.le_of_ble_eq_true rfl) ?_
  have ec : cst w n 8 = cst w n n := by
    have := cst_end (v := w) (n := n) (8 - n)
    rw [show n + (8 - n) = 8 by omega] at this
    exact this
  rw [ec]
  refine ar_iconst (pc := 0) dX7_standing_0 q_iconst_0 ?_
  refine ar_istore_n (i := 1) (pc := 1) dX7_standing_1 rfl (Nat.le_of_ble_eq_true rfl) rfl ?_
  refine ar_iconst (pc := 2) dX7_standing_2 q_iconst_0 ?_
  refine ar_istore_n (i := 2) (pc := 3) dX7_standing_3 rfl (Nat.le_of_ble_eq_true rfl) rfl ?_
  rw [← nI_0]
  exact lX7_standing _ q n w R h8 pl n 0 (by omega)

set_option maxHeartbeats 4000000 in
set_option maxRecDepth 100000 in
theorem sX7_crowdsNow (q : RV) (n : Nat) (w : SV) (R : ro_R 0 n w (rq_S q)) (h8 : n ≤ 8) (D : di_D w n) : am_Sp mX7_crowdsNow [.ref 2] (md_H q) (fun r h1 => ∃ st, r = some (.int (vS w 0 + vS w 1 - rs_V w n)) ∧ h1 = md_H (ru_T q st)) := by
  refine am_intro (by decide) (Nat.le_of_ble_eq_true rfl) ?_
  refine ar_aload_n (i := 0) (pc := 0) dX7_crowdsNow_0 rfl rfl ?_
  refine ar_iconst (pc := 1) dX7_crowdsNow_1 q_iconst_0 ?_
  refine ar_idV (pc := 2) dX7_crowdsNow_2 cal_X7_crowds kX7_50 rfl (sX7_crowds0 q n w R h8 D) rfl rfl rfl rfl rfl rfl rfl (fun r h1 hp => ?_)
  obtain ⟨st, rfl, rfl, hst⟩ := hp
  refine ⟨pat_md _ _, ?_⟩
  refine ar_istore_n (i := 1) (pc := 5) dX7_crowdsNow_5 rfl (Nat.le_of_ble_eq_true rfl) rfl ?_
  refine ar_aload_n (i := 0) (pc := 6) dX7_crowdsNow_6 rfl rfl ?_
  refine ar_getf (pc := 7) dX7_crowdsNow_7 fX7_7 rfl rfl ?_
  refine ar_iconst (pc := 10) dX7_crowdsNow_10 q_iconst_0 ?_
  refine ar_iald (pc := 11) dX7_crowdsNow_11 rfl (show 0 < 120 by decide) nI_0.symm ?_
  rw [show rq_S (ru_T q st) 0 = vS w 0 by have h := roS R 0 (by decide); rw [Nat.zero_add] at h; exact h]
  refine ar_aload_n (i := 0) (pc := 12) dX7_crowdsNow_12 rfl rfl ?_
  refine ar_getf (pc := 13) dX7_crowdsNow_13 fX7_7 rfl rfl ?_
  refine ar_iconst (pc := 16) dX7_crowdsNow_16 q_iconst_1 ?_
  refine ar_iald (pc := 17) dX7_crowdsNow_17 rfl (show 1 < 120 by decide) rfl ?_
  rw [show rq_S (ru_T q st) 1 = vS w 1 by have h := roS R 1 (by decide); rw [Nat.zero_add] at h; exact h]
  refine ar_iadd (pc := 18) dX7_crowdsNow_18 ?_
  refine ar_iload_n (i := 1) (pc := 19) dX7_crowdsNow_19 rfl rfl ?_
  refine ar_isub (pc := 20) dX7_crowdsNow_20 ?_
  exact ar_iret (pc := 21) dX7_crowdsNow_21 rfl rfl rfl ⟨st, rfl, rfl⟩

set_option maxHeartbeats 4000000 in
set_option maxRecDepth 100000 in
theorem sX7_count_s (q : RV) (z : PV) (M : mr_R z q) (n : Nat) (K : ok_D (pN z) n) (R : ro_R 0 n (pN z) (rq_S q)) {k : Nat} (hk : k < 6) : am_Sp mX7_count [.ref 2, .int (nI k)] (md_H q) (qq_P (vS (pN z) k) (z)) := by
  refine am_intro (by decide) (Nat.le_of_ble_eq_true rfl) ?_
  refine ar_iload_n (i := 1) (pc := 0) dX7_count_0 rfl rfl ?_
  refine ar_tsOut (pc := 1) (tgt := 123) dX7_count_1 (by rw [nI_toInt (by omega)]; omega) (by decide) ?_
  refine ar_iload_n (i := 1) (pc := 123) dX7_count_123 rfl rfl ?_
  refine ar_iconst (pc := 124) dX7_count_124 q_iconst_0 ?_
  refine ar_iconst (pc := 125) dX7_count_125 q_iconst_5 ?_
  refine ar_idS (pc := 126) dX7_count_126 cal_X7_in kX7_32 rfl (sX7_inB (md_H q) (nI k) 0 5) rfl rfl rfl rfl rfl (fun r h1 hp => ?_)
  obtain ⟨⟨h126, rfl⟩ | ⟨h126, rfl⟩, rfl⟩ := hp
  · refine ⟨rfl, ?_⟩
    refine ar_if_eq (pc := 129) (tgt := 141) dX7_count_129 (by decide) (fun c129 => absurd c129 (by decide)) (fun c129 => ?_)
    refine ar_aload_n (i := 0) (pc := 132) dX7_count_132 rfl rfl ?_
    refine ar_getf (pc := 133) dX7_count_133 fX7_7 rfl rfl ?_
    refine ar_iload_n (i := 1) (pc := 136) dX7_count_136 rfl rfl ?_
    refine ar_iald (pc := 137) dX7_count_137 rfl (show k < 120 by omega) rfl ?_
    rw [show rq_S q k = vS (pN z) k by have h := roS R k hk; rw [Nat.zero_add] at h; exact h]
    refine ar_goto (tgt := 143) (pc := 138) dX7_count_138 (by decide) ?_
    exact ar_iret (pc := 143) dX7_count_143 rfl rfl rfl ⟨rfl, q, rfl, M⟩
  · refine ⟨rfl, ?_⟩
    refine ar_if_eq (pc := 129) (tgt := 141) dX7_count_129 (by decide) (fun c129 => ?_) (fun c129 => absurd c129 (by decide))
    refine ar_bipush (pc := 141) dX7_count_141 q_bipush_m2 ?_
    exact absurd ⟨by rw [ti_0, nI_toInt (by omega)]; omega, by rw [ti_5, nI_toInt (by omega)]; omega⟩ h126

set_option maxHeartbeats 4000000 in
set_option maxRecDepth 100000 in
theorem sX7_count_6 (q : RV) (z : PV) (M : mr_R z q) (n : Nat) (K : ok_D (pN z) n) (R : ro_R 0 n (pN z) (rq_S q))  : am_Sp mX7_count [.ref 2, .int (nI 6)] (md_H q) (qq_P ((vX (pN z)).toInt32) (z)) := by
  refine am_intro (by decide) (Nat.le_of_ble_eq_true rfl) ?_
  refine ar_iload_n (i := 1) (pc := 0) dX7_count_0 rfl rfl ?_
  refine ar_tsIn (pc := 1) (tgt := 60) (off := 59) dX7_count_1 (by decide +kernel) (by decide +kernel) (by decide +kernel) (by decide) ?_
  refine ar_aload_n (i := 0) (pc := 60) dX7_count_60 rfl rfl ?_
  refine ar_getf (pc := 61) dX7_count_61 fX7_7 rfl rfl ?_
  refine ar_bipush (pc := 64) dX7_count_64 q_bipush_6 ?_
  refine ar_iald (pc := 66) dX7_count_66 rfl (show 6 < 120 by decide) rfl ?_
  rw [show rq_S q 6 = (vX (pN z)).toInt32 by have h := roX R; rw [Nat.zero_add] at h; exact h]
  exact ar_iret (pc := 67) dX7_count_67 rfl rfl rfl ⟨rfl, q, rfl, M⟩

set_option maxHeartbeats 4000000 in
set_option maxRecDepth 100000 in
theorem sX7_count_7 (q : RV) (z : PV) (M : mr_R z q) (n : Nat) (K : ok_D (pN z) n) (R : ro_R 0 n (pN z) (rq_S q))  : am_Sp mX7_count [.ref 2, .int (nI 7)] (md_H q) (qq_P (vBo (pN z)) (z)) := by
  refine am_intro (by decide) (Nat.le_of_ble_eq_true rfl) ?_
  refine ar_iload_n (i := 1) (pc := 0) dX7_count_0 rfl rfl ?_
  refine ar_tsIn (pc := 1) (tgt := 68) (off := 67) dX7_count_1 (by decide +kernel) (by decide +kernel) (by decide +kernel) (by decide) ?_
  refine ar_aload_n (i := 0) (pc := 68) dX7_count_68 rfl rfl ?_
  refine ar_getf (pc := 69) dX7_count_69 fX7_7 rfl rfl ?_
  refine ar_bipush (pc := 72) dX7_count_72 q_bipush_7 ?_
  refine ar_iald (pc := 74) dX7_count_74 rfl (show 7 < 120 by decide) rfl ?_
  rw [show rq_S q 7 = nI n by have h := roN R; rw [Nat.zero_add] at h; exact h, ← K.1]
  exact ar_iret (pc := 75) dX7_count_75 rfl rfl rfl ⟨rfl, q, rfl, M⟩

set_option maxHeartbeats 4000000 in
set_option maxRecDepth 100000 in
theorem sX7_count_8 (q : RV) (z : PV) (M : mr_R z q) (n : Nat) (K : ok_D (pN z) n) (R : ro_R 0 n (pN z) (rq_S q))  : am_Sp mX7_count [.ref 2, .int (nI 8)] (md_H q) (qq_P (nI (cst (pN z) n 8)) (z)) := by
  refine am_intro (by decide) (Nat.le_of_ble_eq_true rfl) ?_
  refine ar_iload_n (i := 1) (pc := 0) dX7_count_0 rfl rfl ?_
  refine ar_tsIn (pc := 1) (tgt := 76) (off := 75) dX7_count_1 (by decide +kernel) (by decide +kernel) (by decide +kernel) (by decide) ?_
  refine ar_aload_n (i := 0) (pc := 76) dX7_count_76 rfl rfl ?_
  refine ar_idV (pc := 77) dX7_count_77 cal_X7_standing kX7_124 rfl (sX7_standing q n (pN z) R K.2.1.1 K.2.1.2.2.2.2.1) rfl rfl rfl rfl rfl rfl rfl (fun r h1 hp => ?_)
  obtain ⟨rfl, rfl⟩ := hp
  refine ⟨rfl, ?_⟩
  exact ar_iret (pc := 80) dX7_count_80 rfl rfl rfl ⟨rfl, q, rfl, M⟩

set_option maxHeartbeats 4000000 in
set_option maxRecDepth 100000 in
theorem sX7_count_9 (q : RV) (z : PV) (M : mr_R z q) (n : Nat) (K : ok_D (pN z) n) (R : ro_R 0 n (pN z) (rq_S q))  : am_Sp mX7_count [.ref 2, .int (nI 9)] (md_H q) (qq_P (vRo (pN z)) (z)) := by
  refine am_intro (by decide) (Nat.le_of_ble_eq_true rfl) ?_
  refine ar_iload_n (i := 1) (pc := 0) dX7_count_0 rfl rfl ?_
  refine ar_tsIn (pc := 1) (tgt := 81) (off := 80) dX7_count_1 (by decide +kernel) (by decide +kernel) (by decide +kernel) (by decide) ?_
  refine ar_aload_n (i := 0) (pc := 81) dX7_count_81 rfl rfl ?_
  refine ar_getf (pc := 82) dX7_count_82 fX7_7 rfl rfl ?_
  refine ar_bipush (pc := 85) dX7_count_85 q_bipush_8 ?_
  refine ar_iald (pc := 87) dX7_count_87 rfl (show 8 < 120 by decide) rfl ?_
  rw [show rq_S q 8 = vRo (pN z) by have h := roRo R; rw [Nat.zero_add] at h; exact h]
  exact ar_iret (pc := 88) dX7_count_88 rfl rfl rfl ⟨rfl, q, rfl, M⟩

set_option maxHeartbeats 4000000 in
set_option maxRecDepth 100000 in
theorem sX7_count_10 (q : RV) (z : PV) (M : mr_R z q) (n : Nat) (K : ok_D (pN z) n) (R : ro_R 0 n (pN z) (rq_S q))  : am_Sp mX7_count [.ref 2, .int (nI 10)] (md_H q) (qq_P (vS (pN z) 0 + vS (pN z) 1 - swN (pN z) n) (z)) := by
  refine am_intro (by decide) (Nat.le_of_ble_eq_true rfl) ?_
  refine ar_iload_n (i := 1) (pc := 0) dX7_count_0 rfl rfl ?_
  refine ar_tsIn (pc := 1) (tgt := 89) (off := 88) dX7_count_1 (by decide +kernel) (by decide +kernel) (by decide +kernel) (by decide) ?_
  refine ar_aload_n (i := 0) (pc := 89) dX7_count_89 rfl rfl ?_
  refine ar_idV (pc := 90) dX7_count_90 cal_X7_crowdsNow kX7_127 rfl (sX7_crowdsNow q n (pN z) R K.2.1.1 K.2.1.2.2.2.1) rfl rfl rfl rfl rfl rfl rfl (fun r h1 hp => ?_)
  obtain ⟨st, rfl, rfl⟩ := hp
  refine ⟨pat_md _ _, ?_⟩
  exact ar_iret (pc := 93) dX7_count_93 rfl rfl rfl ⟨by rw [rs_sw K.2.1.1 K.2.1.2.2.2.1], _, rfl, mr_askT M⟩

set_option maxHeartbeats 4000000 in
set_option maxRecDepth 100000 in
theorem sX7_count_11 (q : RV) (z : PV) (M : mr_R z q) (n : Nat) (K : ok_D (pN z) n) (R : ro_R 0 n (pN z) (rq_S q))  : am_Sp mX7_count [.ref 2, .int (nI 11)] (md_H q) (qq_P (swN (pN z) n) (z)) := by
  refine am_intro (by decide) (Nat.le_of_ble_eq_true rfl) ?_
  refine ar_iload_n (i := 1) (pc := 0) dX7_count_0 rfl rfl ?_
  refine ar_tsIn (pc := 1) (tgt := 94) (off := 93) dX7_count_1 (by decide +kernel) (by decide +kernel) (by decide +kernel) (by decide) ?_
  refine ar_aload_n (i := 0) (pc := 94) dX7_count_94 rfl rfl ?_
  refine ar_iconst (pc := 95) dX7_count_95 q_iconst_0 ?_
  refine ar_idV (pc := 96) dX7_count_96 cal_X7_crowds kX7_50 rfl (sX7_crowds0 q n (pN z) R K.2.1.1 K.2.1.2.2.2.1) rfl rfl rfl rfl rfl rfl rfl (fun r h1 hp => ?_)
  obtain ⟨st, rfl, rfl, hst⟩ := hp
  refine ⟨pat_md _ _, ?_⟩
  exact ar_iret (pc := 99) dX7_count_99 rfl rfl rfl ⟨by rw [rs_sw K.2.1.1 K.2.1.2.2.2.1], _, rfl, mr_askT M⟩

set_option maxHeartbeats 4000000 in
set_option maxRecDepth 100000 in
theorem sX7_count_12 (q : RV) (z : PV) (M : mr_R z q) (n : Nat) (K : ok_D (pN z) n) (R : ro_R 0 n (pN z) (rq_S q))  : am_Sp mX7_count [.ref 2, .int (nI 12)] (md_H q) (qq_P (vDa (pN z)) (z)) := by
  refine am_intro (by decide) (Nat.le_of_ble_eq_true rfl) ?_
  refine ar_iload_n (i := 1) (pc := 0) dX7_count_0 rfl rfl ?_
  refine ar_tsIn (pc := 1) (tgt := 100) (off := 99) dX7_count_1 (by decide +kernel) (by decide +kernel) (by decide +kernel) (by decide) ?_
  refine ar_aload_n (i := 0) (pc := 100) dX7_count_100 rfl rfl ?_
  refine ar_getf (pc := 101) dX7_count_101 fX7_7 rfl rfl ?_
  refine ar_bipush (pc := 104) dX7_count_104 q_bipush_9 ?_
  refine ar_iload_n (i := 1) (pc := 106) dX7_count_106 rfl rfl ?_
  refine ar_iadd (pc := 107) dX7_count_107 ?_
  refine ar_bipush (pc := 108) dX7_count_108 q_bipush_12 ?_
  refine ar_isub (pc := 110) dX7_count_110 ?_
  refine ar_iald (pc := 111) dX7_count_111 rfl (show 9 < 120 by decide) (by decide +kernel) ?_
  rw [show rq_S q 9 = vDa (pN z) by have h := roDa R; rw [Nat.zero_add] at h; exact h]
  exact ar_iret (pc := 112) dX7_count_112 rfl rfl rfl ⟨rfl, q, rfl, M⟩

set_option maxHeartbeats 4000000 in
set_option maxRecDepth 100000 in
theorem sX7_count_13 (q : RV) (z : PV) (M : mr_R z q) (n : Nat) (K : ok_D (pN z) n) (R : ro_R 0 n (pN z) (rq_S q))  : am_Sp mX7_count [.ref 2, .int (nI 13)] (md_H q) (qq_P (vRa (pN z)) (z)) := by
  refine am_intro (by decide) (Nat.le_of_ble_eq_true rfl) ?_
  refine ar_iload_n (i := 1) (pc := 0) dX7_count_0 rfl rfl ?_
  refine ar_tsIn (pc := 1) (tgt := 100) (off := 99) dX7_count_1 (by decide +kernel) (by decide +kernel) (by decide +kernel) (by decide) ?_
  refine ar_aload_n (i := 0) (pc := 100) dX7_count_100 rfl rfl ?_
  refine ar_getf (pc := 101) dX7_count_101 fX7_7 rfl rfl ?_
  refine ar_bipush (pc := 104) dX7_count_104 q_bipush_9 ?_
  refine ar_iload_n (i := 1) (pc := 106) dX7_count_106 rfl rfl ?_
  refine ar_iadd (pc := 107) dX7_count_107 ?_
  refine ar_bipush (pc := 108) dX7_count_108 q_bipush_12 ?_
  refine ar_isub (pc := 110) dX7_count_110 ?_
  refine ar_iald (pc := 111) dX7_count_111 rfl (show 10 < 120 by decide) (by decide +kernel) ?_
  rw [show rq_S q 10 = vRa (pN z) by have h := roRa R; rw [Nat.zero_add] at h; exact h]
  exact ar_iret (pc := 112) dX7_count_112 rfl rfl rfl ⟨rfl, q, rfl, M⟩

set_option maxHeartbeats 4000000 in
set_option maxRecDepth 100000 in
theorem sX7_count_14 (q : RV) (z : PV) (M : mr_R z q) (n : Nat) (K : ok_D (pN z) n) (R : ro_R 0 n (pN z) (rq_S q))  : am_Sp mX7_count [.ref 2, .int (nI 14)] (md_H q) (qq_P (vTa (pN z)) (z)) := by
  refine am_intro (by decide) (Nat.le_of_ble_eq_true rfl) ?_
  refine ar_iload_n (i := 1) (pc := 0) dX7_count_0 rfl rfl ?_
  refine ar_tsIn (pc := 1) (tgt := 100) (off := 99) dX7_count_1 (by decide +kernel) (by decide +kernel) (by decide +kernel) (by decide) ?_
  refine ar_aload_n (i := 0) (pc := 100) dX7_count_100 rfl rfl ?_
  refine ar_getf (pc := 101) dX7_count_101 fX7_7 rfl rfl ?_
  refine ar_bipush (pc := 104) dX7_count_104 q_bipush_9 ?_
  refine ar_iload_n (i := 1) (pc := 106) dX7_count_106 rfl rfl ?_
  refine ar_iadd (pc := 107) dX7_count_107 ?_
  refine ar_bipush (pc := 108) dX7_count_108 q_bipush_12 ?_
  refine ar_isub (pc := 110) dX7_count_110 ?_
  refine ar_iald (pc := 111) dX7_count_111 rfl (show 11 < 120 by decide) (by decide +kernel) ?_
  rw [show rq_S q 11 = vTa (pN z) by have h := roTa R; rw [Nat.zero_add] at h; exact h]
  exact ar_iret (pc := 112) dX7_count_112 rfl rfl rfl ⟨rfl, q, rfl, M⟩

set_option maxHeartbeats 4000000 in
set_option maxRecDepth 100000 in
theorem sX7_count_15 (q : RV) (z : PV) (M : mr_R z q) (n : Nat) (K : ok_D (pN z) n) (R : ro_R 0 n (pN z) (rq_S q))  : am_Sp mX7_count [.ref 2, .int (nI 15)] (md_H q) (qq_P ((pD z).1) (z)) := by
  have M0 := M.2.2.2
  refine am_intro (by decide) (Nat.le_of_ble_eq_true rfl) ?_
  refine ar_iload_n (i := 1) (pc := 0) dX7_count_0 rfl rfl ?_
  refine ar_tsIn (pc := 1) (tgt := 113) (off := 112) dX7_count_1 (by decide +kernel) (by decide +kernel) (by decide +kernel) (by decide) ?_
  refine ar_aload_n (i := 0) (pc := 113) dX7_count_113 rfl rfl ?_
  refine ar_getf (pc := 114) dX7_count_114 fX7_130 rfl rfl ?_
  obtain ⟨L, hL, e1, e2, -⟩ := M0
  exact ar_iret (pc := 117) dX7_count_117 rfl rfl rfl ⟨by rw [e1, e2], q, rfl, M⟩

set_option maxHeartbeats 4000000 in
set_option maxRecDepth 100000 in
theorem sX7_count_16 (q : RV) (z : PV) (M : mr_R z q) (n : Nat) (K : ok_D (pN z) n) (R : ro_R 0 n (pN z) (rq_S q))  : am_Sp mX7_count [.ref 2, .int (nI 16)] (md_H q) (qq_P (nI (pY z).2.2) (z)) := by
  refine am_intro (by decide) (Nat.le_of_ble_eq_true rfl) ?_
  refine ar_iload_n (i := 1) (pc := 0) dX7_count_0 rfl rfl ?_
  refine ar_tsIn (pc := 1) (tgt := 118) (off := 117) dX7_count_1 (by decide +kernel) (by decide +kernel) (by decide +kernel) (by decide) ?_
  refine ar_aload_n (i := 0) (pc := 118) dX7_count_118 rfl rfl ?_
  refine ar_getf (pc := 119) dX7_count_119 fX7_40 rfl rfl ?_
  exact ar_iret (pc := 122) dX7_count_122 rfl rfl rfl ⟨by rw [show rq_K q = nI (pY z).2.2 from M.2.1.2.2.1], q, rfl, M⟩

set_option maxHeartbeats 4000000 in
set_option maxRecDepth 100000 in
theorem sX7_count_o (q : RV) (z : PV) (M : mr_R z q) (n : Nat) (K : ok_D (pN z) n) (R : ro_R 0 n (pN z) (rq_S q)) (w : Int32) (hw : w.toInt < 6 ∨ 16 < w.toInt) (h6 : w.toInt < 0 ∨ 5 < w.toInt) : am_Sp mX7_count [.ref 2, .int w] (md_H q) (qq_P (-2) (z)) := by
  refine am_intro (by decide) (Nat.le_of_ble_eq_true rfl) ?_
  refine ar_iload_n (i := 1) (pc := 0) dX7_count_0 rfl rfl ?_
  refine ar_tsOut (pc := 1) (tgt := 123) dX7_count_1 hw (by decide) ?_
  refine ar_iload_n (i := 1) (pc := 123) dX7_count_123 rfl rfl ?_
  refine ar_iconst (pc := 124) dX7_count_124 q_iconst_0 ?_
  refine ar_iconst (pc := 125) dX7_count_125 q_iconst_5 ?_
  refine ar_idS (pc := 126) dX7_count_126 cal_X7_in kX7_32 rfl (sX7_inB (md_H q) w 0 5) rfl rfl rfl rfl rfl (fun r h1 hp => ?_)
  obtain ⟨⟨h126, rfl⟩ | ⟨h126, rfl⟩, rfl⟩ := hp
  · refine ⟨rfl, ?_⟩
    refine ar_if_eq (pc := 129) (tgt := 141) dX7_count_129 (by decide) (fun c129 => absurd c129 (by decide)) (fun c129 => ?_)
    exact absurd h126 (by rw [ti_0, ti_5]; omega)
  · refine ⟨rfl, ?_⟩
    refine ar_if_eq (pc := 129) (tgt := 141) dX7_count_129 (by decide) (fun c129 => ?_) (fun c129 => absurd c129 (by decide))
    refine ar_bipush (pc := 141) dX7_count_141 q_bipush_m2 ?_
    exact ar_iret (pc := 143) dX7_count_143 rfl rfl rfl ⟨rfl, q, rfl, M⟩

set_option maxHeartbeats 4000000 in
set_option maxRecDepth 100000 in
theorem sX7_lot (q : RV) (z : PV) (M : mr_R z q) (n : Nat) (K : ok_D (pN z) n) (R : ro_R 0 n (pN z) (rq_S q)) (p : Int32) : am_Sp mX7_lot [.ref 2, .int p] (md_H q) (qq_P (lotV (pN z) p) (z)) := by
  refine am_intro (by decide) (Nat.le_of_ble_eq_true rfl) ?_
  refine ar_iload_n (i := 1) (pc := 0) dX7_lot_0 rfl rfl ?_
  refine ar_iconst (pc := 1) dX7_lot_1 q_iconst_0 ?_
  refine ar_bipush (pc := 2) dX7_lot_2 q_bipush_7 ?_
  refine ar_idS (pc := 4) dX7_lot_4 cal_X7_in kX7_32 rfl (sX7_inB (md_H q) p 0 7) rfl rfl rfl rfl rfl (fun r h1 hp => ?_)
  obtain ⟨⟨h4, rfl⟩ | ⟨h4, rfl⟩, rfl⟩ := hp
  · refine ⟨rfl, ?_⟩
    refine ar_if_ne (pc := 7) (tgt := 12) dX7_lot_7 (by decide) (fun c7 => ?_) (fun c7 => absurd c7 (by decide))
    obtain ⟨k, hk, rfl⟩ : ∃ k, k < 8 ∧ p = nI k := ⟨ix p, by rw [ti_0, ti_7] at h4; unfold ix; omega, ix_eq (by rw [ti_0] at h4; exact h4.1)⟩
    have hv : vL (pN z) k = -6 ∨ 0 ≤ (vL (pN z) k).toInt := (K.2.2.2.2.2.1 k hk).imp_right fun ⟨b, hb, e⟩ => by rw [e, nI_toInt (by have := K.2.1.1; omega)]; omega
    have hr := pm_b hv
    rw [show lotV (pN z) (nI k) = vL (pN z) k by rw [lotV, ix_nI (by omega), if_pos (by rw [nI_toInt (by omega)]; omega)]]
    refine ar_aload_n (i := 0) (pc := 12) dX7_lot_12 rfl rfl ?_
    refine ar_getf (pc := 13) dX7_lot_13 fX7_7 rfl rfl ?_
    refine ar_bipush (pc := 16) dX7_lot_16 q_bipush_12 ?_
    refine ar_iload_n (i := 1) (pc := 18) dX7_lot_18 rfl rfl ?_
    refine ar_iadd (pc := 19) dX7_lot_19 ?_
    refine ar_iald (pc := 20) dX7_lot_20 rfl (show 12 + k < 120 by omega) (nI_add 12 k) ?_
    rw [show rq_S q (12 + k) = pm_ (vL (pN z) k) by have h := roL R k hk; rw [Nat.zero_add] at h; exact h]
    refine ar_if_ge (pc := 21) (tgt := 29) dX7_lot_21 (by decide) (fun c21 => ?_) (fun c21 => ?_)
    · refine ar_aload_n (i := 0) (pc := 29) dX7_lot_29 rfl rfl ?_
      refine ar_getf (pc := 30) dX7_lot_30 fX7_7 rfl rfl ?_
      refine ar_bipush (pc := 33) dX7_lot_33 q_bipush_12 ?_
      refine ar_iload_n (i := 1) (pc := 35) dX7_lot_35 rfl rfl ?_
      refine ar_iadd (pc := 36) dX7_lot_36 ?_
      refine ar_iald (pc := 37) dX7_lot_37 rfl (show 12 + k < 120 by omega) (nI_add 12 k) ?_
      rw [show rq_S q (12 + k) = pm_ (vL (pN z) k) by have h := roL R k hk; rw [Nat.zero_add] at h; exact h]
      exact ar_iret (pc := 38) dX7_lot_38 rfl rfl rfl ⟨congrArg (fun x => some (Value.int x)) ((if_neg (Int32.not_lt.mpr c21)).symm.trans hr), q, rfl, M⟩
    · refine ar_bipush (pc := 24) dX7_lot_24 q_bipush_m6 ?_
      refine ar_goto (tgt := 38) (pc := 26) dX7_lot_26 (by decide) ?_
      exact ar_iret (pc := 38) dX7_lot_38 rfl rfl rfl ⟨congrArg (fun x => some (Value.int x)) ((if_pos (Int32.not_le.mp c21)).symm.trans hr), q, rfl, M⟩
  · refine ⟨rfl, ?_⟩
    refine ar_if_ne (pc := 7) (tgt := 12) dX7_lot_7 (by decide) (fun c7 => absurd c7 (by decide)) (fun c7 => ?_)
    refine ar_iconst (pc := 10) dX7_lot_10 q_iconst_m1 ?_
    exact ar_iret (pc := 11) dX7_lot_11 rfl rfl rfl ⟨by rw [lotV, if_neg (fun e => h4 (by rw [ti_0, ti_7]; omega))], q, rfl, M⟩

set_option maxHeartbeats 4000000 in
set_option maxRecDepth 100000 in
theorem sX7_ifStood_n (q : RV) (z : PV) (M : mr_R z q) (n : Nat) (K : ok_D (pN z) n) (R : ro_R 0 n (pN z) (rq_S q)) (b p : Int32) (hb : ¬ (bkP n b ∧ inP p)) : am_Sp mX7_ifStood [.ref 2, .int b, .int p] (md_H q) (qq_P (-1) (z)) := by
  refine am_intro (by decide) (Nat.le_of_ble_eq_true rfl) ?_
  refine ar_aload_n (i := 0) (pc := 0) dX7_ifStood_0 rfl rfl ?_
  refine ar_iload_n (i := 1) (pc := 1) dX7_ifStood_1 rfl rfl ?_
  refine ar_idV (pc := 2) dX7_ifStood_2 cal_X7_isBooth kX7_100 rfl (sX7_isBooth q n (show rq_S q 7 = nI n by have h := roN R; rw [Nat.zero_add] at h; exact h) K.2.1.1 _) rfl rfl rfl rfl rfl rfl rfl (fun r h1 hp => ?_)
  obtain ⟨⟨h2, rfl⟩ | ⟨h2, rfl⟩, rfl⟩ := hp
  · refine ⟨rfl, ?_⟩
    refine ar_if_eq (pc := 5) (tgt := 15) dX7_ifStood_5 (by decide) (fun c5 => absurd c5 (by decide)) (fun c5 => ?_)
    refine ar_iload_n (i := 2) (pc := 8) dX7_ifStood_8 rfl rfl ?_
    refine ar_idS (pc := 9) dX7_ifStood_9 cal_X7_isPitch kX7_89 rfl (sX7_isPitch (md_H q) _) rfl rfl rfl rfl rfl (fun r h1 hp => ?_)
    obtain ⟨⟨h9, rfl⟩ | ⟨h9, rfl⟩, rfl⟩ := hp
    · refine ⟨rfl, ?_⟩
      refine ar_if_ne (pc := 12) (tgt := 17) dX7_ifStood_12 (by decide) (fun c12 => ?_) (fun c12 => absurd c12 (by decide))
      exact absurd ⟨h2, h9⟩ hb
    · refine ⟨rfl, ?_⟩
      refine ar_if_ne (pc := 12) (tgt := 17) dX7_ifStood_12 (by decide) (fun c12 => absurd c12 (by decide)) (fun c12 => ?_)
      refine ar_iconst (pc := 15) dX7_ifStood_15 q_iconst_m1 ?_
      exact ar_iret (pc := 16) dX7_ifStood_16 rfl rfl rfl ⟨rfl, q, rfl, M⟩
  · refine ⟨rfl, ?_⟩
    refine ar_if_eq (pc := 5) (tgt := 15) dX7_ifStood_5 (by decide) (fun c5 => ?_) (fun c5 => absurd c5 (by decide))
    refine ar_iconst (pc := 15) dX7_ifStood_15 q_iconst_m1 ?_
    exact ar_iret (pc := 16) dX7_ifStood_16 rfl rfl rfl ⟨rfl, q, rfl, M⟩

set_option maxHeartbeats 4000000 in
set_option maxRecDepth 100000 in
theorem sX7_ifStood_t (q : RV) (z : PV) (M : mr_R z q) (n : Nat) (K : ok_D (pN z) n) (R : ro_R 0 n (pN z) (rq_S q)) {j : Nat} (hj : j < n) {p : Nat} (hp12 : p < 12) (ht : tkP (pN z) n (nI p) j) : am_Sp mX7_ifStood [.ref 2, .int (nI j), .int (nI p)] (md_H q) (qq_P (-5) (z)) := by
  refine am_intro (by decide) (Nat.le_of_ble_eq_true rfl) ?_
  refine ar_aload_n (i := 0) (pc := 0) dX7_ifStood_0 rfl rfl ?_
  refine ar_iload_n (i := 1) (pc := 1) dX7_ifStood_1 rfl rfl ?_
  refine ar_idV (pc := 2) dX7_ifStood_2 cal_X7_isBooth kX7_100 rfl (sX7_isBooth q n (show rq_S q 7 = nI n by have h := roN R; rw [Nat.zero_add] at h; exact h) K.2.1.1 _) rfl rfl rfl rfl rfl rfl rfl (fun r h1 hp => ?_)
  obtain ⟨⟨h2, rfl⟩ | ⟨h2, rfl⟩, rfl⟩ := hp
  · refine ⟨rfl, ?_⟩
    refine ar_if_eq (pc := 5) (tgt := 15) dX7_ifStood_5 (by decide) (fun c5 => absurd c5 (by decide)) (fun c5 => ?_)
    refine ar_iload_n (i := 2) (pc := 8) dX7_ifStood_8 rfl rfl ?_
    refine ar_idS (pc := 9) dX7_ifStood_9 cal_X7_isPitch kX7_89 rfl (sX7_isPitch (md_H q) _) rfl rfl rfl rfl rfl (fun r h1 hp => ?_)
    obtain ⟨⟨h9, rfl⟩ | ⟨h9, rfl⟩, rfl⟩ := hp
    · refine ⟨rfl, ?_⟩
      refine ar_if_ne (pc := 12) (tgt := 17) dX7_ifStood_12 (by decide) (fun c12 => ?_) (fun c12 => absurd c12 (by decide))
      refine ar_aload_n (i := 0) (pc := 17) dX7_ifStood_17 rfl rfl ?_
      refine ar_iload_n (i := 1) (pc := 18) dX7_ifStood_18 rfl rfl ?_
      refine ar_iload_n (i := 2) (pc := 19) dX7_ifStood_19 rfl rfl ?_
      refine ar_idV (pc := 20) dX7_ifStood_20 cal_X7_isOthers kX7_106 rfl (sX7_isOthers q n (pN z) R K.2.1.1 (show j < 8 by have := K.2.1.1; omega) p hp12) rfl rfl rfl rfl rfl rfl rfl (fun r h1 hp => ?_)
      obtain ⟨⟨h20, rfl⟩ | ⟨h20, rfl⟩, rfl⟩ := hp
      · refine ⟨rfl, ?_⟩
        refine ar_if_eq (pc := 23) (tgt := 31) dX7_ifStood_23 (by decide) (fun c23 => absurd c23 (by decide)) (fun c23 => ?_)
        refine ar_bipush (pc := 26) dX7_ifStood_26 q_bipush_m5 ?_
        refine ar_goto (tgt := 38) (pc := 28) dX7_ifStood_28 (by decide) ?_
        exact ar_iret (pc := 38) dX7_ifStood_38 rfl rfl rfl ⟨rfl, q, rfl, M⟩
      · refine ⟨rfl, ?_⟩
        refine ar_if_eq (pc := 23) (tgt := 31) dX7_ifStood_23 (by decide) (fun c23 => ?_) (fun c23 => absurd c23 (by decide))
        exact absurd ht h20
    · refine ⟨rfl, ?_⟩
      refine ar_if_ne (pc := 12) (tgt := 17) dX7_ifStood_12 (by decide) (fun c12 => absurd c12 (by decide)) (fun c12 => ?_)
      refine ar_iconst (pc := 15) dX7_ifStood_15 q_iconst_m1 ?_
      exact absurd (in_p hp12) h9
  · refine ⟨rfl, ?_⟩
    refine ar_if_eq (pc := 5) (tgt := 15) dX7_ifStood_5 (by decide) (fun c5 => ?_) (fun c5 => absurd c5 (by decide))
    refine ar_iconst (pc := 15) dX7_ifStood_15 q_iconst_m1 ?_
    exact absurd (bk_j K.2.1.1 hj) h2

theorem di_st {v : SV} {n j p : Nat} (K : ok_D v n) (hp : p < 12) (ht : ¬ tkP v n (nI p) j) : di_D (uP v (upd (vP v) j (nI p))) n := (ok_stand K (Or.inr (in_p hp)) ht).2.1.2.2.2.1
set_option maxHeartbeats 4000000 in
set_option maxRecDepth 100000 in
theorem sX7_ifStood_s (q : RV) (z : PV) (M : mr_R z q) (n : Nat) (K : ok_D (pN z) n) (R : ro_R 0 n (pN z) (rq_S q)) {j : Nat} (hj : j < n) {p : Nat} (hp12 : p < 12) (ht : ¬ tkP (pN z) n (nI p) j) : am_Sp mX7_ifStood [.ref 2, .int (nI j), .int (nI p)] (md_H q) (qq_P (crA (pN z) (lkT (pN z) n (nI j) 8) (nI p) (vH (pN z) j)) (z)) := by
  refine am_intro (by decide) (Nat.le_of_ble_eq_true rfl) ?_
  refine ar_aload_n (i := 0) (pc := 0) dX7_ifStood_0 rfl rfl ?_
  refine ar_iload_n (i := 1) (pc := 1) dX7_ifStood_1 rfl rfl ?_
  refine ar_idV (pc := 2) dX7_ifStood_2 cal_X7_isBooth kX7_100 rfl (sX7_isBooth q n (show rq_S q 7 = nI n by have h := roN R; rw [Nat.zero_add] at h; exact h) K.2.1.1 _) rfl rfl rfl rfl rfl rfl rfl (fun r h1 hp => ?_)
  obtain ⟨⟨h2, rfl⟩ | ⟨h2, rfl⟩, rfl⟩ := hp
  · refine ⟨rfl, ?_⟩
    refine ar_if_eq (pc := 5) (tgt := 15) dX7_ifStood_5 (by decide) (fun c5 => absurd c5 (by decide)) (fun c5 => ?_)
    refine ar_iload_n (i := 2) (pc := 8) dX7_ifStood_8 rfl rfl ?_
    refine ar_idS (pc := 9) dX7_ifStood_9 cal_X7_isPitch kX7_89 rfl (sX7_isPitch (md_H q) _) rfl rfl rfl rfl rfl (fun r h1 hp => ?_)
    obtain ⟨⟨h9, rfl⟩ | ⟨h9, rfl⟩, rfl⟩ := hp
    · refine ⟨rfl, ?_⟩
      refine ar_if_ne (pc := 12) (tgt := 17) dX7_ifStood_12 (by decide) (fun c12 => ?_) (fun c12 => absurd c12 (by decide))
      refine ar_aload_n (i := 0) (pc := 17) dX7_ifStood_17 rfl rfl ?_
      refine ar_iload_n (i := 1) (pc := 18) dX7_ifStood_18 rfl rfl ?_
      refine ar_iload_n (i := 2) (pc := 19) dX7_ifStood_19 rfl rfl ?_
      refine ar_idV (pc := 20) dX7_ifStood_20 cal_X7_isOthers kX7_106 rfl (sX7_isOthers q n (pN z) R K.2.1.1 (show j < 8 by have := K.2.1.1; omega) p hp12) rfl rfl rfl rfl rfl rfl rfl (fun r h1 hp => ?_)
      obtain ⟨⟨h20, rfl⟩ | ⟨h20, rfl⟩, rfl⟩ := hp
      · refine ⟨rfl, ?_⟩
        refine ar_if_eq (pc := 23) (tgt := 31) dX7_ifStood_23 (by decide) (fun c23 => absurd c23 (by decide)) (fun c23 => ?_)
        refine ar_bipush (pc := 26) dX7_ifStood_26 q_bipush_m5 ?_
        refine ar_goto (tgt := 38) (pc := 28) dX7_ifStood_28 (by decide) ?_
        exact absurd h20 ht
      · refine ⟨rfl, ?_⟩
        refine ar_if_eq (pc := 23) (tgt := 31) dX7_ifStood_23 (by decide) (fun c23 => ?_) (fun c23 => absurd c23 (by decide))
        refine ar_aload_n (i := 0) (pc := 31) dX7_ifStood_31 rfl rfl ?_
        refine ar_iconst (pc := 32) dX7_ifStood_32 q_iconst_0 ?_
        refine ar_iload_n (i := 1) (pc := 33) dX7_ifStood_33 rfl rfl ?_
        refine ar_iload_n (i := 2) (pc := 34) dX7_ifStood_34 rfl rfl ?_
        refine ar_idV (pc := 35) dX7_ifStood_35 cal_X7_crowdAt kX7_71 rfl (sX7_crowdAt0 q n (pN z) R K.2.1.1 hj hp12 (di_st K hp12 ht)) rfl rfl rfl rfl rfl rfl rfl (fun r h1 hp => ?_)
        obtain ⟨st, rfl, rfl⟩ := hp
        refine ⟨pat_md _ _, ?_⟩
        exact ar_iret (pc := 38) dX7_ifStood_38 rfl rfl rfl ⟨by rw [ca_cr K.2.1.1 hj hp12 (to_lkT K.2.1.2.2.2.1 (show j < 8 by have := K.2.1.1; omega)) (di_st K hp12 ht)], _, rfl, mr_askT M⟩
    · refine ⟨rfl, ?_⟩
      refine ar_if_ne (pc := 12) (tgt := 17) dX7_ifStood_12 (by decide) (fun c12 => absurd c12 (by decide)) (fun c12 => ?_)
      refine ar_iconst (pc := 15) dX7_ifStood_15 q_iconst_m1 ?_
      exact absurd (in_p hp12) h9
  · refine ⟨rfl, ?_⟩
    refine ar_if_eq (pc := 5) (tgt := 15) dX7_ifStood_5 (by decide) (fun c5 => ?_) (fun c5 => absurd c5 (by decide))
    refine ar_iconst (pc := 15) dX7_ifStood_15 q_iconst_m1 ?_
    exact absurd (bk_j K.2.1.1 hj) h2

