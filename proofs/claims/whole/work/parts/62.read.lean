/-! texts: shared pitches, read -/
theorem rd_ag {z : PV} {q : RV} (M : mr_R z q) : ∃ L, L ≤ 60 ∧ (pD z).1 = nI L ∧ rq_N q = nI L ∧ (rdZ z).2 = ft_V (rq_P q) L 8 1 0 ∧ ((rdZ z).2 = -6 → ∃ m, 1 ≤ m ∧ m ≤ 8 ∧ (rdZ z).1.1 = m ∧ go_D (rq_P q) L 0 m 0 (rdZ z).1) := by
  obtain ⟨L, h1, h2, h3, h4⟩ := M.2.2.2
  have a := ag_all (pd := rq_P q) (t := (pD z).2.1) (L := L) (fun i hi => (h4 i hi).1) h1 8 1 0 (0, (pD z).2.2.2) (by omega) (by omega) (by omega) (by omega) rfl
  rw [Nat.sub_zero] at a
  have e : fnF (pD z).2.1 L 0 0 (0, (pD z).2.2.2) = rdZ z := by rw [rdZ, h2, ix_nI (by omega)]
  rw [e] at a
  refine ⟨L, h1, h2, h3, a.1, fun hf => ?_⟩
  obtain ⟨m, m1, m2, m3, -, m5⟩ := a.2 (a.1.symm.trans hf)
  exact ⟨m, m1, by omega, by rw [m3]; omega, m5⟩
theorem bt_B : ∀ a, a < 64 → ∀ b, b < 64 → ∀ p, p < 12 → ((nI (64 * a + b) >>> (nI p &&& 31)) &&& 1 = 1 ↔ ¬ nI (64 * a + b) &&& bt1 (nI p) = 0) := by decide +kernel
theorem bt_e {n p : Nat} (h : n < 4096) (hp : p < 12) : (nI n >>> (nI p &&& 31)) &&& 1 = 1 ↔ ¬ nI n &&& bt1 (nI p) = 0 := by
  have := bt_B (n / 64) (by omega) (n % 64) (by omega) p hp
  rw [show 64 * (n / 64) + n % 64 = n by omega] at this
  exact this
theorem or_B {n p : Nat} (h : n < 4096) (hp : p < 12) : ∃ k, k < 4096 ∧ nI n ||| bt1 (nI p) = nI k := by
  have l2 : 2 ^ p < 4096 := by
    have := Nat.pow_le_pow_right (n := 2) (by omega) (show p ≤ 11 by omega)
    omega
  refine ⟨n ||| 2 ^ p, Nat.or_lt_two_pow (n := 12) (by omega) (by omega), ?_⟩
  unfold bt1
  rw [bit_N p hp]
  refine Int32.toBitVec_inj.mp ?_
  show BitVec.ofNat 32 n ||| BitVec.ofNat 32 (2 ^ p) = BitVec.ofNat 32 (n ||| 2 ^ p)
  refine BitVec.eq_of_toNat_eq ?_
  have := Nat.or_lt_two_pow (n := 12) (x := n) (y := 2 ^ p) (by omega) (by omega)
  rw [BitVec.toNat_or, BitVec.toNat_ofNat, BitVec.toNat_ofNat, BitVec.toNat_ofNat, Nat.mod_eq_of_lt (by omega), Nat.mod_eq_of_lt (by omega), Nat.mod_eq_of_lt (by omega)]
theorem or_z {x y c : Int32} (h : (x ||| y) &&& c = 0) : x &&& c = 0 ∧ y &&& c = 0 := by
  have hb : ∀ i, ((x.toBitVec ||| y.toBitVec) &&& c.toBitVec).getLsbD i = (0#32).getLsbD i := fun i => by
    have := congrArg Int32.toBitVec h
    rw [show ((x ||| y) &&& c).toBitVec = (x.toBitVec ||| y.toBitVec) &&& c.toBitVec from rfl] at this
    rw [this]
    rfl
  constructor
  · refine Int32.toBitVec_inj.mp (BitVec.eq_of_getLsbD_eq fun i hi => ?_)
    show (x.toBitVec &&& c.toBitVec).getLsbD i = (0#32).getLsbD i
    have := hb i
    rw [BitVec.getLsbD_and, BitVec.getLsbD_or] at this
    rw [BitVec.getLsbD_and]
    simp at this ⊢
    exact fun a => this (Or.inl a)
  · refine Int32.toBitVec_inj.mp (BitVec.eq_of_getLsbD_eq fun i hi => ?_)
    show (y.toBitVec &&& c.toBitVec).getLsbD i = (0#32).getLsbD i
    have := hb i
    rw [BitVec.getLsbD_and, BitVec.getLsbD_or] at this
    rw [BitVec.getLsbD_and]
    simp at this ⊢
    exact fun a => this (Or.inr a)
theorem bt_self : ∀ p, p < 12 → ¬ bt1 (nI p) &&& bt1 (nI p) = 0 := by decide +kernel
/-- no pitch twice -/
theorem shd_no {ps : Nat → Int32} : ∀ (d k : Nat) (tk : Int32), ¬ shd ps d k tk → (∀ j, k ≤ j → j < k + d → inP (ps j) → tk &&& bt1 (ps j) = 0) ∧ ∀ i j, k ≤ i → i < j → j < k + d → inP (ps j) → ps i ≠ ps j
  | 0, k, tk, _ => ⟨fun j h1 h2 => absurd h2 (by omega), fun i j h1 h2 h3 => absurd h3 (by omega)⟩
  | d + 1, k, tk, h => by
    by_cases ip : inP (ps k)
    · by_cases b : tk &&& bt1 (ps k) = 0
      · rw [shd_g ip rfl b] at h
        obtain ⟨h1, h2⟩ := shd_no d (k + 1) _ h
        refine ⟨fun j j1 j2 jp => ?_, fun i j i1 i2 i3 jp => ?_⟩
        · by_cases e : j = k
          · rw [e]; exact b
          · exact (or_z (h1 j (by omega) (by omega) jp)).1
        · by_cases e : i = k
          · intro z
            have h3 := (or_z (h1 j (by omega) (by omega) jp)).2
            rw [← z, e, ix_eq ip.1] at h3
            exact bt_self _ (by have := ip; unfold ix; omega) h3
          · exact h2 i j (by omega) i2 (by omega) jp
      · exact absurd (shd_y ip rfl b) h
    · rw [shd_n ip] at h
      obtain ⟨h1, h2⟩ := shd_no d (k + 1) _ h
      refine ⟨fun j j1 j2 jp => ?_, fun i j i1 i2 i3 jp => ?_⟩
      · by_cases e : j = k
        · rw [e] at jp; exact absurd jp ip
        · exact h1 j (by omega) (by omega) jp
      · by_cases e : i = k
        · intro z
          rw [e] at z
          rw [← z] at jp
          exact ip jp
        · exact h2 i j (by omega) i2 (by omega) jp
theorem ok_0 {v : SV} {n : Nat} (K : ok_D v n) : ok_D (uL (uBo v 0) (fun _ => -6)) 0 :=
  ok_of K rfl rfl rfl rfl nI_0.symm (by omega) (fun k hk => absurd hk (Nat.not_lt_zero k)) (fun i k hi => absurd hi (Nat.not_lt_zero i)) (fun k hk => absurd hk (Nat.not_lt_zero k)) (fun _ _ => Or.inl rfl) K.2.2.2.2.2.2
theorem rd_ok {v : SV} {n m : Nat} {Q : PQ} (K : ok_D v n) (hm : m ≤ 8) (hh : ∀ i, i < m → (1 ≤ (Q.2.1 i).toInt ∧ (Q.2.1 i).toInt ≤ 9) ∧ (Q.2.2 i = -6 ∨ inP (Q.2.2 i))) (hd : ∀ i j, i < j → j < m → inP (Q.2.2 j) → Q.2.2 i ≠ Q.2.2 j) : ∀ i, i ≤ m → ok_D (rdS v Q i) i ∧ ∀ k, k < i → vP (rdS v Q i) k = Q.2.2 k
  | 0, _ => ⟨ok_0 K, fun k hk => absurd hk (Nat.not_lt_zero k)⟩
  | i + 1, hi => by
    obtain ⟨h1, h2⟩ := rd_ok K hm hh hd i (by omega)
    have hx := hh i (by omega)
    refine ⟨ok_add h1 (by omega) hx.1 (hx.2.imp_right fun z => ⟨z, fun k hk => by rw [h2 k hk]; exact hd k i hk (by omega) z⟩), fun k hk => ?_⟩
    obtain ⟨g1, g2, g3, g4, g5, eH, eP, eL, -⟩ := ad_1 (rdS v Q i) i (Q.2.1 i) (Q.2.2 i)
    rw [rdS, eP]
    by_cases e : k = i
    · rw [e, pk_us]
    · rw [pk_un e]; exact h2 k (by omega)
theorem ro_0 {n : Nat} {v : SV} {s : Nat → Int32} (R : ro_R 0 n v s) : ro_R 0 0 (uBo v 0) (upd s 7 0) := by
  obtain ⟨a1, a2, a3, a4, a5, a6, a7, a8, a9⟩ := R
  exact ⟨fun k hk => (pk_un (by omega)).trans (a1 k hk), (pk_un (by omega)).trans a2, nI_0 ▸ pk_us, (pk_un (by omega)).trans a4, (pk_un (by omega)).trans a5, (pk_un (by omega)).trans a6, (pk_un (by omega)).trans a7, fun k hk => (pk_un (by omega)).trans (a8 k hk), fun k hk => absurd hk (Nat.not_lt_zero k)⟩
theorem or_0' (x : Int32) : x ||| 0 = x := by
  refine Int32.toBitVec_inj.mp ?_
  show x.toBitVec ||| 0#32 = x.toBitVec
  exact BitVec.or_zero
set_option maxHeartbeats 4000000 in
set_option maxRecDepth 100000 in
theorem lX7_isTwice (h0 : am_H) (q : RV) (L : Nat) (hL : L ≤ 60) (hl : rq_N q = nI L) (m : Nat) (hm : m ≤ 8) (Q : PQ) (D : go_D (rq_P q) L 0 m 0 Q) : ∀ (d i : Nat) (x tk : Int32) (o4 : Option Value), i + d = m → ((x = 1 ∧ shd Q.2.2 m 0 0) ∨ (x = 0 ∧ (shd Q.2.2 m 0 0 ↔ shd Q.2.2 d i tk) ∧ ∃ n, n < 4096 ∧ tk = nI n)) → am_RW mX7_isTwice h0 (am_bp (shd Q.2.2 m 0 0) (md_H q)) 0 0 6 [some (.ref 2), some (.int tk), some (.int x), some (.int (nI (it_V (rq_P q) L 0 i))), o4] [] (md_H q) := by
  intro d
  induction d with
  | zero =>
    intro i x tk o4 hi hI
    have e : i = m := by omega
    subst e
    rw [D.2]
    refine ar_iload_n (i := 3) (pc := 6) dX7_isTwice_6 rfl rfl ?_
    refine ar_aload_n (i := 0) (pc := 7) dX7_isTwice_7 rfl rfl ?_
    refine ar_getf (pc := 8) dX7_isTwice_8 fX7_130 rfl rfl ?_
    rw [hl]
    refine ar_icmp_ge (pc := 11) (tgt := 73) dX7_isTwice_11 (by decide) (fun c11 => ?_) (fun c11 => absurd ((nI_leI (by omega) (by omega)).mpr (by omega)) c11)
    refine ar_iload_n (i := 2) (pc := 73) dX7_isTwice_73 rfl rfl ?_
    rcases hI with ⟨rfl, hF⟩ | ⟨rfl, hF, -⟩
    · exact ar_zret (pc := 74) dX7_isTwice_74 rfl (Or.inr rfl) rfl rfl ⟨Or.inl ⟨hF, rfl⟩, rfl⟩
    · exact ar_zret (pc := 74) dX7_isTwice_74 rfl (Or.inl rfl) rfl rfl ⟨Or.inr ⟨fun z => hF.mp z, rfl⟩, rfl⟩
  | succ d ih =>
    intro i x tk o4 hi hI
    obtain ⟨d1, d2, d3, d4, d5, d6⟩ := D.1 i (by omega)
    rw [Nat.zero_add] at d3 d4 d5 d6
    have eit : nI (pE_V (rq_P q) L (it_V (rq_P q) L 0 i)).1 + 1 = nI (it_V (rq_P q) L 0 (i + 1)) := by rw [it_s, nI_1]
    have epv : pv_I (pE_V (rq_P q) L (it_V (rq_P q) L 0 i)) = nI (pE_V (rq_P q) L (it_V (rq_P q) L 0 i)).1 := by rw [pv_I, d1, if_neg (by decide)]
    rcases hI with ⟨rfl, hF⟩ | ⟨rfl, hF, htk⟩
    · rcases d6 with ep | ip
      · skip
        refine ar_iload_n (i := 3) (pc := 6) dX7_isTwice_6 rfl rfl ?_
        refine ar_aload_n (i := 0) (pc := 7) dX7_isTwice_7 rfl rfl ?_
        refine ar_getf (pc := 8) dX7_isTwice_8 fX7_130 rfl rfl ?_
        rw [hl]
        refine ar_icmp_ge (pc := 11) (tgt := 73) dX7_isTwice_11 (by decide) (fun c11 => absurd ((nI_leI (by omega) (by omega)).mp c11) (by omega)) (fun c11 => ?_)
        refine ar_aload_n (i := 0) (pc := 14) dX7_isTwice_14 rfl rfl ?_
        refine ar_iload_n (i := 3) (pc := 15) dX7_isTwice_15 rfl rfl ?_
        refine ar_idV (pc := 16) dX7_isTwice_16 cal_X7_pitchOf kX7_147 rfl (sX7_pitchOf q L hL hl (by omega) d1) rfl rfl rfl rfl rfl rfl rfl (fun r h1 hp => ?_)
        obtain ⟨rfl, rfl⟩ := hp
        refine ⟨rfl, ?_⟩
        rw [← d5, ep, pm_6]
        refine ar_istore (pc := 19) dX7_isTwice_19 (Nat.le_of_ble_eq_true rfl) rfl ?_
        refine ar_iload_n (i := 2) (pc := 21) dX7_isTwice_21 rfl rfl ?_
        refine ar_if_ne (pc := 22) (tgt := 40) dX7_isTwice_22 (by decide) (fun c22 => ?_) (fun c22 => absurd c22 (by decide))
        refine ar_iconst (pc := 40) dX7_isTwice_40 q_iconst_1 ?_
        refine ar_goto (tgt := 45) (pc := 41) dX7_isTwice_41 (by decide) ?_
        refine ar_istore_n (i := 2) (pc := 45) dX7_isTwice_45 rfl (Nat.le_of_ble_eq_true rfl) rfl ?_
        refine ar_iload_n (i := 1) (pc := 46) dX7_isTwice_46 rfl rfl ?_
        refine ar_iload (pc := 47) dX7_isTwice_47 rfl ?_
        refine ar_if_lt (pc := 49) (tgt := 59) dX7_isTwice_49 (by decide) (fun c49 => ?_) (fun c49 => absurd (by decide +kernel) c49)
        refine ar_iconst (pc := 59) dX7_isTwice_59 q_iconst_0 ?_
        refine ar_ior (pc := 60) dX7_isTwice_60 ?_
        rw [or_0']
        refine ar_istore_n (i := 1) (pc := 61) dX7_isTwice_61 rfl (Nat.le_of_ble_eq_true rfl) rfl ?_
        refine ar_aload_n (i := 0) (pc := 62) dX7_isTwice_62 rfl rfl ?_
        refine ar_iload_n (i := 3) (pc := 63) dX7_isTwice_63 rfl rfl ?_
        refine ar_idV (pc := 64) dX7_isTwice_64 cal_X7_partEnd kX7_144 rfl (sX7_partEnd q L hL hl (by omega)) rfl rfl rfl rfl rfl rfl rfl (fun r h1 hp => ?_)
        obtain ⟨rfl, rfl⟩ := hp
        refine ⟨rfl, ?_⟩
        rw [epv]
        refine ar_iconst (pc := 67) dX7_isTwice_67 q_iconst_1 ?_
        refine ar_iadd (pc := 68) dX7_isTwice_68 ?_
        rw [eit]
        refine ar_istore_n (i := 3) (pc := 69) dX7_isTwice_69 rfl (Nat.le_of_ble_eq_true rfl) rfl ?_
        refine ar_goto (tgt := 6) (pc := 70) dX7_isTwice_70 (by decide) ?_
        exact ih (i + 1) 1 _ _ (by omega) (Or.inl ⟨rfl, hF⟩)
      · obtain ⟨o, ho, eo⟩ : ∃ o, o < 12 ∧ Q.2.2 i = nI o := ⟨ix (Q.2.2 i), by have := ip; unfold ix; omega, ix_eq ip.1⟩
        refine ar_iload_n (i := 3) (pc := 6) dX7_isTwice_6 rfl rfl ?_
        refine ar_aload_n (i := 0) (pc := 7) dX7_isTwice_7 rfl rfl ?_
        refine ar_getf (pc := 8) dX7_isTwice_8 fX7_130 rfl rfl ?_
        rw [hl]
        refine ar_icmp_ge (pc := 11) (tgt := 73) dX7_isTwice_11 (by decide) (fun c11 => absurd ((nI_leI (by omega) (by omega)).mp c11) (by omega)) (fun c11 => ?_)
        refine ar_aload_n (i := 0) (pc := 14) dX7_isTwice_14 rfl rfl ?_
        refine ar_iload_n (i := 3) (pc := 15) dX7_isTwice_15 rfl rfl ?_
        refine ar_idV (pc := 16) dX7_isTwice_16 cal_X7_pitchOf kX7_147 rfl (sX7_pitchOf q L hL hl (by omega) d1) rfl rfl rfl rfl rfl rfl rfl (fun r h1 hp => ?_)
        obtain ⟨rfl, rfl⟩ := hp
        refine ⟨rfl, ?_⟩
        rw [← d5, eo, pm_nI (by omega)]
        refine ar_istore (pc := 19) dX7_isTwice_19 (Nat.le_of_ble_eq_true rfl) rfl ?_
        refine ar_iload_n (i := 2) (pc := 21) dX7_isTwice_21 rfl rfl ?_
        refine ar_if_ne (pc := 22) (tgt := 40) dX7_isTwice_22 (by decide) (fun c22 => ?_) (fun c22 => absurd c22 (by decide))
        refine ar_iconst (pc := 40) dX7_isTwice_40 q_iconst_1 ?_
        refine ar_goto (tgt := 45) (pc := 41) dX7_isTwice_41 (by decide) ?_
        refine ar_istore_n (i := 2) (pc := 45) dX7_isTwice_45 rfl (Nat.le_of_ble_eq_true rfl) rfl ?_
        refine ar_iload_n (i := 1) (pc := 46) dX7_isTwice_46 rfl rfl ?_
        refine ar_iload (pc := 47) dX7_isTwice_47 rfl ?_
        refine ar_if_lt (pc := 49) (tgt := 59) dX7_isTwice_49 (by decide) (fun c49 => absurd c49 (nI_pos (by omega))) (fun c49 => ?_)
        refine ar_iconst (pc := 52) dX7_isTwice_52 q_iconst_1 ?_
        refine ar_iload (pc := 53) dX7_isTwice_53 rfl ?_
        refine ar_ishl (pc := 55) dX7_isTwice_55 ?_
        refine ar_goto (tgt := 60) (pc := 56) dX7_isTwice_56 (by decide) ?_
        refine ar_ior (pc := 60) dX7_isTwice_60 ?_
        refine ar_istore_n (i := 1) (pc := 61) dX7_isTwice_61 rfl (Nat.le_of_ble_eq_true rfl) rfl ?_
        refine ar_aload_n (i := 0) (pc := 62) dX7_isTwice_62 rfl rfl ?_
        refine ar_iload_n (i := 3) (pc := 63) dX7_isTwice_63 rfl rfl ?_
        refine ar_idV (pc := 64) dX7_isTwice_64 cal_X7_partEnd kX7_144 rfl (sX7_partEnd q L hL hl (by omega)) rfl rfl rfl rfl rfl rfl rfl (fun r h1 hp => ?_)
        obtain ⟨rfl, rfl⟩ := hp
        refine ⟨rfl, ?_⟩
        rw [epv]
        refine ar_iconst (pc := 67) dX7_isTwice_67 q_iconst_1 ?_
        refine ar_iadd (pc := 68) dX7_isTwice_68 ?_
        rw [eit]
        refine ar_istore_n (i := 3) (pc := 69) dX7_isTwice_69 rfl (Nat.le_of_ble_eq_true rfl) rfl ?_
        refine ar_goto (tgt := 6) (pc := 70) dX7_isTwice_70 (by decide) ?_
        exact ih (i + 1) 1 _ _ (by omega) (Or.inl ⟨rfl, hF⟩)
    · rcases d6 with ep | ip
      · skip
        refine ar_iload_n (i := 3) (pc := 6) dX7_isTwice_6 rfl rfl ?_
        refine ar_aload_n (i := 0) (pc := 7) dX7_isTwice_7 rfl rfl ?_
        refine ar_getf (pc := 8) dX7_isTwice_8 fX7_130 rfl rfl ?_
        rw [hl]
        refine ar_icmp_ge (pc := 11) (tgt := 73) dX7_isTwice_11 (by decide) (fun c11 => absurd ((nI_leI (by omega) (by omega)).mp c11) (by omega)) (fun c11 => ?_)
        refine ar_aload_n (i := 0) (pc := 14) dX7_isTwice_14 rfl rfl ?_
        refine ar_iload_n (i := 3) (pc := 15) dX7_isTwice_15 rfl rfl ?_
        refine ar_idV (pc := 16) dX7_isTwice_16 cal_X7_pitchOf kX7_147 rfl (sX7_pitchOf q L hL hl (by omega) d1) rfl rfl rfl rfl rfl rfl rfl (fun r h1 hp => ?_)
        obtain ⟨rfl, rfl⟩ := hp
        refine ⟨rfl, ?_⟩
        rw [← d5, ep, pm_6]
        refine ar_istore (pc := 19) dX7_isTwice_19 (Nat.le_of_ble_eq_true rfl) rfl ?_
        refine ar_iload_n (i := 2) (pc := 21) dX7_isTwice_21 rfl rfl ?_
        refine ar_if_ne (pc := 22) (tgt := 40) dX7_isTwice_22 (by decide) (fun c22 => absurd rfl c22) (fun c22 => ?_)
        refine ar_iload (pc := 25) dX7_isTwice_25 rfl ?_
        refine ar_if_lt (pc := 27) (tgt := 44) dX7_isTwice_27 (by decide) (fun c27 => ?_) (fun c27 => absurd (by decide +kernel) c27)
        refine ar_iconst (pc := 44) dX7_isTwice_44 q_iconst_0 ?_
        refine ar_istore_n (i := 2) (pc := 45) dX7_isTwice_45 rfl (Nat.le_of_ble_eq_true rfl) rfl ?_
        refine ar_iload_n (i := 1) (pc := 46) dX7_isTwice_46 rfl rfl ?_
        refine ar_iload (pc := 47) dX7_isTwice_47 rfl ?_
        refine ar_if_lt (pc := 49) (tgt := 59) dX7_isTwice_49 (by decide) (fun c49 => ?_) (fun c49 => absurd (by decide +kernel) c49)
        refine ar_iconst (pc := 59) dX7_isTwice_59 q_iconst_0 ?_
        refine ar_ior (pc := 60) dX7_isTwice_60 ?_
        rw [or_0']
        refine ar_istore_n (i := 1) (pc := 61) dX7_isTwice_61 rfl (Nat.le_of_ble_eq_true rfl) rfl ?_
        refine ar_aload_n (i := 0) (pc := 62) dX7_isTwice_62 rfl rfl ?_
        refine ar_iload_n (i := 3) (pc := 63) dX7_isTwice_63 rfl rfl ?_
        refine ar_idV (pc := 64) dX7_isTwice_64 cal_X7_partEnd kX7_144 rfl (sX7_partEnd q L hL hl (by omega)) rfl rfl rfl rfl rfl rfl rfl (fun r h1 hp => ?_)
        obtain ⟨rfl, rfl⟩ := hp
        refine ⟨rfl, ?_⟩
        rw [epv]
        refine ar_iconst (pc := 67) dX7_isTwice_67 q_iconst_1 ?_
        refine ar_iadd (pc := 68) dX7_isTwice_68 ?_
        rw [eit]
        refine ar_istore_n (i := 3) (pc := 69) dX7_isTwice_69 rfl (Nat.le_of_ble_eq_true rfl) rfl ?_
        refine ar_goto (tgt := 6) (pc := 70) dX7_isTwice_70 (by decide) ?_
        exact ih (i + 1) 0 _ _ (by omega) (Or.inr ⟨rfl, by rw [hF, shd_n (by rw [ep]; exact inP_6)], htk⟩)
      · obtain ⟨o, ho, eo⟩ : ∃ o, o < 12 ∧ Q.2.2 i = nI o := ⟨ix (Q.2.2 i), by have := ip; unfold ix; omega, ix_eq ip.1⟩
        obtain ⟨nn, hn, rfl⟩ := htk
        refine ar_iload_n (i := 3) (pc := 6) dX7_isTwice_6 rfl rfl ?_
        refine ar_aload_n (i := 0) (pc := 7) dX7_isTwice_7 rfl rfl ?_
        refine ar_getf (pc := 8) dX7_isTwice_8 fX7_130 rfl rfl ?_
        rw [hl]
        refine ar_icmp_ge (pc := 11) (tgt := 73) dX7_isTwice_11 (by decide) (fun c11 => absurd ((nI_leI (by omega) (by omega)).mp c11) (by omega)) (fun c11 => ?_)
        refine ar_aload_n (i := 0) (pc := 14) dX7_isTwice_14 rfl rfl ?_
        refine ar_iload_n (i := 3) (pc := 15) dX7_isTwice_15 rfl rfl ?_
        refine ar_idV (pc := 16) dX7_isTwice_16 cal_X7_pitchOf kX7_147 rfl (sX7_pitchOf q L hL hl (by omega) d1) rfl rfl rfl rfl rfl rfl rfl (fun r h1 hp => ?_)
        obtain ⟨rfl, rfl⟩ := hp
        refine ⟨rfl, ?_⟩
        rw [← d5, eo, pm_nI (by omega)]
        refine ar_istore (pc := 19) dX7_isTwice_19 (Nat.le_of_ble_eq_true rfl) rfl ?_
        refine ar_iload_n (i := 2) (pc := 21) dX7_isTwice_21 rfl rfl ?_
        refine ar_if_ne (pc := 22) (tgt := 40) dX7_isTwice_22 (by decide) (fun c22 => absurd rfl c22) (fun c22 => ?_)
        refine ar_iload (pc := 25) dX7_isTwice_25 rfl ?_
        refine ar_if_lt (pc := 27) (tgt := 44) dX7_isTwice_27 (by decide) (fun c27 => absurd c27 (nI_pos (by omega))) (fun c27 => ?_)
        refine ar_iload_n (i := 1) (pc := 30) dX7_isTwice_30 rfl rfl ?_
        refine ar_iload (pc := 31) dX7_isTwice_31 rfl ?_
        refine ar_ishr (pc := 33) dX7_isTwice_33 ?_
        refine ar_iconst (pc := 34) dX7_isTwice_34 q_iconst_1 ?_
        refine ar_iand (pc := 35) dX7_isTwice_35 ?_
        refine ar_iconst (pc := 36) dX7_isTwice_36 q_iconst_1 ?_
        refine ar_icmp_ne (pc := 37) (tgt := 44) dX7_isTwice_37 (by decide) (fun c37 => ?_) (fun c37 => ?_)
        · refine ar_iconst (pc := 44) dX7_isTwice_44 q_iconst_0 ?_
          refine ar_istore_n (i := 2) (pc := 45) dX7_isTwice_45 rfl (Nat.le_of_ble_eq_true rfl) rfl ?_
          refine ar_iload_n (i := 1) (pc := 46) dX7_isTwice_46 rfl rfl ?_
          refine ar_iload (pc := 47) dX7_isTwice_47 rfl ?_
          refine ar_if_lt (pc := 49) (tgt := 59) dX7_isTwice_49 (by decide) (fun c49 => absurd c49 (nI_pos (by omega))) (fun c49 => ?_)
          refine ar_iconst (pc := 52) dX7_isTwice_52 q_iconst_1 ?_
          refine ar_iload (pc := 53) dX7_isTwice_53 rfl ?_
          refine ar_ishl (pc := 55) dX7_isTwice_55 ?_
          refine ar_goto (tgt := 60) (pc := 56) dX7_isTwice_56 (by decide) ?_
          refine ar_ior (pc := 60) dX7_isTwice_60 ?_
          refine ar_istore_n (i := 1) (pc := 61) dX7_isTwice_61 rfl (Nat.le_of_ble_eq_true rfl) rfl ?_
          refine ar_aload_n (i := 0) (pc := 62) dX7_isTwice_62 rfl rfl ?_
          refine ar_iload_n (i := 3) (pc := 63) dX7_isTwice_63 rfl rfl ?_
          refine ar_idV (pc := 64) dX7_isTwice_64 cal_X7_partEnd kX7_144 rfl (sX7_partEnd q L hL hl (by omega)) rfl rfl rfl rfl rfl rfl rfl (fun r h1 hp => ?_)
          obtain ⟨rfl, rfl⟩ := hp
          refine ⟨rfl, ?_⟩
          rw [epv]
          refine ar_iconst (pc := 67) dX7_isTwice_67 q_iconst_1 ?_
          refine ar_iadd (pc := 68) dX7_isTwice_68 ?_
          rw [eit]
          refine ar_istore_n (i := 3) (pc := 69) dX7_isTwice_69 rfl (Nat.le_of_ble_eq_true rfl) rfl ?_
          refine ar_goto (tgt := 6) (pc := 70) dX7_isTwice_70 (by decide) ?_
          obtain ⟨n2, hn2, en2⟩ := or_B hn ho
          rw [bt1_e, en2]
          exact ih (i + 1) 0 _ _ (by omega) (Or.inr ⟨rfl, by rw [hF, shd_g (b := bt1 (nI o)) (by rw [eo]; exact in_p ho) (by rw [eo]) (Classical.not_not.mp fun z => c37 ((bt_e hn ho).mpr z)), en2], n2, hn2, rfl⟩)
        · refine ar_iconst (pc := 40) dX7_isTwice_40 q_iconst_1 ?_
          refine ar_goto (tgt := 45) (pc := 41) dX7_isTwice_41 (by decide) ?_
          refine ar_istore_n (i := 2) (pc := 45) dX7_isTwice_45 rfl (Nat.le_of_ble_eq_true rfl) rfl ?_
          refine ar_iload_n (i := 1) (pc := 46) dX7_isTwice_46 rfl rfl ?_
          refine ar_iload (pc := 47) dX7_isTwice_47 rfl ?_
          refine ar_if_lt (pc := 49) (tgt := 59) dX7_isTwice_49 (by decide) (fun c49 => absurd c49 (nI_pos (by omega))) (fun c49 => ?_)
          refine ar_iconst (pc := 52) dX7_isTwice_52 q_iconst_1 ?_
          refine ar_iload (pc := 53) dX7_isTwice_53 rfl ?_
          refine ar_ishl (pc := 55) dX7_isTwice_55 ?_
          refine ar_goto (tgt := 60) (pc := 56) dX7_isTwice_56 (by decide) ?_
          refine ar_ior (pc := 60) dX7_isTwice_60 ?_
          refine ar_istore_n (i := 1) (pc := 61) dX7_isTwice_61 rfl (Nat.le_of_ble_eq_true rfl) rfl ?_
          refine ar_aload_n (i := 0) (pc := 62) dX7_isTwice_62 rfl rfl ?_
          refine ar_iload_n (i := 3) (pc := 63) dX7_isTwice_63 rfl rfl ?_
          refine ar_idV (pc := 64) dX7_isTwice_64 cal_X7_partEnd kX7_144 rfl (sX7_partEnd q L hL hl (by omega)) rfl rfl rfl rfl rfl rfl rfl (fun r h1 hp => ?_)
          obtain ⟨rfl, rfl⟩ := hp
          refine ⟨rfl, ?_⟩
          rw [epv]
          refine ar_iconst (pc := 67) dX7_isTwice_67 q_iconst_1 ?_
          refine ar_iadd (pc := 68) dX7_isTwice_68 ?_
          rw [eit]
          refine ar_istore_n (i := 3) (pc := 69) dX7_isTwice_69 rfl (Nat.le_of_ble_eq_true rfl) rfl ?_
          refine ar_goto (tgt := 6) (pc := 70) dX7_isTwice_70 (by decide) ?_
          exact ih (i + 1) 1 _ _ (by omega) (Or.inl ⟨rfl, hF.mpr (shd_y (by rw [eo]; exact in_p ho) rfl (by rw [eo]; exact (bt_e hn ho).mp c37))⟩)
set_option maxHeartbeats 4000000 in
set_option maxRecDepth 100000 in
theorem sX7_isTwice (q : RV) (L : Nat) (hL : L ≤ 60) (hl : rq_N q = nI L) (m : Nat) (hm : m ≤ 8) (Q : PQ) (D : go_D (rq_P q) L 0 m 0 Q) : am_Sp mX7_isTwice [.ref 2] (md_H q) (am_bp (shd Q.2.2 m 0 0) (md_H q)) := by
  refine am_intro (by decide) (Nat.le_of_ble_eq_true rfl) ?_
  refine ar_iconst (pc := 0) dX7_isTwice_0 q_iconst_0 ?_
  refine ar_istore_n (i := 1) (pc := 1) dX7_isTwice_1 rfl (Nat.le_of_ble_eq_true rfl) rfl ?_
  refine ar_iconst (pc := 2) dX7_isTwice_2 q_iconst_0 ?_
  refine ar_istore_n (i := 2) (pc := 3) dX7_isTwice_3 rfl (Nat.le_of_ble_eq_true rfl) rfl ?_
  refine ar_iconst (pc := 4) dX7_isTwice_4 q_iconst_0 ?_
  refine ar_istore_n (i := 3) (pc := 5) dX7_isTwice_5 rfl (Nat.le_of_ble_eq_true rfl) rfl ?_
  rw [← nI_0]
  have h := lX7_isTwice (md_H q) q L hL hl m hm Q D m 0 (nI 0) (nI 0) none (by omega) (Or.inr ⟨nI_0, by rw [nI_0], 0, by omega, rfl⟩)
  exact h

theorem sX7_faultZ (q : RV) (z : PV) (M : mr_R z q) : am_Sp mX7_fault [.ref 2] (md_H q) (am_rp (rdZ z).2 (md_H q)) := by
  obtain ⟨L, h1, h2, h3, h4, -⟩ := rd_ag M
  rw [h4]
  exact sX7_fault q L h1 h3
theorem sX7_faultQ (q : RV) (z : PV) (M : mr_R z q) : am_Sp mX7_fault [.ref 2] (md_H q) (qq_P (rdZ z).2 z) := am_wk (sX7_faultZ q z M) (fun r h1 h => ⟨h.1, q, h.2, M⟩)
set_option maxHeartbeats 4000000 in
set_option maxRecDepth 100000 in
theorem sX7_read_b (q : RV) (z : PV) (M : mr_R z q) (n : Nat) (K : ok_D (pN z) n) (R : ro_R 0 n (pN z) (rq_S q)) (hb : (rdZ z).2 ≠ -6) : am_Sp mX7_read [.ref 2] (md_H q) (qq_P (-3) (z)) := by
  refine am_intro (by decide) (Nat.le_of_ble_eq_true rfl) ?_
  refine ar_aload_n (i := 0) (pc := 0) dX7_read_0 rfl rfl ?_
  refine ar_idV (pc := 1) dX7_read_1 cal_X7_fault kX7_150 rfl (sX7_faultZ q z M) rfl rfl rfl rfl rfl rfl rfl (fun r h1 hp => ?_)
  obtain ⟨rfl, rfl⟩ := hp
  refine ⟨rfl, ?_⟩
  refine ar_bipush (pc := 4) dX7_read_4 q_bipush_m6 ?_
  refine ar_icmp_eq (pc := 6) (tgt := 12) dX7_read_6 (by decide) (fun c6 => absurd c6 hb) (fun c6 => ?_)
  refine ar_bipush (pc := 9) dX7_read_9 q_bipush_m3 ?_
  exact ar_iret (pc := 11) dX7_read_11 rfl rfl rfl ⟨rfl, q, rfl, M⟩

set_option maxHeartbeats 4000000 in
set_option maxRecDepth 100000 in
theorem sX7_read_t (q : RV) (z : PV) (M : mr_R z q) (n : Nat) (K : ok_D (pN z) n) (R : ro_R 0 n (pN z) (rq_S q)) (hb : (rdZ z).2 = -6) (L : Nat) (hL : L ≤ 60) (hl : rq_N q = nI L) (m : Nat) (hm : m ≤ 8) (D : go_D (rq_P q) L 0 m 0 (rdZ z).1) (hs : shd (rdZ z).1.2.2 m 0 0) : am_Sp mX7_read [.ref 2] (md_H q) (qq_P (-5) (z)) := by
  refine am_intro (by decide) (Nat.le_of_ble_eq_true rfl) ?_
  refine ar_aload_n (i := 0) (pc := 0) dX7_read_0 rfl rfl ?_
  refine ar_idV (pc := 1) dX7_read_1 cal_X7_fault kX7_150 rfl (sX7_faultZ q z M) rfl rfl rfl rfl rfl rfl rfl (fun r h1 hp => ?_)
  obtain ⟨rfl, rfl⟩ := hp
  refine ⟨rfl, ?_⟩
  refine ar_bipush (pc := 4) dX7_read_4 q_bipush_m6 ?_
  refine ar_icmp_eq (pc := 6) (tgt := 12) dX7_read_6 (by decide) (fun c6 => ?_) (fun c6 => absurd hb c6)
  refine ar_aload_n (i := 0) (pc := 12) dX7_read_12 rfl rfl ?_
  refine ar_idV (pc := 13) dX7_read_13 cal_X7_isTwice kX7_153 rfl (sX7_isTwice q L hL hl m hm (rdZ z).1 D) rfl rfl rfl rfl rfl rfl rfl (fun r h1 hp => ?_)
  obtain ⟨⟨h13, rfl⟩ | ⟨h13, rfl⟩, rfl⟩ := hp
  · refine ⟨rfl, ?_⟩
    refine ar_if_eq (pc := 16) (tgt := 22) dX7_read_16 (by decide) (fun c16 => absurd c16 (by decide)) (fun c16 => ?_)
    refine ar_bipush (pc := 19) dX7_read_19 q_bipush_m5 ?_
    exact ar_iret (pc := 21) dX7_read_21 rfl rfl rfl ⟨rfl, q, rfl, M⟩
  · refine ⟨rfl, ?_⟩
    refine ar_if_eq (pc := 16) (tgt := 22) dX7_read_16 (by decide) (fun c16 => ?_) (fun c16 => absurd c16 (by decide))
    exact absurd hs h13

theorem mr_read {z : PV} {q : RV} (M : mr_R z q) {v : SV} {s : Nat → Int32} {d : (Nat → Int32) × PQ} (hs : sl_R 0 v s) : mr_R (sD (sN (rcZ (rdA z)) v) (0, d)) (ru_N (ru_S (rm_Q q (pY z).2.2) s) 0) := by
  obtain ⟨m1, m2, m3, m4⟩ := M
  exact ⟨hs, hi_rec m2 m1, m3, ⟨0, by omega, nI_0.symm, nI_0.symm, fun i hi => absurd hi (Nat.not_lt_zero i)⟩⟩
set_option maxHeartbeats 4000000 in
set_option maxRecDepth 100000 in
theorem lX7_read_40 (h0 : am_H) (q : RV) (z : PV) (M : mr_R z q) (n : Nat) (K : ok_D (pN z) n) (R : ro_R 0 n (pN z) (rq_S q)) (L : Nat) (hL : L ≤ 60) (hl : rq_N q = nI L) (m : Nat) (hm : m ≤ 8) (D : go_D (rq_P q) L 0 m 0 (rdZ z).1) (ho : ok_D (rdS (pN z) (rdZ z).1 m) m) : ∀ (d i : Nat) (s : Nat → Int32), i + d = m → ro_R 0 i (rdS (pN z) (rdZ z).1 i) s → am_RW mX7_read h0 (qq_P (nI m) (sD (sN (rcZ (rdA z)) (rdS (pN z) (rdZ z).1 m)) (0, (pD z).2.1, (rdZ z).1))) 0 0 40 [some (.ref 2), some (.int (nI (it_V (rq_P q) L 0 i)))] [] (md_H (ru_S (rm_Q q (pY z).2.2) s)) := by
  intro d
  induction d with
  | zero =>
    intro i s hi R2
    have e : i = m := by omega
    subst e
    rw [D.2]
    refine ar_iload_n (i := 1) (pc := 40) dX7_read_40 rfl rfl ?_
    refine ar_aload_n (i := 0) (pc := 41) dX7_read_41 rfl rfl ?_
    refine ar_getf (pc := 42) dX7_read_42 fX7_130 rfl rfl ?_
    rw [show rq_N (ru_S (rm_Q q (pY z).2.2) s) = nI L from hl]
    refine ar_icmp_ge (pc := 45) (tgt := 73) dX7_read_45 (by decide) (fun c45 => ?_) (fun c45 => absurd ((nI_leI (by omega) (by omega)).mpr (by omega)) c45)
    refine ar_aload_n (i := 0) (pc := 73) dX7_read_73 rfl rfl ?_
    refine ar_iconst (pc := 74) dX7_read_74 q_iconst_0 ?_
    refine ar_putf (pc := 75) dX7_read_75 fX7_130 rfl (Nat.le_of_ble_eq_true rfl) (fun _ => ⟨rfl, rfl⟩) ?_
    rw [md_N]
    refine ar_aload_n (i := 0) (pc := 78) dX7_read_78 rfl rfl ?_
    refine ar_getf (pc := 79) dX7_read_79 fX7_7 rfl rfl ?_
    refine ar_bipush (pc := 82) dX7_read_82 q_bipush_7 ?_
    refine ar_iald (pc := 84) dX7_read_84 rfl (show 7 < 120 by decide) rfl ?_
    rw [show rq_S (ru_N (ru_S (rm_Q q (pY z).2.2) s) 0) 7 = nI i by have h := roN R2; rw [Nat.zero_add] at h; exact h]
    exact ar_iret (pc := 85) dX7_read_85 rfl rfl rfl ⟨rfl, _, rfl, mr_read M ⟨i, ho, R2⟩⟩
  | succ d ih =>
    intro i s hi R2
    obtain ⟨d1, d2, d3, d4, d5, d6⟩ := D.1 i (by omega)
    rw [Nat.zero_add] at d3 d4 d5 d6
    have eit : nI (pE_V (rq_P q) L (it_V (rq_P q) L 0 i)).1 + 1 = nI (it_V (rq_P q) L 0 (i + 1)) := by rw [it_s, nI_1]
    have epv : pv_I (pE_V (rq_P q) L (it_V (rq_P q) L 0 i)) = nI (pE_V (rq_P q) L (it_V (rq_P q) L 0 i)).1 := by rw [pv_I, d1, if_neg (by decide)]
    refine ar_iload_n (i := 1) (pc := 40) dX7_read_40 rfl rfl ?_
    refine ar_aload_n (i := 0) (pc := 41) dX7_read_41 rfl rfl ?_
    refine ar_getf (pc := 42) dX7_read_42 fX7_130 rfl rfl ?_
    rw [show rq_N (ru_S (rm_Q q (pY z).2.2) s) = nI L from hl]
    refine ar_icmp_ge (pc := 45) (tgt := 73) dX7_read_45 (by decide) (fun c45 => absurd ((nI_leI (by omega) (by omega)).mp c45) (by omega)) (fun c45 => ?_)
    refine ar_aload_n (i := 0) (pc := 48) dX7_read_48 rfl rfl ?_
    refine ar_aload_n (i := 0) (pc := 49) dX7_read_49 rfl rfl ?_
    refine ar_iload_n (i := 1) (pc := 50) dX7_read_50 rfl rfl ?_
    refine ar_idV (pc := 51) dX7_read_51 cal_X7_digit kX7_141 rfl (sX7_digit (ru_S (rm_Q q (pY z).2.2) s) L hL hl (i := it_V (rq_P q) L 0 i) (by omega)) rfl rfl rfl rfl rfl rfl rfl (fun r h1 hp => ?_)
    obtain ⟨rfl, rfl⟩ := hp
    refine ⟨rfl, ?_⟩
    rw [show dg_V (rq_P (ru_S (rm_Q q (pY z).2.2) s)) L (it_V (rq_P q) L 0 i) = (rdZ z).1.2.1 i from d3.symm]
    refine ar_aload_n (i := 0) (pc := 54) dX7_read_54 rfl rfl ?_
    refine ar_iload_n (i := 1) (pc := 55) dX7_read_55 rfl rfl ?_
    refine ar_idV (pc := 56) dX7_read_56 cal_X7_pitchOf kX7_147 rfl (sX7_pitchOf (ru_S (rm_Q q (pY z).2.2) s) L hL hl (p := it_V (rq_P q) L 0 i) (by omega) d1) rfl rfl rfl rfl rfl rfl rfl (fun r h1 hp => ?_)
    obtain ⟨rfl, rfl⟩ := hp
    refine ⟨rfl, ?_⟩
    rw [show pO_V (rq_P (ru_S (rm_Q q (pY z).2.2) s)) L (it_V (rq_P q) L 0 i) = pm_ ((rdZ z).1.2.2 i) from d5.symm]
    refine ar_idV (pc := 59) dX7_read_59 cal_X7_comes kX7_97 rfl (sX7_comes (ru_S (rm_Q q (pY z).2.2) s) i (rdS (pN z) (rdZ z).1 i) R2 (by omega) ((rdZ z).1.2.1 i) ((rdZ z).1.2.2 i)) rfl rfl rfl rfl rfl rfl rfl (fun r h1 hp => ?_)
    obtain ⟨s2, rfl, rfl, R3⟩ := hp
    refine ⟨pat_md _ _, ?_⟩
    refine ar_aload_n (i := 0) (pc := 62) dX7_read_62 rfl rfl ?_
    refine ar_iload_n (i := 1) (pc := 63) dX7_read_63 rfl rfl ?_
    refine ar_idV (pc := 64) dX7_read_64 cal_X7_partEnd kX7_144 rfl (sX7_partEnd (ru_S (ru_S (rm_Q q (pY z).2.2) s) s2) L hL hl (p := it_V (rq_P q) L 0 i) (by omega)) rfl rfl rfl rfl rfl rfl rfl (fun r h1 hp => ?_)
    obtain ⟨rfl, rfl⟩ := hp
    refine ⟨rfl, ?_⟩
    rw [show pv_I (pE_V (rq_P (ru_S (ru_S (rm_Q q (pY z).2.2) s) s2)) L (it_V (rq_P q) L 0 i)) = nI (pE_V (rq_P q) L (it_V (rq_P q) L 0 i)).1 from epv]
    refine ar_iconst (pc := 67) dX7_read_67 q_iconst_1 ?_
    refine ar_iadd (pc := 68) dX7_read_68 ?_
    rw [eit]
    refine ar_istore_n (i := 1) (pc := 69) dX7_read_69 rfl (Nat.le_of_ble_eq_true rfl) rfl ?_
    refine ar_goto (tgt := 40) (pc := 70) dX7_read_70 (by decide) ?_
    rw [ru_SS]
    exact ih (i + 1) s2 (by omega) R3
set_option maxHeartbeats 4000000 in
set_option maxRecDepth 100000 in
theorem sX7_read_s (q : RV) (z : PV) (M : mr_R z q) (n : Nat) (K : ok_D (pN z) n) (R : ro_R 0 n (pN z) (rq_S q)) (hb : (rdZ z).2 = -6) (L : Nat) (hL : L ≤ 60) (hl : rq_N q = nI L) (m : Nat) (hm : m ≤ 8) (D : go_D (rq_P q) L 0 m 0 (rdZ z).1) (hs : ¬ shd (rdZ z).1.2.2 m 0 0) : am_Sp mX7_read [.ref 2] (md_H q) (qq_P (nI m) (sD (sN (rcZ (rdA z)) (rdS (pN z) (rdZ z).1 m)) (0, (pD z).2.1, (rdZ z).1))) := by
  refine am_intro (by decide) (Nat.le_of_ble_eq_true rfl) ?_
  refine ar_aload_n (i := 0) (pc := 0) dX7_read_0 rfl rfl ?_
  refine ar_idV (pc := 1) dX7_read_1 cal_X7_fault kX7_150 rfl (sX7_faultZ q z M) rfl rfl rfl rfl rfl rfl rfl (fun r h1 hp => ?_)
  obtain ⟨rfl, rfl⟩ := hp
  refine ⟨rfl, ?_⟩
  refine ar_bipush (pc := 4) dX7_read_4 q_bipush_m6 ?_
  refine ar_icmp_eq (pc := 6) (tgt := 12) dX7_read_6 (by decide) (fun c6 => ?_) (fun c6 => absurd hb c6)
  refine ar_aload_n (i := 0) (pc := 12) dX7_read_12 rfl rfl ?_
  refine ar_idV (pc := 13) dX7_read_13 cal_X7_isTwice kX7_153 rfl (sX7_isTwice q L hL hl m hm (rdZ z).1 D) rfl rfl rfl rfl rfl rfl rfl (fun r h1 hp => ?_)
  obtain ⟨⟨h13, rfl⟩ | ⟨h13, rfl⟩, rfl⟩ := hp
  · refine ⟨rfl, ?_⟩
    refine ar_if_eq (pc := 16) (tgt := 22) dX7_read_16 (by decide) (fun c16 => absurd c16 (by decide)) (fun c16 => ?_)
    refine ar_bipush (pc := 19) dX7_read_19 q_bipush_m5 ?_
    exact absurd h13 hs
  · refine ⟨rfl, ?_⟩
    refine ar_if_eq (pc := 16) (tgt := 22) dX7_read_16 (by decide) (fun c16 => ?_) (fun c16 => absurd c16 (by decide))
    refine ar_aload_n (i := 0) (pc := 22) dX7_read_22 rfl rfl ?_
    refine ar_idV (pc := 23) dX7_read_23 cal_X7_remembers kX7_86 rfl (sX7_remembers q (pY z).2.2 M.2.1.2.1 M.2.1.2.2.1) rfl rfl rfl rfl rfl rfl rfl (fun r h1 hp => ?_)
    obtain ⟨rfl, rfl⟩ := hp
    refine ⟨pat_md _ _, ?_⟩
    refine ar_hp (h' := md_H (rm_Q q (pY z).2.2)) rfl ?_
    refine ar_aload_n (i := 0) (pc := 26) dX7_read_26 rfl rfl ?_
    refine ar_getf (pc := 27) dX7_read_27 fX7_7 rfl rfl ?_
    refine ar_bipush (pc := 30) dX7_read_30 q_bipush_7 ?_
    refine ar_iconst (pc := 32) dX7_read_32 q_iconst_0 ?_
    refine ar_iast (pc := 33) dX7_read_33 rfl (show 7 < 120 by decide) rfl ?_
    rw [md_S]
    refine ar_aload_n (i := 0) (pc := 34) dX7_read_34 rfl rfl ?_
    refine ar_idV (pc := 35) dX7_read_35 cal_X7_forgets kX7_29 rfl (sX7_forgets (ru_S (rm_Q q (pY z).2.2) (upd (rq_S (rm_Q q (pY z).2.2)) 7 0)) 0 (uBo (pN z) 0) (ro_0 R)) rfl rfl rfl rfl rfl rfl rfl (fun r h1 hp => ?_)
    obtain ⟨s2, rfl, rfl, R2⟩ := hp
    refine ⟨pat_md _ _, ?_⟩
    rw [ru_SS]
    refine ar_iconst (pc := 38) dX7_read_38 q_iconst_0 ?_
    refine ar_istore_n (i := 1) (pc := 39) dX7_read_39 rfl (Nat.le_of_ble_eq_true rfl) rfl ?_
    have hN := shd_no m 0 0 hs
    have ho := (rd_ok K hm (fun i hi => by have h := D.1 i hi; rw [Nat.zero_add] at h; exact ⟨h.2.2.2.1, h.2.2.2.2.2⟩) (fun i j h1 h2 h3 => hN.2 i j (by omega) h1 (by omega) h3) m (Nat.le_refl m)).1
    rw [← nI_0]
    exact ar_k0 (lX7_read_40 _ q z M n K R L hL hl m hm D ho m 0 s2 (by omega) R2) rfl rfl

