/-! the law: a day -/
theorem ra_d (v : SV) (n : Nat) : vRa (dyV v n) - vRa v = if rnV (puV v n) = 0 then 0 else 1 := by
  rw [dy_Ra]
  by_cases c : rnV (puV v n) = 0
  · rw [if_pos c, if_pos c, Int32.sub_self]
  · rw [if_neg c, if_neg c, Int32.add_comm, Int32.add_sub_cancel]
theorem an_ifp10 {gg : Nat → Int32} {κ n : Nat} {v : SV} (K : ok_D v n) : an_S gg mX6_ifPlayed [.int 1, .int 0] (dyC v n) κ v κ v := an_rp fun ff z e => by
  subst e
  have A := cv_rpU (sX6_ifPlayed_s false ff false gg z n K.1 K.2.1.1 K.2.2.2.2.2.2 1 (by omega) (by omega) 0 (Or.inl rfl))
  rw [if_pos rfl, show (itV (pN z) n 1).2 = dyC (pN z) n from Int32.zero_add _] at A
  exact A
theorem an_ifp11 {gg : Nat → Int32} {κ n : Nat} {v : SV} (K : ok_D v n) : an_S gg mX6_ifPlayed [.int 1, .int 1] (if rnV (puV v n) = 0 then 0 else 1) κ v κ v := an_rp fun ff z e => by
  subst e
  have A := cv_rpU (sX6_ifPlayed_s false ff false gg z n K.1 K.2.1.1 K.2.2.2.2.2.2 1 (by omega) (by omega) 1 (Or.inr rfl))
  rw [if_neg (by decide), show vRa (itV (pN z) n 1).1 - vRa (pN z) = _ from ra_d (pN z) n] at A
  exact A
theorem an_ifp20 {gg : Nat → Int32} {κ n : Nat} {v : SV} (K : ok_D v n) : an_S gg mX6_ifPlayed [.int 2, .int 0] (dyC v n + dyC (dyV v n) n) κ v κ v := an_rp fun ff z e => by
  subst e
  have A := cv_rpU (sX6_ifPlayed_s false ff false gg z n K.1 K.2.1.1 K.2.2.2.2.2.2 2 (by omega) (by omega) 0 (Or.inl rfl))
  rw [if_pos rfl, show (itV (pN z) n 2).2 = 0 + dyC (pN z) n + dyC (dyV (pN z) n) n from rfl, Int32.zero_add] at A
  exact A
theorem an_ifpo {gg : Nat → Int32} {κ : Nat} {v : SV} : an_S gg mX6_ifPlayed [.int 101, .int 0] (-2) κ v κ v := an_rp fun ff z e => cv_rp (sX6_ifPlayed_o false ff false gg z 101 0 (by decide))
theorem an_play {gg : Nat → Int32} {n : Nat} {v : SV} (K : ok_D v n) (hd : (vDa v).toInt < 9999) : an_S gg mX6_play [] (dyC v n) 6 v 6 (dyV v n) := an_ch (Nat.le_refl 6) fun ff z e h1 h2 => by
  subst e
  exact ⟨vwOf (ptV (pN z) n) (pqV (pN z) n), cv_rp (sX6_play_s false ff false gg z n K.1 K.2.1.1 hd K.2.2.2.2.2.2 h1 h2)⟩
theorem lot_e {v : SV} {k : Nat} (hk : k < 8) : lotV v (nI k) = vL v k := by
  rw [lotV, if_pos (by rw [nI_toInt (by omega)]; omega), ix_nI (by omega)]
theorem an_pit0 {gg : Nat → Int32} {κ n : Nat} {v : SV} (K : ok_D v n) {x : Int32} (ip : inP x) : an_S gg mX6_pitch [.int x, .int 0] (if_I (rfP (vRo v) (ix x))) κ v κ v := by
  have h12 : ix x < 12 := by unfold ix; have := ip.1; have := ip.2; omega
  have A := an_pitch0 (gg := gg) (κ := κ) K h12
  rw [← ix_eq ip.1] at A
  exact A
/-! the lots, as a set -/
def or_N (f : Nat → Nat) : Nat → Nat
  | 0 => 0
  | k + 1 => or_N f k ||| 2 ^ f k
theorem or_bit (f : Nat → Nat) (j : Nat) : ∀ k, (or_N f k).testBit j = decide (∃ i, i < k ∧ f i = j)
  | 0 => by
    rw [or_N, Nat.zero_testBit]
    exact (decide_eq_false fun ⟨i, hi, _⟩ => Nat.not_lt_zero i hi).symm
  | k + 1 => by
    rw [or_N, Nat.testBit_or, or_bit f j k, Nat.testBit_two_pow]
    by_cases c : ∃ i, i < k ∧ f i = j
    · rw [decide_eq_true c, Bool.true_or]
      obtain ⟨i, hi, e⟩ := c
      exact (decide_eq_true ⟨i, by omega, e⟩).symm
    · rw [decide_eq_false c, Bool.false_or]
      by_cases e : f k = j
      · rw [decide_eq_true e]
        exact (decide_eq_true ⟨k, by omega, e⟩).symm
      · rw [decide_eq_false e]
        refine (decide_eq_false ?_).symm
        rintro ⟨i, hi, ei⟩
        by_cases z : i = k
        · exact e (z ▸ ei)
        · exact c ⟨i, by omega, ei⟩
theorem or_all {f : Nat → Nat} {n : Nat} (h1 : ∀ k, k < n → f k < n) (h2 : ∀ b, b < n → ∃ k, k < n ∧ f k = b) : or_N f n = 2 ^ n - 1 := by
  refine Nat.eq_of_testBit_eq fun j => ?_
  rw [or_bit, Nat.testBit_two_pow_sub_one]
  by_cases c : j < n
  · rw [decide_eq_true c]
    exact decide_eq_true (h2 j c)
  · rw [decide_eq_false c]
    exact decide_eq_false fun ⟨i, hi, e⟩ => c (e ▸ h1 i hi)
abbrev lo_F (v : SV) : Nat → Nat := fun k => ix (vL v k)
theorem lo_end {w : SV} {n : Nat} (h8 : n ≤ 8) (L : pe_D n (vL w)) : nI (or_N (lo_F w) n) = (1 <<< (nI n &&& 31)) - 1 := by
  have e : or_N (lo_F w) n = 2 ^ n - 1 := or_all (fun k hk => by
    obtain ⟨b, hb, eb⟩ := L.1 k hk
    show ix (vL w k) < n
    rw [eb, ix_nI (by omega)]
    exact hb) (fun b hb => by
    obtain ⟨k, hk, ek⟩ := L.2.2.2 b hb
    refine ⟨k, hk, ?_⟩
    show ix (vL w k) = b
    rw [ek, ix_nI (by omega)])
  have p : 0 < 2 ^ n := Nat.pow_pos (by omega)
  rw [e, bit_N n (by omega), show (1 : Int32) = nI 1 from rfl, pk_sub (by omega)]
theorem lo_s {w : SV} {n k b : Nat} (h8 : n ≤ 8) (hb : b < n) (e : vL w k = nI b) : nI (or_N (lo_F w) k) ||| (1 <<< (nI b &&& 31)) = nI (or_N (lo_F w) (k + 1)) := by
  rw [bit_N b (by omega), fa_or, or_N, show lo_F w k = b by show ix (vL w k) = b; rw [e, ix_nI (by omega)]]
/-! the law's own row -/
theorem lr_ia {g : Nat → Int32} {R : am_H} (h : lr_H R) : lr_H (some (am_ia 8 g) :: R) := ⟨h.1, fun j h1 h2 => frH_ia j 8 g R (h.2 j h1 h2)⟩
theorem was_at {ff gg : Nat → Int32} {z : PV} {g : Nat → Int32} {R : am_H} : (ppH false ff false gg z ++ (some (am_ia 8 g) :: R))[98]? = some (some (am_ia 8 g)) := by
  show (_ ++ _)[0 + 98]? = _
  rw [ap_98 (ppH_len ..)]
  rfl
theorem was_set {ff gg : Nat → Int32} {z : PV} {g g' : Nat → Int32} {R : am_H} : (ppH false ff false gg z ++ (some (am_ia 8 g) :: R)).set 98 (some (am_ia 8 g')) = ppH false ff false gg z ++ (some (am_ia 8 g') :: R) := set_98 (ppH_len ..) _ 0 _
def dn_P (ff gg : Nat → Int32) (v' : SV) (z0 : PV) (R : am_H) : Option Value → am_H → Prop := fun r h1 => r = some (.int 1) ∧ ∃ z' g', lz_D 6 v' z0 z' ∧ h1 = ppH false ff false gg z' ++ (some (am_ia 8 g') :: R)
/-! the day's ends -/
noncomputable def nw_I (v : SV) (n : Nat) : Nat → Int32 := fun k => su_I (vI v) n + su_I (fun i => if vP (dyV v n) i < 0 then 1 else 0) k
theorem nw_s (v : SV) (n k : Nat) : nw_I v n k + (if vP (dyV v n) k < 0 then 1 else 0) = nw_I v n (k + 1) := by
  unfold nw_I
  rw [su_I, Int32.add_assoc]
theorem nw_0 (v : SV) (n : Nat) : su_I (vI v) n = nw_I v n 0 := (Int32.add_zero _).symm
theorem nw_end {v : SV} {n : Nat} (K : ok_D v n) (K' : ok_D (dyV v n) n) : su_I (vI (dyV v n)) n = nw_I v n n := by
  unfold nw_I
  rw [su_Ic n (fun k hk => dy_Ik K K' hk), su_Ia]
theorem dy_fr {v : SV} {n : Nat} (K : ok_D v n) (K' : ok_D (dyV v n) n) : nI (cst (dyV v n) n 8) = nI n ∨ su_I (fun p => if_I (opP (lkT (dyV v n) n (-6) 8) p (vS (dyV v n) 4))) 12 = 0 := by
  by_cases c : ∃ b, b < n ∧ vP (dyV v n) b = -6
  · obtain ⟨b, hb, e⟩ := c
    exact Or.inr (su_I0 12 fun p hp => if_0 (dy_free K K' hb e p hp))
  · refine Or.inl (congrArg nI ?_)
    have e := cst_end (v := dyV v n) (n := n) (8 - n)
    have h8 := K.2.1.1
    rw [show n + (8 - n) = 8 by omega] at e
    rw [e, cst_su]
    have : ∀ m, m ≤ n → su_N (fun k => if stP (dyV v n) n k then 1 else 0) m = m := by
      intro m
      induction m with
      | zero => exact fun _ => rfl
      | succ m ih =>
        intro hm
        rw [su_N, ih (by omega), if_pos ⟨by omega, fun z => c ⟨m, by omega, z⟩⟩]
    exact this n (Nat.le_refl n)
theorem two_1 (a b : Int32) : a + b - a = b := by rw [Int32.add_comm, Int32.add_sub_cancel]
theorem two_2 {v : SV} {n : Nat} (K : ok_D v n) (K1 : ok_D (dyV v n) n) (K2 : ok_D (dyV (dyV v n) n) n) : dyC v n ≤ dyC v n + dyC (dyV v n) n := by
  obtain ⟨a, ha, ea, -⟩ := dyC_rg K K1
  obtain ⟨b, hb, eb, -⟩ := dyC_rg K1 K2
  rw [ea, eb, nI_add]
  exact nI_le (by omega) (by omega)
theorem da_80 {v : SV} {n d : Nat} (M : mo_D v n d) : (vDa v).toInt ≤ 80 := by
  obtain ⟨T, t, f, i, M1, M2, -⟩ := M
  rw [M1, nI_toInt (by omega)]
  omega
set_option maxHeartbeats 4000000 in
set_option maxRecDepth 100000 in
theorem lL_day_57 {gg ff : Nat → Int32} {n : Nat} {v : SV} (K : ok_D v n) {h0 : am_H} {z0 : PV} {R : am_H} (hR : lr_H R) (C : ∀ (z : PV) (g : Nat → Int32), lz_D 6 v z0 z → (∀ i, i < n → g i = vT v i) → am_RW mL_isDay h0 (dn_P ff gg (dyV v n) z0 R) 0 0 87 [some (.ref 2), some (.ref 98), some (.int (nI n)), some (.int (dyC v n)), some (.int (if rnV (puV v n) = 0 then 0 else 1)), some (.int (dyC v n + dyC (dyV v n) n)), some (.int (vDa v)), some (.int (vRa v)), some (.int (vTa v)), none, none, none, none, none, none, none, none, none, none, none, none] [] (ppH false ff false gg z ++ (some (am_ia 8 g) :: R))) : ∀ (d k : Nat), k + d = n → k ≤ n → ∀ (z : PV) (g : Nat → Int32), lz_D 6 v z0 z → (∀ i, i < k → g i = vT v i) → am_RW mL_isDay h0 (dn_P ff gg (dyV v n) z0 R) 0 0 57 [some (.ref 2), some (.ref 98), some (.int (nI n)), some (.int (dyC v n)), some (.int (if rnV (puV v n) = 0 then 0 else 1)), some (.int (dyC v n + dyC (dyV v n) n)), some (.int (vDa v)), some (.int (vRa v)), some (.int (vTa v)), some (.int (nI k)), none, none, none, none, none, none, none, none, none, none, none] [] (ppH false ff false gg z ++ (some (am_ia 8 g) :: R)) := by
  have h8 := K.2.1.1
  intro d
  induction d with
  | zero =>
    intro k hk _ z g hz hg
    have e : k = n := by omega
    subst e
    refine ar_iload (pc := 57) dL_isDay_57 rfl ?_
    refine ar_iload_n (i := 2) (pc := 59) dL_isDay_59 rfl rfl ?_
    refine ar_icmp_ge (pc := 60) (tgt := 87) dL_isDay_60 (by decide) (fun c60 => ?_) (fun c60 => absurd (Int32.le_refl _) c60)
    refine ar_fg ?_ (C z g hz hg)
    exact ⟨rfl, rfl, rfl, rfl, rfl, rfl, rfl, rfl, rfl, trivial⟩
  | succ d ih =>
    intro k hkd _ z g hz hg
    have hk : k < n := by omega
    refine ar_iload (pc := 57) dL_isDay_57 rfl ?_
    refine ar_iload_n (i := 2) (pc := 59) dL_isDay_59 rfl rfl ?_
    refine ar_icmp_ge (pc := 60) (tgt := 87) dL_isDay_60 (by decide) (fun c60 => absurd c60 (nI_ge hk (by omega))) (fun c60 => ?_)
    refine ar_iload (pc := 63) dL_isDay_63 rfl ?_
    refine ar_bipush (pc := 65) dL_isDay_65 q_bipush_8 ?_
    refine ar_icmp_ge (pc := 67) (tgt := 87) dL_isDay_67 (by decide) (fun c67 => absurd c67 (nI_ge (show k < 8 by omega) (by decide))) (fun c67 => ?_)
    refine ar_aload_n (i := 1) (pc := 70) dL_isDay_70 rfl rfl ?_
    refine ar_iload (pc := 71) dL_isDay_71 rfl ?_
    refine ar_aload_n (i := 0) (pc := 73) dL_isDay_73 rfl rfl ?_
    refine ar_iload (pc := 74) dL_isDay_74 rfl ?_
    refine ar_iconst (pc := 76) dL_isDay_76 q_iconst_5 ?_
    refine ar_cl (pc := 77) dL_isDay_77 cal_X6_booth kL_18 rfl rfl (an_booth5 K hk) hz (lr_ia hR) rfl rfl rfl rfl rfl rfl (Nat.le_of_ble_eq_true rfl) (Nat.le_of_ble_eq_true rfl) (fun z hz => ?_)
    refine ar_iast (pc := 80) dL_isDay_80 was_at (show k < 8 by omega) rfl ?_
    refine ar_hp was_set ?_
    refine ar_iinc (pc := 81) dL_isDay_81 rfl (nI_1 k) (Nat.le_of_ble_eq_true rfl) rfl ?_
    refine ar_goto (tgt := 57) (pc := 84) dL_isDay_84 (by decide) ?_
    refine ar_fg ?_ (ih (k + 1) (by omega) (by omega) z (upd g k (vT v k)) hz (fun i hi => ?_))
    · exact ⟨rfl, rfl, rfl, rfl, rfl, rfl, rfl, rfl, rfl, rfl, trivial⟩
    · by_cases e : i = k
      · subst e
        exact pk_us
      · rw [pk_un e]
        exact hg i (by omega)
set_option maxHeartbeats 4000000 in
set_option maxRecDepth 100000 in
theorem lL_day_93 {gg ff : Nat → Int32} {n : Nat} {v : SV} (K : ok_D v n) {h0 : am_H} {z0 : PV} {R : am_H} (hR : lr_H R) {g : Nat → Int32} (C : ∀ z : PV, lz_D 6 v z0 z → am_RW mL_isDay h0 (dn_P ff gg (dyV v n) z0 R) 0 0 125 [some (.ref 2), some (.ref 98), some (.int (nI n)), some (.int (dyC v n)), some (.int (if rnV (puV v n) = 0 then 0 else 1)), some (.int (dyC v n + dyC (dyV v n) n)), some (.int (vDa v)), some (.int (vRa v)), some (.int (vTa v)), some (.int (su_I (vI v) n)), none, none, none, none, none, none, none, none, none, none, none] [] (ppH false ff false gg z ++ (some (am_ia 8 g) :: R))) : ∀ (d k : Nat), k + d = n → k ≤ n → ∀ z : PV, lz_D 6 v z0 z → am_RW mL_isDay h0 (dn_P ff gg (dyV v n) z0 R) 0 0 93 [some (.ref 2), some (.ref 98), some (.int (nI n)), some (.int (dyC v n)), some (.int (if rnV (puV v n) = 0 then 0 else 1)), some (.int (dyC v n + dyC (dyV v n) n)), some (.int (vDa v)), some (.int (vRa v)), some (.int (vTa v)), some (.int (su_I (vI v) k)), some (.int (nI k)), none, none, none, none, none, none, none, none, none, none] [] (ppH false ff false gg z ++ (some (am_ia 8 g) :: R)) := by
  have h8 := K.2.1.1
  intro d
  induction d with
  | zero =>
    intro k hk _ z hz
    have e : k = n := by omega
    subst e
    refine ar_iload (pc := 93) dL_isDay_93 rfl ?_
    refine ar_iload_n (i := 2) (pc := 95) dL_isDay_95 rfl rfl ?_
    refine ar_icmp_ge (pc := 96) (tgt := 125) dL_isDay_96 (by decide) (fun c96 => ?_) (fun c96 => absurd (Int32.le_refl _) c96)
    refine ar_fg ?_ (C z hz)
    exact ⟨rfl, rfl, rfl, rfl, rfl, rfl, rfl, rfl, rfl, rfl, trivial⟩
  | succ d ih =>
    intro k hkd _ z hz
    have hk : k < n := by omega
    refine ar_iload (pc := 93) dL_isDay_93 rfl ?_
    refine ar_iload_n (i := 2) (pc := 95) dL_isDay_95 rfl rfl ?_
    refine ar_icmp_ge (pc := 96) (tgt := 125) dL_isDay_96 (by decide) (fun c96 => absurd c96 (nI_ge hk (by omega))) (fun c96 => ?_)
    refine ar_iload (pc := 99) dL_isDay_99 rfl ?_
    refine ar_bipush (pc := 101) dL_isDay_101 q_bipush_8 ?_
    refine ar_icmp_ge (pc := 103) (tgt := 125) dL_isDay_103 (by decide) (fun c103 => absurd c103 (nI_ge (show k < 8 by omega) (by decide))) (fun c103 => ?_)
    refine ar_iload (pc := 106) dL_isDay_106 rfl ?_
    refine ar_aload_n (i := 0) (pc := 108) dL_isDay_108 rfl rfl ?_
    refine ar_iload (pc := 109) dL_isDay_109 rfl ?_
    refine ar_bipush (pc := 111) dL_isDay_111 q_bipush_7 ?_
    refine ar_cl (pc := 113) dL_isDay_113 cal_X6_booth kL_18 rfl rfl (an_booth7 K hk) hz (lr_ia hR) rfl rfl rfl rfl rfl rfl (Nat.le_of_ble_eq_true rfl) (Nat.le_of_ble_eq_true rfl) (fun z hz => ?_)
    refine ar_iadd (pc := 116) dL_isDay_116 ?_
    refine ar_istore (pc := 117) dL_isDay_117 (Nat.le_of_ble_eq_true rfl) rfl ?_
    refine ar_iinc (pc := 119) dL_isDay_119 rfl (nI_1 k) (Nat.le_of_ble_eq_true rfl) rfl ?_
    refine ar_goto (tgt := 93) (pc := 122) dL_isDay_122 (by decide) ?_
    refine ar_fg ?_ (ih (k + 1) (by omega) (by omega) z hz)
    exact ⟨rfl, rfl, rfl, rfl, rfl, rfl, rfl, rfl, rfl, rfl, rfl, trivial⟩
theorem dy_cs {w : SV} {n q k : Nat} (K' : ok_D w n) (hq : q < n) (hk : k < n) : q = k ∨ (q ≠ k ∧ vP w k = -6) ∨ (q ≠ k ∧ inP (vP w k) ∧ vP w q = -6) ∨ (q ≠ k ∧ inP (vP w k) ∧ inP (vP w q)) := by
  by_cases e : q = k
  · exact Or.inl e
  · rcases K'.2.1.2.2.2.2.1 k hk with h | h
    · exact Or.inr (Or.inl ⟨e, h⟩)
    · rcases K'.2.1.2.2.2.2.1 q hq with h2 | h2
      · exact Or.inr (Or.inr (Or.inl ⟨e, h, h2⟩))
      · exact Or.inr (Or.inr (Or.inr ⟨e, h, h2⟩))
theorem ip_e {x : Int32} (ip : inP x) : x = nI (ix x) ∧ ix x < 12 := ⟨ix_eq ip.1, by unfold ix; have := ip.1; have := ip.2; omega⟩
theorem dy_d1 {x y : Int32} (ix1 : inP x) (iy : inP y) (c : ¬ y ≤ x) : y - x = nI (dst (ix x) (ix y)) := by
  obtain ⟨e1, h1⟩ := ip_e ix1
  obtain ⟨e2, h2⟩ := ip_e iy
  have := fr_s1 h1 h2 (by rw [← e1, ← e2]; exact c)
  rw [← e1, ← e2] at this
  exact this
theorem dy_d2 {x y : Int32} (ix1 : inP x) (iy : inP y) (c : y ≤ x) : x - y = nI (dst (ix x) (ix y)) := by
  obtain ⟨e1, h1⟩ := ip_e ix1
  obtain ⟨e2, h2⟩ := ip_e iy
  have := fr_s2 h1 h2 (by rw [← e1, ← e2]; exact c)
  rw [← e1, ← e2] at this
  exact this
set_option maxHeartbeats 4000000 in
set_option maxRecDepth 100000 in
theorem lL_day_353 {gg ff : Nat → Int32} {n : Nat} {v : SV} (K : ok_D v n) (K' : ok_D (dyV v n) n) {h0 : am_H} {z0 : PV} {R : am_H} (hR : lr_H R) {g : Nat → Int32} {k : Nat} (hk : k < n) (C : ∀ z : PV, lz_D 6 (dyV v n) z0 z → am_RW mL_isDay h0 (dn_P ff gg (dyV v n) z0 R) 8 67 432 [some (.ref 2), some (.ref 98), some (.int (nI n)), some (.int (dyC v n)), some (.int (if rnV (puV v n) = 0 then 0 else 1)), some (.int (dyC v n + dyC (dyV v n) n)), some (.int (vDa v)), some (.int (vRa v)), some (.int (vTa v)), some (.int (nw_I v n (k + 1))), some (.int (su_I (ht_V v n) (k + 1))), some (.int (nI (or_N (lo_F (dyV v n)) (k + 1)))), some (.int (su_I (vI (dyV v n)) (k + 1))), some (.int (nI k)), none, none, none, none, none, none, none] [] (ppH false ff false gg z ++ (some (am_ia 8 g) :: R))) : ∀ (d q : Nat), q + d = n → q ≤ n → ∀ z : PV, lz_D 6 (dyV v n) z0 z → am_RW mL_isDay h0 (dn_P ff gg (dyV v n) z0 R) 8 67 353 [some (.ref 2), some (.ref 98), some (.int (nI n)), some (.int (dyC v n)), some (.int (if rnV (puV v n) = 0 then 0 else 1)), some (.int (dyC v n + dyC (dyV v n) n)), some (.int (vDa v)), some (.int (vRa v)), some (.int (vTa v)), some (.int (nw_I v n (k + 1))), some (.int (su_I (ht_V v n) (k + 1))), some (.int (nI (or_N (lo_F (dyV v n)) (k + 1)))), some (.int (su_I (vI (dyV v n)) (k + 1))), some (.int (nI k)), some (.int (vP (dyV v n) k)), none, none, none, some (.int (nI q)), none, none] [] (ppH false ff false gg z ++ (some (am_ia 8 g) :: R)) := by
  have h8 := K.2.1.1
  intro d
  induction d with
  | zero =>
    intro q hq _ z hz
    have e : q = n := by omega
    subst e
    refine ar_iload (pc := 353) dL_isDay_353 rfl ?_
    refine ar_iload_n (i := 2) (pc := 355) dL_isDay_355 rfl rfl ?_
    refine ar_icmp_ge (pc := 356) (tgt := 432) dL_isDay_356 (by decide) (fun c356 => ?_) (fun c356 => absurd (Int32.le_refl _) c356)
    refine ar_fg ?_ (C z hz)
    exact ⟨rfl, rfl, rfl, rfl, rfl, rfl, rfl, rfl, rfl, rfl, rfl, rfl, rfl, rfl, trivial⟩
  | succ d ih =>
    intro q hqd _ z hz
    have hq : q < n := by omega
    refine ar_iload (pc := 353) dL_isDay_353 rfl ?_
    refine ar_iload_n (i := 2) (pc := 355) dL_isDay_355 rfl rfl ?_
    refine ar_icmp_ge (pc := 356) (tgt := 432) dL_isDay_356 (by decide) (fun c356 => absurd c356 (nI_ge hq (by omega))) (fun c356 => ?_)
    refine ar_iload (pc := 359) dL_isDay_359 rfl ?_
    refine ar_bipush (pc := 361) dL_isDay_361 q_bipush_8 ?_
    refine ar_icmp_ge (pc := 363) (tgt := 432) dL_isDay_363 (by decide) (fun c363 => absurd c363 (nI_ge (show q < 8 by omega) (by decide))) (fun c363 => ?_)
    rcases dy_cs K' hq hk with rfl | ⟨hqk, e6⟩ | ⟨hqk, ipk, e6⟩ | ⟨hqk, ipk, ipq⟩
    · refine ar_aload_n (i := 0) (pc := 366) dL_isDay_366 rfl rfl ?_
      refine ar_iload (pc := 367) dL_isDay_367 rfl ?_
      refine ar_iconst (pc := 369) dL_isDay_369 q_iconst_1 ?_
      refine ar_cl (pc := 370) dL_isDay_370 cal_X6_booth kL_18 rfl rfl (an_booth1 K' hq) hz (lr_ia hR) rfl rfl rfl rfl rfl rfl (Nat.le_of_ble_eq_true rfl) (Nat.le_of_ble_eq_true rfl) (fun z hz => ?_)
      refine ar_istore (pc := 373) dL_isDay_373 (Nat.le_of_ble_eq_true rfl) rfl ?_
      refine ar_iload (pc := 375) dL_isDay_375 rfl ?_
      refine ar_iload (pc := 377) dL_isDay_377 rfl ?_
      refine ar_icmp_ge (pc := 379) (tgt := 390) dL_isDay_379 (by decide) (fun c379 => ?_) (fun c379 => ?_)
      · refine ar_iload (pc := 390) dL_isDay_390 rfl ?_
        refine ar_iload (pc := 392) dL_isDay_392 rfl ?_
        refine ar_isub (pc := 394) dL_isDay_394 ?_
        refine ar_istore (pc := 395) dL_isDay_395 (Nat.le_of_ble_eq_true rfl) rfl ?_
        refine ar_iload (pc := 397) dL_isDay_397 rfl ?_
        refine ar_iload (pc := 399) dL_isDay_399 rfl ?_
        refine ar_icmp_eq (pc := 401) (tgt := 426) dL_isDay_401 (by decide) (fun c401 => ?_) (fun c401 => absurd rfl c401)
        refine ar_iinc (pc := 426) dL_isDay_426 rfl (nI_1 q) (Nat.le_of_ble_eq_true rfl) rfl ?_
        refine ar_goto (tgt := 353) (pc := 429) dL_isDay_429 (by decide) ?_
        refine ar_fg ?_ (ih (q + 1) (by omega) (by omega) z hz)
        exact ⟨rfl, rfl, rfl, rfl, rfl, rfl, rfl, rfl, rfl, rfl, rfl, rfl, rfl, rfl, rfl, rfl, trivial⟩
      · refine ar_iload (pc := 382) dL_isDay_382 rfl ?_
        refine ar_iload (pc := 384) dL_isDay_384 rfl ?_
        refine ar_isub (pc := 386) dL_isDay_386 ?_
        refine ar_goto (tgt := 395) (pc := 387) dL_isDay_387 (by decide) ?_
        refine ar_istore (pc := 395) dL_isDay_395 (Nat.le_of_ble_eq_true rfl) rfl ?_
        refine ar_iload (pc := 397) dL_isDay_397 rfl ?_
        refine ar_iload (pc := 399) dL_isDay_399 rfl ?_
        refine ar_icmp_eq (pc := 401) (tgt := 426) dL_isDay_401 (by decide) (fun c401 => ?_) (fun c401 => absurd rfl c401)
        refine ar_iinc (pc := 426) dL_isDay_426 rfl (nI_1 q) (Nat.le_of_ble_eq_true rfl) rfl ?_
        refine ar_goto (tgt := 353) (pc := 429) dL_isDay_429 (by decide) ?_
        refine ar_fg ?_ (ih (q + 1) (by omega) (by omega) z hz)
        exact ⟨rfl, rfl, rfl, rfl, rfl, rfl, rfl, rfl, rfl, rfl, rfl, rfl, rfl, rfl, rfl, rfl, trivial⟩
    · refine ar_aload_n (i := 0) (pc := 366) dL_isDay_366 rfl rfl ?_
      refine ar_iload (pc := 367) dL_isDay_367 rfl ?_
      refine ar_iconst (pc := 369) dL_isDay_369 q_iconst_1 ?_
      refine ar_cl (pc := 370) dL_isDay_370 cal_X6_booth kL_18 rfl rfl (an_booth1 K' hq) hz (lr_ia hR) rfl rfl rfl rfl rfl rfl (Nat.le_of_ble_eq_true rfl) (Nat.le_of_ble_eq_true rfl) (fun z hz => ?_)
      refine ar_istore (pc := 373) dL_isDay_373 (Nat.le_of_ble_eq_true rfl) rfl ?_
      refine ar_iload (pc := 375) dL_isDay_375 rfl ?_
      refine ar_iload (pc := 377) dL_isDay_377 rfl ?_
      refine ar_icmp_ge (pc := 379) (tgt := 390) dL_isDay_379 (by decide) (fun c379 => ?_) (fun c379 => ?_)
      · refine ar_iload (pc := 390) dL_isDay_390 rfl ?_
        refine ar_iload (pc := 392) dL_isDay_392 rfl ?_
        refine ar_isub (pc := 394) dL_isDay_394 ?_
        refine ar_istore (pc := 395) dL_isDay_395 (Nat.le_of_ble_eq_true rfl) rfl ?_
        refine ar_iload (pc := 397) dL_isDay_397 rfl ?_
        refine ar_iload (pc := 399) dL_isDay_399 rfl ?_
        refine ar_icmp_eq (pc := 401) (tgt := 426) dL_isDay_401 (by decide) (fun c401 => absurd ((nI_eq (by omega) (by omega)).mp c401) hqk) (fun c401 => ?_)
        refine ar_iload (pc := 404) dL_isDay_404 rfl ?_
        refine ar_if_lt (pc := 406) (tgt := 426) dL_isDay_406 (by decide) (fun c406 => ?_) (fun c406 => absurd (show vP (dyV v n) k < 0 by rw [e6]; decide) c406)
        refine ar_iinc (pc := 426) dL_isDay_426 rfl (nI_1 q) (Nat.le_of_ble_eq_true rfl) rfl ?_
        refine ar_goto (tgt := 353) (pc := 429) dL_isDay_429 (by decide) ?_
        refine ar_fg ?_ (ih (q + 1) (by omega) (by omega) z hz)
        exact ⟨rfl, rfl, rfl, rfl, rfl, rfl, rfl, rfl, rfl, rfl, rfl, rfl, rfl, rfl, rfl, rfl, trivial⟩
      · refine ar_iload (pc := 382) dL_isDay_382 rfl ?_
        refine ar_iload (pc := 384) dL_isDay_384 rfl ?_
        refine ar_isub (pc := 386) dL_isDay_386 ?_
        refine ar_goto (tgt := 395) (pc := 387) dL_isDay_387 (by decide) ?_
        refine ar_istore (pc := 395) dL_isDay_395 (Nat.le_of_ble_eq_true rfl) rfl ?_
        refine ar_iload (pc := 397) dL_isDay_397 rfl ?_
        refine ar_iload (pc := 399) dL_isDay_399 rfl ?_
        refine ar_icmp_eq (pc := 401) (tgt := 426) dL_isDay_401 (by decide) (fun c401 => absurd ((nI_eq (by omega) (by omega)).mp c401) hqk) (fun c401 => ?_)
        refine ar_iload (pc := 404) dL_isDay_404 rfl ?_
        refine ar_if_lt (pc := 406) (tgt := 426) dL_isDay_406 (by decide) (fun c406 => ?_) (fun c406 => absurd (show vP (dyV v n) k < 0 by rw [e6]; decide) c406)
        refine ar_iinc (pc := 426) dL_isDay_426 rfl (nI_1 q) (Nat.le_of_ble_eq_true rfl) rfl ?_
        refine ar_goto (tgt := 353) (pc := 429) dL_isDay_429 (by decide) ?_
        refine ar_fg ?_ (ih (q + 1) (by omega) (by omega) z hz)
        exact ⟨rfl, rfl, rfl, rfl, rfl, rfl, rfl, rfl, rfl, rfl, rfl, rfl, rfl, rfl, rfl, rfl, trivial⟩
    · refine ar_aload_n (i := 0) (pc := 366) dL_isDay_366 rfl rfl ?_
      refine ar_iload (pc := 367) dL_isDay_367 rfl ?_
      refine ar_iconst (pc := 369) dL_isDay_369 q_iconst_1 ?_
      refine ar_cl (pc := 370) dL_isDay_370 cal_X6_booth kL_18 rfl rfl (an_booth1 K' hq) hz (lr_ia hR) rfl rfl rfl rfl rfl rfl (Nat.le_of_ble_eq_true rfl) (Nat.le_of_ble_eq_true rfl) (fun z hz => ?_)
      refine ar_istore (pc := 373) dL_isDay_373 (Nat.le_of_ble_eq_true rfl) rfl ?_
      refine ar_iload (pc := 375) dL_isDay_375 rfl ?_
      refine ar_iload (pc := 377) dL_isDay_377 rfl ?_
      refine ar_icmp_ge (pc := 379) (tgt := 390) dL_isDay_379 (by decide) (fun c379 => ?_) (fun c379 => ?_)
      · refine ar_iload (pc := 390) dL_isDay_390 rfl ?_
        refine ar_iload (pc := 392) dL_isDay_392 rfl ?_
        refine ar_isub (pc := 394) dL_isDay_394 ?_
        refine ar_istore (pc := 395) dL_isDay_395 (Nat.le_of_ble_eq_true rfl) rfl ?_
        refine ar_iload (pc := 397) dL_isDay_397 rfl ?_
        refine ar_iload (pc := 399) dL_isDay_399 rfl ?_
        refine ar_icmp_eq (pc := 401) (tgt := 426) dL_isDay_401 (by decide) (fun c401 => absurd ((nI_eq (by omega) (by omega)).mp c401) hqk) (fun c401 => ?_)
        refine ar_iload (pc := 404) dL_isDay_404 rfl ?_
        refine ar_if_lt (pc := 406) (tgt := 426) dL_isDay_406 (by decide) (fun c406 => absurd c406 (p_lt0 (n := n) ipk)) (fun c406 => ?_)
        refine ar_iload (pc := 409) dL_isDay_409 rfl ?_
        refine ar_if_lt (pc := 411) (tgt := 426) dL_isDay_411 (by decide) (fun c411 => ?_) (fun c411 => absurd (show vP (dyV v n) q < 0 by rw [e6]; decide) c411)
        refine ar_iinc (pc := 426) dL_isDay_426 rfl (nI_1 q) (Nat.le_of_ble_eq_true rfl) rfl ?_
        refine ar_goto (tgt := 353) (pc := 429) dL_isDay_429 (by decide) ?_
        refine ar_fg ?_ (ih (q + 1) (by omega) (by omega) z hz)
        exact ⟨rfl, rfl, rfl, rfl, rfl, rfl, rfl, rfl, rfl, rfl, rfl, rfl, rfl, rfl, rfl, rfl, trivial⟩
      · refine ar_iload (pc := 382) dL_isDay_382 rfl ?_
        refine ar_iload (pc := 384) dL_isDay_384 rfl ?_
        refine ar_isub (pc := 386) dL_isDay_386 ?_
        refine ar_goto (tgt := 395) (pc := 387) dL_isDay_387 (by decide) ?_
        refine ar_istore (pc := 395) dL_isDay_395 (Nat.le_of_ble_eq_true rfl) rfl ?_
        refine ar_iload (pc := 397) dL_isDay_397 rfl ?_
        refine ar_iload (pc := 399) dL_isDay_399 rfl ?_
        refine ar_icmp_eq (pc := 401) (tgt := 426) dL_isDay_401 (by decide) (fun c401 => absurd ((nI_eq (by omega) (by omega)).mp c401) hqk) (fun c401 => ?_)
        refine ar_iload (pc := 404) dL_isDay_404 rfl ?_
        refine ar_if_lt (pc := 406) (tgt := 426) dL_isDay_406 (by decide) (fun c406 => absurd c406 (p_lt0 (n := n) ipk)) (fun c406 => ?_)
        refine ar_iload (pc := 409) dL_isDay_409 rfl ?_
        refine ar_if_lt (pc := 411) (tgt := 426) dL_isDay_411 (by decide) (fun c411 => ?_) (fun c411 => absurd (show vP (dyV v n) q < 0 by rw [e6]; decide) c411)
        refine ar_iinc (pc := 426) dL_isDay_426 rfl (nI_1 q) (Nat.le_of_ble_eq_true rfl) rfl ?_
        refine ar_goto (tgt := 353) (pc := 429) dL_isDay_429 (by decide) ?_
        refine ar_fg ?_ (ih (q + 1) (by omega) (by omega) z hz)
        exact ⟨rfl, rfl, rfl, rfl, rfl, rfl, rfl, rfl, rfl, rfl, rfl, rfl, rfl, rfl, rfl, rfl, trivial⟩
    · have G := dy_gap K hq hk hqk (fun z => inP_6 (z ▸ ipq)) (fun z => inP_6 (z ▸ ipk))
      have FY1 : vP (dyV v n) k ≤ vP (dyV v n) q → vP (dyV v n) q - vP (dyV v n) k = nI (dst (ix (vP (dyV v n) q)) (ix (vP (dyV v n) k))) := fun c => dy_d2 ipq ipk c
      have FY2 : ¬ vP (dyV v n) k ≤ vP (dyV v n) q → vP (dyV v n) k - vP (dyV v n) q = nI (dst (ix (vP (dyV v n) q)) (ix (vP (dyV v n) k))) := fun c => dy_d1 ipq ipk c
      refine ar_aload_n (i := 0) (pc := 366) dL_isDay_366 rfl rfl ?_
      refine ar_iload (pc := 367) dL_isDay_367 rfl ?_
      refine ar_iconst (pc := 369) dL_isDay_369 q_iconst_1 ?_
      refine ar_cl (pc := 370) dL_isDay_370 cal_X6_booth kL_18 rfl rfl (an_booth1 K' hq) hz (lr_ia hR) rfl rfl rfl rfl rfl rfl (Nat.le_of_ble_eq_true rfl) (Nat.le_of_ble_eq_true rfl) (fun z hz => ?_)
      refine ar_istore (pc := 373) dL_isDay_373 (Nat.le_of_ble_eq_true rfl) rfl ?_
      refine ar_iload (pc := 375) dL_isDay_375 rfl ?_
      refine ar_iload (pc := 377) dL_isDay_377 rfl ?_
      refine ar_icmp_ge (pc := 379) (tgt := 390) dL_isDay_379 (by decide) (fun c379 => ?_) (fun c379 => ?_)
      · refine ar_iload (pc := 390) dL_isDay_390 rfl ?_
        refine ar_iload (pc := 392) dL_isDay_392 rfl ?_
        refine ar_isub (pc := 394) dL_isDay_394 ?_
        refine ar_istore (pc := 395) dL_isDay_395 (Nat.le_of_ble_eq_true rfl) rfl ?_
        refine ar_iload (pc := 397) dL_isDay_397 rfl ?_
        refine ar_iload (pc := 399) dL_isDay_399 rfl ?_
        refine ar_icmp_eq (pc := 401) (tgt := 426) dL_isDay_401 (by decide) (fun c401 => absurd ((nI_eq (by omega) (by omega)).mp c401) hqk) (fun c401 => ?_)
        refine ar_iload (pc := 404) dL_isDay_404 rfl ?_
        refine ar_if_lt (pc := 406) (tgt := 426) dL_isDay_406 (by decide) (fun c406 => absurd c406 (p_lt0 (n := n) ipk)) (fun c406 => ?_)
        refine ar_iload (pc := 409) dL_isDay_409 rfl ?_
        refine ar_if_lt (pc := 411) (tgt := 426) dL_isDay_411 (by decide) (fun c411 => absurd c411 (p_lt0 (n := n) ipq)) (fun c411 => ?_)
        refine ar_iload (pc := 414) dL_isDay_414 rfl ?_
        refine ar_aload_n (i := 0) (pc := 416) dL_isDay_416 rfl rfl ?_
        refine ar_iconst (pc := 417) dL_isDay_417 q_iconst_4 ?_
        refine ar_cl (pc := 418) dL_isDay_418 cal_X6_count kL_14 rfl rfl (an_count4) hz (lr_ia hR) rfl rfl rfl rfl rfl rfl (Nat.le_of_ble_eq_true rfl) (Nat.le_of_ble_eq_true rfl) (fun z hz => ?_)
        refine ar_icmp_gt (pc := 421) (tgt := 426) dL_isDay_421 (by decide) (fun c421 => ?_) (fun c421 => absurd (show vS (dyV v n) 4 < _ by rw [FY1 c379]; exact G) c421)
        refine ar_iinc (pc := 426) dL_isDay_426 rfl (nI_1 q) (Nat.le_of_ble_eq_true rfl) rfl ?_
        refine ar_goto (tgt := 353) (pc := 429) dL_isDay_429 (by decide) ?_
        refine ar_fg ?_ (ih (q + 1) (by omega) (by omega) z hz)
        exact ⟨rfl, rfl, rfl, rfl, rfl, rfl, rfl, rfl, rfl, rfl, rfl, rfl, rfl, rfl, rfl, rfl, trivial⟩
      · refine ar_iload (pc := 382) dL_isDay_382 rfl ?_
        refine ar_iload (pc := 384) dL_isDay_384 rfl ?_
        refine ar_isub (pc := 386) dL_isDay_386 ?_
        refine ar_goto (tgt := 395) (pc := 387) dL_isDay_387 (by decide) ?_
        refine ar_istore (pc := 395) dL_isDay_395 (Nat.le_of_ble_eq_true rfl) rfl ?_
        refine ar_iload (pc := 397) dL_isDay_397 rfl ?_
        refine ar_iload (pc := 399) dL_isDay_399 rfl ?_
        refine ar_icmp_eq (pc := 401) (tgt := 426) dL_isDay_401 (by decide) (fun c401 => absurd ((nI_eq (by omega) (by omega)).mp c401) hqk) (fun c401 => ?_)
        refine ar_iload (pc := 404) dL_isDay_404 rfl ?_
        refine ar_if_lt (pc := 406) (tgt := 426) dL_isDay_406 (by decide) (fun c406 => absurd c406 (p_lt0 (n := n) ipk)) (fun c406 => ?_)
        refine ar_iload (pc := 409) dL_isDay_409 rfl ?_
        refine ar_if_lt (pc := 411) (tgt := 426) dL_isDay_411 (by decide) (fun c411 => absurd c411 (p_lt0 (n := n) ipq)) (fun c411 => ?_)
        refine ar_iload (pc := 414) dL_isDay_414 rfl ?_
        refine ar_aload_n (i := 0) (pc := 416) dL_isDay_416 rfl rfl ?_
        refine ar_iconst (pc := 417) dL_isDay_417 q_iconst_4 ?_
        refine ar_cl (pc := 418) dL_isDay_418 cal_X6_count kL_14 rfl rfl (an_count4) hz (lr_ia hR) rfl rfl rfl rfl rfl rfl (Nat.le_of_ble_eq_true rfl) (Nat.le_of_ble_eq_true rfl) (fun z hz => ?_)
        refine ar_icmp_gt (pc := 421) (tgt := 426) dL_isDay_421 (by decide) (fun c421 => ?_) (fun c421 => absurd (show vS (dyV v n) 4 < _ by rw [FY2 c379]; exact G) c421)
        refine ar_iinc (pc := 426) dL_isDay_426 rfl (nI_1 q) (Nat.le_of_ble_eq_true rfl) rfl ?_
        refine ar_goto (tgt := 353) (pc := 429) dL_isDay_429 (by decide) ?_
        refine ar_fg ?_ (ih (q + 1) (by omega) (by omega) z hz)
        exact ⟨rfl, rfl, rfl, rfl, rfl, rfl, rfl, rfl, rfl, rfl, rfl, rfl, rfl, rfl, rfl, rfl, trivial⟩
set_option maxHeartbeats 4000000 in
set_option maxRecDepth 100000 in
theorem lL_day_268 {gg ff : Nat → Int32} {n : Nat} {v : SV} (K : ok_D v n) (K' : ok_D (dyV v n) n) {h0 : am_H} {z0 : PV} {R : am_H} (hR : lr_H R) {g : Nat → Int32} (hg : ∀ i, i < n → g i = vT v i) {k : Nat} (hk : k < n) (C : ∀ z : PV, lz_D 6 (dyV v n) z0 z → am_RW mL_isDay h0 (dn_P ff gg (dyV v n) z0 R) 8 67 432 [some (.ref 2), some (.ref 98), some (.int (nI n)), some (.int (dyC v n)), some (.int (if rnV (puV v n) = 0 then 0 else 1)), some (.int (dyC v n + dyC (dyV v n) n)), some (.int (vDa v)), some (.int (vRa v)), some (.int (vTa v)), some (.int (nw_I v n (k + 1))), some (.int (su_I (ht_V v n) (k + 1))), some (.int (nI (or_N (lo_F (dyV v n)) (k + 1)))), some (.int (su_I (vI (dyV v n)) (k + 1))), some (.int (nI k)), none, none, none, none, none, none, none] [] (ppH false ff false gg z ++ (some (am_ia 8 g) :: R))) (z : PV) (hz : lz_D 6 (dyV v n) z0 z) : am_RW mL_isDay h0 (dn_P ff gg (dyV v n) z0 R) 8 67 268 [some (.ref 2), some (.ref 98), some (.int (nI n)), some (.int (dyC v n)), some (.int (if rnV (puV v n) = 0 then 0 else 1)), some (.int (dyC v n + dyC (dyV v n) n)), some (.int (vDa v)), some (.int (vRa v)), some (.int (vTa v)), some (.int (nw_I v n k)), some (.int (su_I (ht_V v n) k)), some (.int (nI (or_N (lo_F (dyV v n)) k))), some (.int (su_I (vI (dyV v n)) k)), some (.int (nI k)), some (.int (vP (dyV v n) k)), none, none, none, none, none, none] [.int (ht_V v n k)] (ppH false ff false gg z ++ (some (am_ia 8 g) :: R)) := by
  have h8 := K.2.1.1
  have L : pe_D n (vL (dyV v n)) := by rw [(dy_1 v n).2.2.2.2.2.2]; exact (pe_dl0 h8 K.2.1.2.1).1
  obtain ⟨b, hb, hbe⟩ := L.1 k hk
  refine ar_istore (pc := 268) dL_isDay_268 (Nat.le_of_ble_eq_true rfl) rfl ?_
  refine ar_aload_n (i := 0) (pc := 270) dL_isDay_270 rfl rfl ?_
  refine ar_iload (pc := 271) dL_isDay_271 rfl ?_
  refine ar_cl (pc := 273) dL_isDay_273 cal_X6_lot kL_38 rfl rfl (an_lot (nI k)) hz (lr_ia hR) rfl rfl rfl rfl rfl rfl (Nat.le_of_ble_eq_true rfl) (Nat.le_of_ble_eq_true rfl) (fun z hz => ?_)
  refine ar_hs (lot_e (show k < 8 by omega)) ?_
  refine ar_hs hbe ?_
  refine ar_istore (pc := 276) dL_isDay_276 (Nat.le_of_ble_eq_true rfl) rfl ?_
  refine ar_iload (pc := 278) dL_isDay_278 rfl ?_
  refine ar_iload (pc := 280) dL_isDay_280 rfl ?_
  refine ar_iadd (pc := 282) dL_isDay_282 ?_
  refine ar_istore (pc := 283) dL_isDay_283 (Nat.le_of_ble_eq_true rfl) rfl ?_
  refine ar_iload (pc := 285) dL_isDay_285 rfl ?_
  refine ar_aload_n (i := 0) (pc := 287) dL_isDay_287 rfl rfl ?_
  refine ar_iload (pc := 288) dL_isDay_288 rfl ?_
  refine ar_bipush (pc := 290) dL_isDay_290 q_bipush_7 ?_
  refine ar_cl (pc := 292) dL_isDay_292 cal_X6_booth kL_18 rfl rfl (an_booth7 K' hk) hz (lr_ia hR) rfl rfl rfl rfl rfl rfl (Nat.le_of_ble_eq_true rfl) (Nat.le_of_ble_eq_true rfl) (fun z hz => ?_)
  refine ar_iadd (pc := 295) dL_isDay_295 ?_
  refine ar_istore (pc := 296) dL_isDay_296 (Nat.le_of_ble_eq_true rfl) rfl ?_
  refine ar_iload (pc := 298) dL_isDay_298 rfl ?_
  refine ar_iload (pc := 300) dL_isDay_300 rfl ?_
  refine ar_if_ge (pc := 302) (tgt := 309) dL_isDay_302 (by decide) (fun c302 => ?_) (fun c302 => ?_)
  · refine ar_iconst (pc := 309) dL_isDay_309 q_iconst_0 ?_
    refine ar_hs (y := if vP (dyV v n) k < 0 then 1 else 0) (if_neg (Int32.not_lt.mpr c302)).symm ?_
    refine ar_iadd (pc := 310) dL_isDay_310 ?_
    refine ar_hs (nw_s v n k) ?_
    refine ar_istore (pc := 311) dL_isDay_311 (Nat.le_of_ble_eq_true rfl) rfl ?_
    refine ar_iload (pc := 313) dL_isDay_313 rfl ?_
    refine ar_iload (pc := 315) dL_isDay_315 rfl ?_
    refine ar_if_ge (pc := 317) (tgt := 324) dL_isDay_317 (by decide) (fun c317 => ?_) (fun c317 => absurd (nI_pos' (show b < 2 ^ 31 by omega)) c317)
    refine ar_iconst (pc := 324) dL_isDay_324 q_iconst_1 ?_
    refine ar_iload (pc := 325) dL_isDay_325 rfl ?_
    refine ar_ishl (pc := 327) dL_isDay_327 ?_
    refine ar_ior (pc := 328) dL_isDay_328 ?_
    refine ar_hs (lo_s h8 hb hbe) ?_
    refine ar_istore (pc := 329) dL_isDay_329 (Nat.le_of_ble_eq_true rfl) rfl ?_
    refine ar_aload_n (i := 0) (pc := 331) dL_isDay_331 rfl rfl ?_
    refine ar_iload (pc := 332) dL_isDay_332 rfl ?_
    refine ar_iconst (pc := 334) dL_isDay_334 q_iconst_5 ?_
    refine ar_cl (pc := 335) dL_isDay_335 cal_X6_booth kL_18 rfl rfl (an_booth5 K' hk) hz (lr_ia hR) rfl rfl rfl rfl rfl rfl (Nat.le_of_ble_eq_true rfl) (Nat.le_of_ble_eq_true rfl) (fun z hz => ?_)
    refine ar_aload_n (i := 1) (pc := 338) dL_isDay_338 rfl rfl ?_
    refine ar_iload (pc := 339) dL_isDay_339 rfl ?_
    refine ar_iald (pc := 341) dL_isDay_341 was_at (show k < 8 by omega) rfl ?_
    refine ar_iload (pc := 342) dL_isDay_342 rfl ?_
    refine ar_iadd (pc := 344) dL_isDay_344 ?_
    refine ar_icmp_eq (pc := 345) (tgt := 350) dL_isDay_345 (by decide) (fun c345 => ?_) (fun c345 => absurd (show vT (dyV v n) k = g k + ht_V v n k by rw [hg k hk]; exact dy_Tk K K' hk) c345)
    refine ar_iconst (pc := 350) dL_isDay_350 q_iconst_0 ?_
    refine ar_istore (pc := 351) dL_isDay_351 (Nat.le_of_ble_eq_true rfl) rfl ?_
    refine ar_fg ?_ (lL_day_353 K K' hR hk C n 0 (by omega) (by omega) z hz)
    exact ⟨rfl, rfl, rfl, rfl, rfl, rfl, rfl, rfl, rfl, rfl, rfl, rfl, rfl, rfl, rfl, rfl, trivial⟩
  · refine ar_iconst (pc := 305) dL_isDay_305 q_iconst_1 ?_
    refine ar_hs (y := if vP (dyV v n) k < 0 then 1 else 0) (if_pos (Int32.not_le.mp c302)).symm ?_
    refine ar_goto (tgt := 310) (pc := 306) dL_isDay_306 (by decide) ?_
    refine ar_iadd (pc := 310) dL_isDay_310 ?_
    refine ar_hs (nw_s v n k) ?_
    refine ar_istore (pc := 311) dL_isDay_311 (Nat.le_of_ble_eq_true rfl) rfl ?_
    refine ar_iload (pc := 313) dL_isDay_313 rfl ?_
    refine ar_iload (pc := 315) dL_isDay_315 rfl ?_
    refine ar_if_ge (pc := 317) (tgt := 324) dL_isDay_317 (by decide) (fun c317 => ?_) (fun c317 => absurd (nI_pos' (show b < 2 ^ 31 by omega)) c317)
    refine ar_iconst (pc := 324) dL_isDay_324 q_iconst_1 ?_
    refine ar_iload (pc := 325) dL_isDay_325 rfl ?_
    refine ar_ishl (pc := 327) dL_isDay_327 ?_
    refine ar_ior (pc := 328) dL_isDay_328 ?_
    refine ar_hs (lo_s h8 hb hbe) ?_
    refine ar_istore (pc := 329) dL_isDay_329 (Nat.le_of_ble_eq_true rfl) rfl ?_
    refine ar_aload_n (i := 0) (pc := 331) dL_isDay_331 rfl rfl ?_
    refine ar_iload (pc := 332) dL_isDay_332 rfl ?_
    refine ar_iconst (pc := 334) dL_isDay_334 q_iconst_5 ?_
    refine ar_cl (pc := 335) dL_isDay_335 cal_X6_booth kL_18 rfl rfl (an_booth5 K' hk) hz (lr_ia hR) rfl rfl rfl rfl rfl rfl (Nat.le_of_ble_eq_true rfl) (Nat.le_of_ble_eq_true rfl) (fun z hz => ?_)
    refine ar_aload_n (i := 1) (pc := 338) dL_isDay_338 rfl rfl ?_
    refine ar_iload (pc := 339) dL_isDay_339 rfl ?_
    refine ar_iald (pc := 341) dL_isDay_341 was_at (show k < 8 by omega) rfl ?_
    refine ar_iload (pc := 342) dL_isDay_342 rfl ?_
    refine ar_iadd (pc := 344) dL_isDay_344 ?_
    refine ar_icmp_eq (pc := 345) (tgt := 350) dL_isDay_345 (by decide) (fun c345 => ?_) (fun c345 => absurd (show vT (dyV v n) k = g k + ht_V v n k by rw [hg k hk]; exact dy_Tk K K' hk) c345)
    refine ar_iconst (pc := 350) dL_isDay_350 q_iconst_0 ?_
    refine ar_istore (pc := 351) dL_isDay_351 (Nat.le_of_ble_eq_true rfl) rfl ?_
    refine ar_fg ?_ (lL_day_353 K K' hR hk C n 0 (by omega) (by omega) z hz)
    exact ⟨rfl, rfl, rfl, rfl, rfl, rfl, rfl, rfl, rfl, rfl, rfl, rfl, rfl, rfl, rfl, rfl, trivial⟩
theorem dy_rc {v : SV} {n k : Nat} (K' : ok_D (dyV v n) n) (hk : k < n) : rnV (puV v n) = 0 ∨ (¬ rnV (puV v n) = 0 ∧ vP (dyV v n) k = -6) ∨ (¬ rnV (puV v n) = 0 ∧ inP (vP (dyV v n) k)) := by
  by_cases r : rnV (puV v n) = 0
  · exact Or.inl r
  · rcases K'.2.1.2.2.2.2.1 k hk with h | h
    · exact Or.inr (Or.inl ⟨r, h⟩)
    · exact Or.inr (Or.inr ⟨r, h⟩)
set_option maxHeartbeats 4000000 in
set_option maxRecDepth 100000 in
theorem lL_day_193 {gg ff : Nat → Int32} {n : Nat} {v : SV} (K : ok_D v n) (K' : ok_D (dyV v n) n) {h0 : am_H} {z0 : PV} {R : am_H} (hR : lr_H R) {g : Nat → Int32} (hg : ∀ i, i < n → g i = vT v i) (C : ∀ z : PV, lz_D 6 (dyV v n) z0 z → am_RW mL_isDay h0 (dn_P ff gg (dyV v n) z0 R) 8 67 438 [some (.ref 2), some (.ref 98), some (.int (nI n)), some (.int (dyC v n)), some (.int (if rnV (puV v n) = 0 then 0 else 1)), some (.int (dyC v n + dyC (dyV v n) n)), some (.int (vDa v)), some (.int (vRa v)), some (.int (vTa v)), some (.int (nw_I v n n)), some (.int (su_I (ht_V v n) n)), some (.int (nI (or_N (lo_F (dyV v n)) n))), some (.int (su_I (vI (dyV v n)) n)), none, none, none, none, none, none, none, none] [] (ppH false ff false gg z ++ (some (am_ia 8 g) :: R))) : ∀ (d k : Nat), k + d = n → k ≤ n → ∀ z : PV, lz_D 6 (dyV v n) z0 z → am_RW mL_isDay h0 (dn_P ff gg (dyV v n) z0 R) 8 67 193 [some (.ref 2), some (.ref 98), some (.int (nI n)), some (.int (dyC v n)), some (.int (if rnV (puV v n) = 0 then 0 else 1)), some (.int (dyC v n + dyC (dyV v n) n)), some (.int (vDa v)), some (.int (vRa v)), some (.int (vTa v)), some (.int (nw_I v n k)), some (.int (su_I (ht_V v n) k)), some (.int (nI (or_N (lo_F (dyV v n)) k))), some (.int (su_I (vI (dyV v n)) k)), some (.int (nI k)), none, none, none, none, none, none, none] [] (ppH false ff false gg z ++ (some (am_ia 8 g) :: R)) := by
  have h8 := K.2.1.1
  intro d
  induction d with
  | zero =>
    intro k hk _ z hz
    have e : k = n := by omega
    subst e
    refine ar_iload (pc := 193) dL_isDay_193 rfl ?_
    refine ar_iload_n (i := 2) (pc := 195) dL_isDay_195 rfl rfl ?_
    refine ar_icmp_ge (pc := 196) (tgt := 438) dL_isDay_196 (by decide) (fun c196 => ?_) (fun c196 => absurd (Int32.le_refl _) c196)
    refine ar_fg ?_ (C z hz)
    exact ⟨rfl, rfl, rfl, rfl, rfl, rfl, rfl, rfl, rfl, rfl, rfl, rfl, rfl, trivial⟩
  | succ d ih =>
    intro k hkd _ z hz
    have hk : k < n := by omega
    have CC : ∀ z : PV, lz_D 6 (dyV v n) z0 z → am_RW mL_isDay h0 (dn_P ff gg (dyV v n) z0 R) 8 67 432 [some (.ref 2), some (.ref 98), some (.int (nI n)), some (.int (dyC v n)), some (.int (if rnV (puV v n) = 0 then 0 else 1)), some (.int (dyC v n + dyC (dyV v n) n)), some (.int (vDa v)), some (.int (vRa v)), some (.int (vTa v)), some (.int (nw_I v n (k + 1))), some (.int (su_I (ht_V v n) (k + 1))), some (.int (nI (or_N (lo_F (dyV v n)) (k + 1)))), some (.int (su_I (vI (dyV v n)) (k + 1))), some (.int (nI k)), none, none, none, none, none, none, none] [] (ppH false ff false gg z ++ (some (am_ia 8 g) :: R)) := by
      intro z hz
      refine ar_iinc (pc := 432) dL_isDay_432 rfl (nI_1 k) (Nat.le_of_ble_eq_true rfl) rfl ?_
      refine ar_goto (tgt := 193) (pc := 435) dL_isDay_435 (by decide) ?_
      refine ar_fg ?_ (ih (k + 1) (by omega) (by omega) z hz)
      exact ⟨rfl, rfl, rfl, rfl, rfl, rfl, rfl, rfl, rfl, rfl, rfl, rfl, rfl, rfl, trivial⟩
    refine ar_iload (pc := 193) dL_isDay_193 rfl ?_
    refine ar_iload_n (i := 2) (pc := 195) dL_isDay_195 rfl rfl ?_
    refine ar_icmp_ge (pc := 196) (tgt := 438) dL_isDay_196 (by decide) (fun c196 => absurd c196 (nI_ge hk (by omega))) (fun c196 => ?_)
    refine ar_iload (pc := 199) dL_isDay_199 rfl ?_
    refine ar_bipush (pc := 201) dL_isDay_201 q_bipush_8 ?_
    refine ar_icmp_ge (pc := 203) (tgt := 438) dL_isDay_203 (by decide) (fun c203 => absurd c203 (nI_ge (show k < 8 by omega) (by decide))) (fun c203 => ?_)
    refine ar_aload_n (i := 0) (pc := 206) dL_isDay_206 rfl rfl ?_
    refine ar_iload (pc := 207) dL_isDay_207 rfl ?_
    refine ar_iconst (pc := 209) dL_isDay_209 q_iconst_1 ?_
    refine ar_cl (pc := 210) dL_isDay_210 cal_X6_booth kL_18 rfl rfl (an_booth1 K' hk) hz (lr_ia hR) rfl rfl rfl rfl rfl rfl (Nat.le_of_ble_eq_true rfl) (Nat.le_of_ble_eq_true rfl) (fun z hz => ?_)
    refine ar_istore (pc := 213) dL_isDay_213 (Nat.le_of_ble_eq_true rfl) rfl ?_
    rcases dy_rc (v := v) (n := n) K' hk with hr | ⟨hr, e6⟩ | ⟨hr, ip⟩
    · refine ar_iload (pc := 215) dL_isDay_215 rfl ?_
      refine ar_if_eq (pc := 217) (tgt := 236) dL_isDay_217 (by decide) (fun c217 => ?_) (fun c217 => absurd (if_pos hr) c217)
      refine ar_iconst (pc := 236) dL_isDay_236 q_iconst_1 ?_
      refine ar_goto (tgt := 241) (pc := 237) dL_isDay_237 (by decide) ?_
      refine ar_istore (pc := 241) dL_isDay_241 (Nat.le_of_ble_eq_true rfl) rfl ?_
      refine ar_iload (pc := 243) dL_isDay_243 rfl ?_
      refine ar_if_eq (pc := 245) (tgt := 267) dL_isDay_245 (by decide) (fun c245 => absurd c245 (by decide)) (fun c245 => ?_)
      refine ar_aload_n (i := 0) (pc := 248) dL_isDay_248 rfl rfl ?_
      refine ar_iload (pc := 249) dL_isDay_249 rfl ?_
      refine ar_iconst (pc := 251) dL_isDay_251 q_iconst_2 ?_
      refine ar_cl (pc := 252) dL_isDay_252 cal_X6_booth kL_18 rfl rfl (an_booth2 K' hk) hz (lr_ia hR) rfl rfl rfl rfl rfl rfl (Nat.le_of_ble_eq_true rfl) (Nat.le_of_ble_eq_true rfl) (fun z hz => ?_)
      refine ar_aload_n (i := 0) (pc := 255) dL_isDay_255 rfl rfl ?_
      refine ar_iconst (pc := 256) dL_isDay_256 q_iconst_3 ?_
      refine ar_cl (pc := 257) dL_isDay_257 cal_X6_count kL_14 rfl rfl (an_count3) hz (lr_ia hR) rfl rfl rfl rfl rfl rfl (Nat.le_of_ble_eq_true rfl) (Nat.le_of_ble_eq_true rfl) (fun z hz => ?_)
      refine ar_imul (pc := 260) dL_isDay_260 ?_
      refine ar_bipush (pc := 261) dL_isDay_261 q_bipush_100 ?_
      refine ar_idiv (pc := 263) dL_isDay_263 (by decide) ?_
      refine ar_goto (tgt := 268) (pc := 264) dL_isDay_264 (by decide) ?_
      refine ar_hs ((ht_y (Or.inl hr)).symm) ?_
      refine ar_fg ?_ (lL_day_268 K K' hR hg hk CC z hz)
      exact ⟨rfl, rfl, rfl, rfl, rfl, rfl, rfl, rfl, rfl, rfl, rfl, rfl, rfl, rfl, rfl, trivial⟩
    · refine ar_iload (pc := 215) dL_isDay_215 rfl ?_
      refine ar_if_eq (pc := 217) (tgt := 236) dL_isDay_217 (by decide) (fun c217 => absurd (c217.symm.trans (if_neg hr)) (by decide)) (fun c217 => ?_)
      refine ar_iload (pc := 220) dL_isDay_220 rfl ?_
      refine ar_if_lt (pc := 222) (tgt := 240) dL_isDay_222 (by decide) (fun c222 => ?_) (fun c222 => absurd (show vP (dyV v n) k < 0 by rw [e6]; decide) c222)
      refine ar_iconst (pc := 240) dL_isDay_240 q_iconst_0 ?_
      refine ar_istore (pc := 241) dL_isDay_241 (Nat.le_of_ble_eq_true rfl) rfl ?_
      refine ar_iload (pc := 243) dL_isDay_243 rfl ?_
      refine ar_if_eq (pc := 245) (tgt := 267) dL_isDay_245 (by decide) (fun c245 => ?_) (fun c245 => absurd rfl c245)
      refine ar_iconst (pc := 267) dL_isDay_267 q_iconst_0 ?_
      refine ar_hs ((ht_n (fun o => o.elim hr (fun w => w.1 e6))).symm) ?_
      refine ar_fg ?_ (lL_day_268 K K' hR hg hk CC z hz)
      exact ⟨rfl, rfl, rfl, rfl, rfl, rfl, rfl, rfl, rfl, rfl, rfl, rfl, rfl, rfl, rfl, trivial⟩
    · have RF : if_I (rfP (vRo (dyV v n)) (ix (vP (dyV v n) k))) = 1 → rfP (vRo (dyV v n)) (ix (vP (dyV v n) k)) := fun e => if_Iy (fun z => absurd (z.symm.trans e) (by decide))
      refine ar_iload (pc := 215) dL_isDay_215 rfl ?_
      refine ar_if_eq (pc := 217) (tgt := 236) dL_isDay_217 (by decide) (fun c217 => absurd (c217.symm.trans (if_neg hr)) (by decide)) (fun c217 => ?_)
      refine ar_iload (pc := 220) dL_isDay_220 rfl ?_
      refine ar_if_lt (pc := 222) (tgt := 240) dL_isDay_222 (by decide) (fun c222 => absurd c222 (p_lt0 (n := n) ip)) (fun c222 => ?_)
      refine ar_aload_n (i := 0) (pc := 225) dL_isDay_225 rfl rfl ?_
      refine ar_iload (pc := 226) dL_isDay_226 rfl ?_
      refine ar_iconst (pc := 228) dL_isDay_228 q_iconst_0 ?_
      refine ar_cl (pc := 229) dL_isDay_229 cal_X6_pitch kL_8 rfl rfl (an_pit0 K' ip) hz (lr_ia hR) rfl rfl rfl rfl rfl rfl (Nat.le_of_ble_eq_true rfl) (Nat.le_of_ble_eq_true rfl) (fun z hz => ?_)
      refine ar_iconst (pc := 232) dL_isDay_232 q_iconst_1 ?_
      refine ar_icmp_ne (pc := 233) (tgt := 240) dL_isDay_233 (by decide) (fun c233 => ?_) (fun c233 => ?_)
      · refine ar_iconst (pc := 240) dL_isDay_240 q_iconst_0 ?_
        refine ar_istore (pc := 241) dL_isDay_241 (Nat.le_of_ble_eq_true rfl) rfl ?_
        refine ar_iload (pc := 243) dL_isDay_243 rfl ?_
        refine ar_if_eq (pc := 245) (tgt := 267) dL_isDay_245 (by decide) (fun c245 => ?_) (fun c245 => absurd rfl c245)
        refine ar_iconst (pc := 267) dL_isDay_267 q_iconst_0 ?_
        refine ar_hs ((ht_n (fun o => o.elim hr (fun w => c233 (if_1 w.2)))).symm) ?_
        refine ar_fg ?_ (lL_day_268 K K' hR hg hk CC z hz)
        exact ⟨rfl, rfl, rfl, rfl, rfl, rfl, rfl, rfl, rfl, rfl, rfl, rfl, rfl, rfl, rfl, trivial⟩
      · refine ar_iconst (pc := 236) dL_isDay_236 q_iconst_1 ?_
        refine ar_goto (tgt := 241) (pc := 237) dL_isDay_237 (by decide) ?_
        refine ar_istore (pc := 241) dL_isDay_241 (Nat.le_of_ble_eq_true rfl) rfl ?_
        refine ar_iload (pc := 243) dL_isDay_243 rfl ?_
        refine ar_if_eq (pc := 245) (tgt := 267) dL_isDay_245 (by decide) (fun c245 => absurd c245 (by decide)) (fun c245 => ?_)
        refine ar_aload_n (i := 0) (pc := 248) dL_isDay_248 rfl rfl ?_
        refine ar_iload (pc := 249) dL_isDay_249 rfl ?_
        refine ar_iconst (pc := 251) dL_isDay_251 q_iconst_2 ?_
        refine ar_cl (pc := 252) dL_isDay_252 cal_X6_booth kL_18 rfl rfl (an_booth2 K' hk) hz (lr_ia hR) rfl rfl rfl rfl rfl rfl (Nat.le_of_ble_eq_true rfl) (Nat.le_of_ble_eq_true rfl) (fun z hz => ?_)
        refine ar_aload_n (i := 0) (pc := 255) dL_isDay_255 rfl rfl ?_
        refine ar_iconst (pc := 256) dL_isDay_256 q_iconst_3 ?_
        refine ar_cl (pc := 257) dL_isDay_257 cal_X6_count kL_14 rfl rfl (an_count3) hz (lr_ia hR) rfl rfl rfl rfl rfl rfl (Nat.le_of_ble_eq_true rfl) (Nat.le_of_ble_eq_true rfl) (fun z hz => ?_)
        refine ar_imul (pc := 260) dL_isDay_260 ?_
        refine ar_bipush (pc := 261) dL_isDay_261 q_bipush_100 ?_
        refine ar_idiv (pc := 263) dL_isDay_263 (by decide) ?_
        refine ar_goto (tgt := 268) (pc := 264) dL_isDay_264 (by decide) ?_
        refine ar_hs ((ht_y (Or.inr ⟨fun z => inP_6 (z ▸ ip), RF c233⟩)).symm) ?_
        refine ar_fg ?_ (lL_day_268 K K' hR hg hk CC z hz)
        exact ⟨rfl, rfl, rfl, rfl, rfl, rfl, rfl, rfl, rfl, rfl, rfl, rfl, rfl, rfl, rfl, trivial⟩
set_option maxHeartbeats 4000000 in
set_option maxRecDepth 100000 in
theorem lL_day_444 {gg ff : Nat → Int32} {n : Nat} {v : SV} (K : ok_D v n) (K' : ok_D (dyV v n) n) {h0 : am_H} {z0 : PV} {R : am_H} (hR : lr_H R) {g : Nat → Int32} : ∀ (d p : Nat), p + d = 12 → ∀ z : PV, lz_D 6 (dyV v n) z0 z → am_RW mL_isDay h0 (dn_P ff gg (dyV v n) z0 R) 8 67 444 [some (.ref 2), some (.ref 98), some (.int (nI n)), some (.int (dyC v n)), some (.int (if rnV (puV v n) = 0 then 0 else 1)), some (.int (dyC v n + dyC (dyV v n) n)), some (.int (vDa v)), some (.int (vRa v)), some (.int (vTa v)), some (.int (nw_I v n n)), some (.int (su_I (ht_V v n) n)), some (.int (nI (or_N (lo_F (dyV v n)) n))), some (.int (su_I (vI (dyV v n)) n)), some (.int (su_I (fun p => if_I (opP (lkT (dyV v n) n (-6) 8) p (vS (dyV v n) 4))) p)), some (.int (nI p)), none, none, none, none, none, none] [] (ppH false ff false gg z ++ (some (am_ia 8 g) :: R)) := by
  have h8 := K.2.1.1
  have L : pe_D n (vL (dyV v n)) := by rw [(dy_1 v n).2.2.2.2.2.2]; exact (pe_dl0 h8 K.2.1.2.1).1
  have n8 : ¬ nI n = 8 → n < 8 := fun c => Nat.lt_of_le_of_ne h8 fun e => c (by rw [e]; rfl)
  intro d
  induction d with
  | zero =>
    intro p hp z hz
    have e : p = 12 := by omega
    subst e
    refine ar_iload (pc := 444) dL_isDay_444 rfl ?_
    refine ar_bipush (pc := 446) dL_isDay_446 q_bipush_12 ?_
    refine ar_icmp_ge (pc := 448) (tgt := 469) dL_isDay_448 (by decide) (fun c448 => ?_) (fun c448 => absurd (Int32.le_refl _) c448)
    refine ar_iload (pc := 469) dL_isDay_469 rfl ?_
    refine ar_iload_n (i := 3) (pc := 471) dL_isDay_471 rfl rfl ?_
    refine ar_icmp_ne (pc := 472) (tgt := 540) dL_isDay_472 (by decide) (fun c472 => absurd (dy_sum K K') c472) (fun c472 => ?_)
    refine ar_iload (pc := 475) dL_isDay_475 rfl ?_
    refine ar_iconst (pc := 477) dL_isDay_477 q_iconst_1 ?_
    refine ar_iload_n (i := 2) (pc := 478) dL_isDay_478 rfl rfl ?_
    refine ar_ishl (pc := 479) dL_isDay_479 ?_
    refine ar_iconst (pc := 480) dL_isDay_480 q_iconst_1 ?_
    refine ar_isub (pc := 481) dL_isDay_481 ?_
    refine ar_icmp_ne (pc := 482) (tgt := 540) dL_isDay_482 (by decide) (fun c482 => absurd (lo_end h8 L) c482) (fun c482 => ?_)
    refine ar_iload (pc := 485) dL_isDay_485 rfl ?_
    refine ar_iload (pc := 487) dL_isDay_487 rfl ?_
    refine ar_icmp_ne (pc := 489) (tgt := 540) dL_isDay_489 (by decide) (fun c489 => absurd (nw_end K K') c489) (fun c489 => ?_)
    refine ar_aload_n (i := 0) (pc := 492) dL_isDay_492 rfl rfl ?_
    refine ar_bipush (pc := 493) dL_isDay_493 q_bipush_8 ?_
    refine ar_cl (pc := 495) dL_isDay_495 cal_X6_count kL_14 rfl rfl (an_count8 K') hz (lr_ia hR) rfl rfl rfl rfl rfl rfl (Nat.le_of_ble_eq_true rfl) (Nat.le_of_ble_eq_true rfl) (fun z hz => ?_)
    refine ar_iload_n (i := 2) (pc := 498) dL_isDay_498 rfl rfl ?_
    refine ar_icmp_eq (pc := 499) (tgt := 507) dL_isDay_499 (by decide) (fun c499 => ?_) (fun c499 => ?_)
    · refine ar_iload_n (i := 2) (pc := 507) dL_isDay_507 rfl rfl ?_
      refine ar_bipush (pc := 508) dL_isDay_508 q_bipush_8 ?_
      refine ar_icmp_eq (pc := 510) (tgt := 523) dL_isDay_510 (by decide) (fun c510 => ?_) (fun c510 => ?_)
      · refine ar_iload (pc := 523) dL_isDay_523 rfl ?_
        refine ar_iload_n (i := 3) (pc := 525) dL_isDay_525 rfl rfl ?_
        refine ar_isub (pc := 526) dL_isDay_526 ?_
        refine ar_aload_n (i := 0) (pc := 527) dL_isDay_527 rfl rfl ?_
        refine ar_iconst (pc := 528) dL_isDay_528 q_iconst_1 ?_
        refine ar_iconst (pc := 529) dL_isDay_529 q_iconst_0 ?_
        refine ar_cl (pc := 530) dL_isDay_530 cal_X6_ifPlayed kL_31 rfl rfl (an_ifp10 K') hz (lr_ia hR) rfl rfl rfl rfl rfl rfl (Nat.le_of_ble_eq_true rfl) (Nat.le_of_ble_eq_true rfl) (fun z hz => ?_)
        refine ar_icmp_ne (pc := 533) (tgt := 540) dL_isDay_533 (by decide) (fun c533 => absurd (two_1 _ _) c533) (fun c533 => ?_)
        refine ar_iconst (pc := 536) dL_isDay_536 q_iconst_1 ?_
        refine ar_goto (tgt := 541) (pc := 537) dL_isDay_537 (by decide) ?_
        exact ar_zret (pc := 541) dL_isDay_541 rfl (Or.inr rfl) rfl rfl ⟨rfl, z, g, hz, rfl⟩
      · refine ar_aload_n (i := 0) (pc := 513) dL_isDay_513 rfl rfl ?_
        refine ar_iload_n (i := 2) (pc := 514) dL_isDay_514 rfl rfl ?_
        refine ar_cl (pc := 515) dL_isDay_515 cal_X6_lot kL_38 rfl rfl (an_lot (nI n)) hz (lr_ia hR) rfl rfl rfl rfl rfl rfl (Nat.le_of_ble_eq_true rfl) (Nat.le_of_ble_eq_true rfl) (fun z hz => ?_)
        refine ar_bipush (pc := 518) dL_isDay_518 q_bipush_m6 ?_
        refine ar_icmp_ne (pc := 520) (tgt := 540) dL_isDay_520 (by decide) (fun c520 => absurd ((lot_e (n8 c510)).trans (L.2.2.1 n (Nat.le_refl n) (n8 c510))) c520) (fun c520 => ?_)
        refine ar_iload (pc := 523) dL_isDay_523 rfl ?_
        refine ar_iload_n (i := 3) (pc := 525) dL_isDay_525 rfl rfl ?_
        refine ar_isub (pc := 526) dL_isDay_526 ?_
        refine ar_aload_n (i := 0) (pc := 527) dL_isDay_527 rfl rfl ?_
        refine ar_iconst (pc := 528) dL_isDay_528 q_iconst_1 ?_
        refine ar_iconst (pc := 529) dL_isDay_529 q_iconst_0 ?_
        refine ar_cl (pc := 530) dL_isDay_530 cal_X6_ifPlayed kL_31 rfl rfl (an_ifp10 K') hz (lr_ia hR) rfl rfl rfl rfl rfl rfl (Nat.le_of_ble_eq_true rfl) (Nat.le_of_ble_eq_true rfl) (fun z hz => ?_)
        refine ar_icmp_ne (pc := 533) (tgt := 540) dL_isDay_533 (by decide) (fun c533 => absurd (two_1 _ _) c533) (fun c533 => ?_)
        refine ar_iconst (pc := 536) dL_isDay_536 q_iconst_1 ?_
        refine ar_goto (tgt := 541) (pc := 537) dL_isDay_537 (by decide) ?_
        exact ar_zret (pc := 541) dL_isDay_541 rfl (Or.inr rfl) rfl rfl ⟨rfl, z, g, hz, rfl⟩
    · refine ar_iload (pc := 502) dL_isDay_502 rfl ?_
      refine ar_if_ne (pc := 504) (tgt := 540) dL_isDay_504 (by decide) (fun c504 => absurd ((dy_fr K K').resolve_left c499) c504) (fun c504 => ?_)
      refine ar_iload_n (i := 2) (pc := 507) dL_isDay_507 rfl rfl ?_
      refine ar_bipush (pc := 508) dL_isDay_508 q_bipush_8 ?_
      refine ar_icmp_eq (pc := 510) (tgt := 523) dL_isDay_510 (by decide) (fun c510 => ?_) (fun c510 => ?_)
      · refine ar_iload (pc := 523) dL_isDay_523 rfl ?_
        refine ar_iload_n (i := 3) (pc := 525) dL_isDay_525 rfl rfl ?_
        refine ar_isub (pc := 526) dL_isDay_526 ?_
        refine ar_aload_n (i := 0) (pc := 527) dL_isDay_527 rfl rfl ?_
        refine ar_iconst (pc := 528) dL_isDay_528 q_iconst_1 ?_
        refine ar_iconst (pc := 529) dL_isDay_529 q_iconst_0 ?_
        refine ar_cl (pc := 530) dL_isDay_530 cal_X6_ifPlayed kL_31 rfl rfl (an_ifp10 K') hz (lr_ia hR) rfl rfl rfl rfl rfl rfl (Nat.le_of_ble_eq_true rfl) (Nat.le_of_ble_eq_true rfl) (fun z hz => ?_)
        refine ar_icmp_ne (pc := 533) (tgt := 540) dL_isDay_533 (by decide) (fun c533 => absurd (two_1 _ _) c533) (fun c533 => ?_)
        refine ar_iconst (pc := 536) dL_isDay_536 q_iconst_1 ?_
        refine ar_goto (tgt := 541) (pc := 537) dL_isDay_537 (by decide) ?_
        exact ar_zret (pc := 541) dL_isDay_541 rfl (Or.inr rfl) rfl rfl ⟨rfl, z, g, hz, rfl⟩
      · refine ar_aload_n (i := 0) (pc := 513) dL_isDay_513 rfl rfl ?_
        refine ar_iload_n (i := 2) (pc := 514) dL_isDay_514 rfl rfl ?_
        refine ar_cl (pc := 515) dL_isDay_515 cal_X6_lot kL_38 rfl rfl (an_lot (nI n)) hz (lr_ia hR) rfl rfl rfl rfl rfl rfl (Nat.le_of_ble_eq_true rfl) (Nat.le_of_ble_eq_true rfl) (fun z hz => ?_)
        refine ar_bipush (pc := 518) dL_isDay_518 q_bipush_m6 ?_
        refine ar_icmp_ne (pc := 520) (tgt := 540) dL_isDay_520 (by decide) (fun c520 => absurd ((lot_e (n8 c510)).trans (L.2.2.1 n (Nat.le_refl n) (n8 c510))) c520) (fun c520 => ?_)
        refine ar_iload (pc := 523) dL_isDay_523 rfl ?_
        refine ar_iload_n (i := 3) (pc := 525) dL_isDay_525 rfl rfl ?_
        refine ar_isub (pc := 526) dL_isDay_526 ?_
        refine ar_aload_n (i := 0) (pc := 527) dL_isDay_527 rfl rfl ?_
        refine ar_iconst (pc := 528) dL_isDay_528 q_iconst_1 ?_
        refine ar_iconst (pc := 529) dL_isDay_529 q_iconst_0 ?_
        refine ar_cl (pc := 530) dL_isDay_530 cal_X6_ifPlayed kL_31 rfl rfl (an_ifp10 K') hz (lr_ia hR) rfl rfl rfl rfl rfl rfl (Nat.le_of_ble_eq_true rfl) (Nat.le_of_ble_eq_true rfl) (fun z hz => ?_)
        refine ar_icmp_ne (pc := 533) (tgt := 540) dL_isDay_533 (by decide) (fun c533 => absurd (two_1 _ _) c533) (fun c533 => ?_)
        refine ar_iconst (pc := 536) dL_isDay_536 q_iconst_1 ?_
        refine ar_goto (tgt := 541) (pc := 537) dL_isDay_537 (by decide) ?_
        exact ar_zret (pc := 541) dL_isDay_541 rfl (Or.inr rfl) rfl rfl ⟨rfl, z, g, hz, rfl⟩
  | succ d ih =>
    intro p hpd z hz
    have hp : p < 12 := by omega
    refine ar_iload (pc := 444) dL_isDay_444 rfl ?_
    refine ar_bipush (pc := 446) dL_isDay_446 q_bipush_12 ?_
    refine ar_icmp_ge (pc := 448) (tgt := 469) dL_isDay_448 (by decide) (fun c448 => absurd c448 (nI_ge (show p < 12 by omega) (by decide))) (fun c448 => ?_)
    refine ar_iload (pc := 451) dL_isDay_451 rfl ?_
    refine ar_aload_n (i := 0) (pc := 453) dL_isDay_453 rfl rfl ?_
    refine ar_iload (pc := 454) dL_isDay_454 rfl ?_
    refine ar_iconst (pc := 456) dL_isDay_456 q_iconst_2 ?_
    refine ar_cl (pc := 457) dL_isDay_457 cal_X6_pitch kL_8 rfl rfl (an_pitch2 K' hp) hz (lr_ia hR) rfl rfl rfl rfl rfl rfl (Nat.le_of_ble_eq_true rfl) (Nat.le_of_ble_eq_true rfl) (fun z hz => ?_)
    refine ar_iadd (pc := 460) dL_isDay_460 ?_
    refine ar_istore (pc := 461) dL_isDay_461 (Nat.le_of_ble_eq_true rfl) rfl ?_
    refine ar_iinc (pc := 463) dL_isDay_463 rfl (nI_1 p) (Nat.le_of_ble_eq_true rfl) rfl ?_
    refine ar_goto (tgt := 444) (pc := 466) dL_isDay_466 (by decide) ?_
    refine ar_fg ?_ (ih (p + 1) (by omega) z hz)
    exact ⟨rfl, rfl, rfl, rfl, rfl, rfl, rfl, rfl, rfl, rfl, rfl, rfl, rfl, rfl, rfl, trivial⟩
set_option maxHeartbeats 4000000 in
set_option maxRecDepth 100000 in
theorem lL_day_438 {gg ff : Nat → Int32} {n : Nat} {v : SV} (K : ok_D v n) (K' : ok_D (dyV v n) n) {h0 : am_H} {z0 : PV} {R : am_H} (hR : lr_H R) {g : Nat → Int32} (z : PV) (hz : lz_D 6 (dyV v n) z0 z) : am_RW mL_isDay h0 (dn_P ff gg (dyV v n) z0 R) 8 67 438 [some (.ref 2), some (.ref 98), some (.int (nI n)), some (.int (dyC v n)), some (.int (if rnV (puV v n) = 0 then 0 else 1)), some (.int (dyC v n + dyC (dyV v n) n)), some (.int (vDa v)), some (.int (vRa v)), some (.int (vTa v)), some (.int (nw_I v n n)), some (.int (su_I (ht_V v n) n)), some (.int (nI (or_N (lo_F (dyV v n)) n))), some (.int (su_I (vI (dyV v n)) n)), none, none, none, none, none, none, none, none] [] (ppH false ff false gg z ++ (some (am_ia 8 g) :: R)) := by
  refine ar_iconst (pc := 438) dL_isDay_438 q_iconst_0 ?_
  refine ar_istore (pc := 439) dL_isDay_439 (Nat.le_of_ble_eq_true rfl) rfl ?_
  refine ar_iconst (pc := 441) dL_isDay_441 q_iconst_0 ?_
  refine ar_istore (pc := 442) dL_isDay_442 (Nat.le_of_ble_eq_true rfl) rfl ?_
  refine ar_fg ?_ (lL_day_444 K K' hR 12 0 (by omega) z hz)
  exact ⟨rfl, rfl, rfl, rfl, rfl, rfl, rfl, rfl, rfl, rfl, rfl, rfl, rfl, rfl, rfl, trivial⟩
set_option maxHeartbeats 4000000 in
set_option maxRecDepth 100000 in
theorem lL_day_125 {gg ff : Nat → Int32} {n : Nat} {v : SV} (K : ok_D v n) (K' : ok_D (dyV v n) n) {h0 : am_H} {z0 : PV} {R : am_H} (hR : lr_H R) {d : Nat} (M : mo_D v n d) {g : Nat → Int32} (hg : ∀ i, i < n → g i = vT v i) (z : PV) (hz : lz_D 6 v z0 z) : am_RW mL_isDay h0 (dn_P ff gg (dyV v n) z0 R) 0 0 125 [some (.ref 2), some (.ref 98), some (.int (nI n)), some (.int (dyC v n)), some (.int (if rnV (puV v n) = 0 then 0 else 1)), some (.int (dyC v n + dyC (dyV v n) n)), some (.int (vDa v)), some (.int (vRa v)), some (.int (vTa v)), some (.int (su_I (vI v) n)), none, none, none, none, none, none, none, none, none, none, none] [] (ppH false ff false gg z ++ (some (am_ia 8 g) :: R)) := by
  have h8 := K.2.1.1
  have da := da_80 M
  have hd : (vDa v).toInt < 9999 := by omega
  have hd1 : (vDa v + 1).toInt < 9999 := by
    have h1 := Int32.le_toInt (vDa v)
    rw [Int32.toInt_add, ti_1, Int.bmod_eq_of_le (by omega) (by omega)]
    omega
  refine ar_aload_n (i := 0) (pc := 125) dL_isDay_125 rfl rfl ?_
  refine ar_cl (pc := 126) dL_isDay_126 cal_X6_play kL_34 rfl rfl (an_play K hd) hz (lr_ia hR) rfl rfl rfl rfl rfl rfl (Nat.le_of_ble_eq_true rfl) (Nat.le_of_ble_eq_true rfl) (fun z hz => ?_)
  refine ar_iload_n (i := 3) (pc := 129) dL_isDay_129 rfl rfl ?_
  refine ar_icmp_ne (pc := 130) (tgt := 179) dL_isDay_130 (by decide) (fun c130 => absurd rfl c130) (fun c130 => ?_)
  refine ar_aload_n (i := 0) (pc := 133) dL_isDay_133 rfl rfl ?_
  refine ar_bipush (pc := 134) dL_isDay_134 q_bipush_12 ?_
  refine ar_cl (pc := 136) dL_isDay_136 cal_X6_count kL_14 rfl rfl (an_count12 K') hz (lr_ia hR) rfl rfl rfl rfl rfl rfl (Nat.le_of_ble_eq_true rfl) (Nat.le_of_ble_eq_true rfl) (fun z hz => ?_)
  refine ar_iload (pc := 139) dL_isDay_139 rfl ?_
  refine ar_iconst (pc := 141) dL_isDay_141 q_iconst_1 ?_
  refine ar_iadd (pc := 142) dL_isDay_142 ?_
  refine ar_icmp_ne (pc := 143) (tgt := 179) dL_isDay_143 (by decide) (fun c143 => absurd (dy_1 v n).2.2.2.1 c143) (fun c143 => ?_)
  refine ar_aload_n (i := 0) (pc := 146) dL_isDay_146 rfl rfl ?_
  refine ar_bipush (pc := 147) dL_isDay_147 q_bipush_13 ?_
  refine ar_cl (pc := 149) dL_isDay_149 cal_X6_count kL_14 rfl rfl (an_count13 K') hz (lr_ia hR) rfl rfl rfl rfl rfl rfl (Nat.le_of_ble_eq_true rfl) (Nat.le_of_ble_eq_true rfl) (fun z hz => ?_)
  refine ar_iload (pc := 152) dL_isDay_152 rfl ?_
  refine ar_iload (pc := 154) dL_isDay_154 rfl ?_
  refine ar_iadd (pc := 156) dL_isDay_156 ?_
  refine ar_icmp_ne (pc := 157) (tgt := 179) dL_isDay_157 (by decide) (fun c157 => absurd (show vRa (dyV v n) = vRa v + (if rnV (puV v n) = 0 then 0 else 1) by rw [← ra_d, Int32.add_comm, Int32.sub_add_cancel]) c157) (fun c157 => ?_)
  refine ar_aload_n (i := 0) (pc := 160) dL_isDay_160 rfl rfl ?_
  refine ar_bipush (pc := 161) dL_isDay_161 q_bipush_14 ?_
  refine ar_cl (pc := 163) dL_isDay_163 cal_X6_count kL_14 rfl rfl (an_count14 K') hz (lr_ia hR) rfl rfl rfl rfl rfl rfl (Nat.le_of_ble_eq_true rfl) (Nat.le_of_ble_eq_true rfl) (fun z hz => ?_)
  refine ar_iload (pc := 166) dL_isDay_166 rfl ?_
  refine ar_iload_n (i := 3) (pc := 168) dL_isDay_168 rfl rfl ?_
  refine ar_iadd (pc := 169) dL_isDay_169 ?_
  refine ar_icmp_ne (pc := 170) (tgt := 179) dL_isDay_170 (by decide) (fun c170 => absurd (dy_Ta v n) c170) (fun c170 => ?_)
  refine ar_iload (pc := 173) dL_isDay_173 rfl ?_
  refine ar_iload_n (i := 3) (pc := 175) dL_isDay_175 rfl rfl ?_
  refine ar_icmp_ge (pc := 176) (tgt := 181) dL_isDay_176 (by decide) (fun c176 => ?_) (fun c176 => absurd (two_2 K K' (ok_play K' (by rw [(dy_1 v n).2.2.2.1]; exact hd1))) c176)
  refine ar_iconst (pc := 181) dL_isDay_181 q_iconst_0 ?_
  refine ar_istore (pc := 182) dL_isDay_182 (Nat.le_of_ble_eq_true rfl) rfl ?_
  refine ar_iconst (pc := 184) dL_isDay_184 q_iconst_0 ?_
  refine ar_istore (pc := 185) dL_isDay_185 (Nat.le_of_ble_eq_true rfl) rfl ?_
  refine ar_iconst (pc := 187) dL_isDay_187 q_iconst_0 ?_
  refine ar_istore (pc := 188) dL_isDay_188 (Nat.le_of_ble_eq_true rfl) rfl ?_
  refine ar_iconst (pc := 190) dL_isDay_190 q_iconst_0 ?_
  refine ar_istore (pc := 191) dL_isDay_191 (Nat.le_of_ble_eq_true rfl) rfl ?_
  refine ar_hp rfl ?_
  refine ar_fg ?_ (ar_k0 (lL_day_193 K K' hR hg (lL_day_438 K K' hR) n 0 (by omega) (by omega) z hz) rfl rfl)
  exact ⟨rfl, rfl, rfl, rfl, rfl, rfl, rfl, rfl, rfl, congrArg (fun x => some (Value.int x)) (nw_0 v n), rfl, rfl, rfl, rfl, trivial⟩
set_option maxHeartbeats 4000000 in
set_option maxRecDepth 100000 in
theorem lL_day_87 {gg ff : Nat → Int32} {n : Nat} {v : SV} (K : ok_D v n) (K' : ok_D (dyV v n) n) {h0 : am_H} {z0 : PV} {R : am_H} (hR : lr_H R) {d : Nat} (M : mo_D v n d) (z : PV) (g : Nat → Int32) (hz : lz_D 6 v z0 z) (hg : ∀ i, i < n → g i = vT v i) : am_RW mL_isDay h0 (dn_P ff gg (dyV v n) z0 R) 0 0 87 [some (.ref 2), some (.ref 98), some (.int (nI n)), some (.int (dyC v n)), some (.int (if rnV (puV v n) = 0 then 0 else 1)), some (.int (dyC v n + dyC (dyV v n) n)), some (.int (vDa v)), some (.int (vRa v)), some (.int (vTa v)), none, none, none, none, none, none, none, none, none, none, none, none] [] (ppH false ff false gg z ++ (some (am_ia 8 g) :: R)) := by
  refine ar_iconst (pc := 87) dL_isDay_87 q_iconst_0 ?_
  refine ar_istore (pc := 88) dL_isDay_88 (Nat.le_of_ble_eq_true rfl) rfl ?_
  refine ar_iconst (pc := 90) dL_isDay_90 q_iconst_0 ?_
  refine ar_istore (pc := 91) dL_isDay_91 (Nat.le_of_ble_eq_true rfl) rfl ?_
  refine ar_fg ?_ (lL_day_93 K hR (fun z hz => lL_day_125 K K' hR M hg z hz) n 0 (by omega) (by omega) z hz)
  exact ⟨rfl, rfl, rfl, rfl, rfl, rfl, rfl, rfl, rfl, rfl, rfl, trivial⟩
set_option maxHeartbeats 4000000 in
set_option maxRecDepth 100000 in
theorem sL_day {gg ff : Nat → Int32} {n d : Nat} {v : SV} (K : ok_D v n) (M : mo_D v n d) {z : PV} {R : am_H} {g : Nat → Int32} (hz0 : la_D 6 v z) (hR : lr_H R) : am_Sp mL_isDay [.ref 2, .ref 98] (ppH false ff false gg z ++ (some (am_ia 8 g) :: R)) (dn_P ff gg (dyV v n) z R) := by
  refine am_intro (by decide) (Nat.le_of_ble_eq_true rfl) ?_
  have hz := lz_0 hz0
  have K' : ok_D (dyV v n) n := ok_play K (by have := da_80 M; omega)
  refine ar_aload_n (i := 0) (pc := 0) dL_isDay_0 rfl rfl ?_
  refine ar_bipush (pc := 1) dL_isDay_1 q_bipush_7 ?_
  refine ar_cl (pc := 3) dL_isDay_3 cal_X6_count kL_14 rfl rfl (an_count7 K) hz (lr_ia hR) rfl rfl rfl rfl rfl rfl (Nat.le_of_ble_eq_true rfl) (Nat.le_of_ble_eq_true rfl) (fun z hz => ?_)
  refine ar_istore_n (i := 2) (pc := 6) dL_isDay_6 rfl (Nat.le_of_ble_eq_true rfl) rfl ?_
  refine ar_aload_n (i := 0) (pc := 7) dL_isDay_7 rfl rfl ?_
  refine ar_iconst (pc := 8) dL_isDay_8 q_iconst_1 ?_
  refine ar_iconst (pc := 9) dL_isDay_9 q_iconst_0 ?_
  refine ar_cl (pc := 10) dL_isDay_10 cal_X6_ifPlayed kL_31 rfl rfl (an_ifp10 K) hz (lr_ia hR) rfl rfl rfl rfl rfl rfl (Nat.le_of_ble_eq_true rfl) (Nat.le_of_ble_eq_true rfl) (fun z hz => ?_)
  refine ar_istore_n (i := 3) (pc := 13) dL_isDay_13 rfl (Nat.le_of_ble_eq_true rfl) rfl ?_
  refine ar_aload_n (i := 0) (pc := 14) dL_isDay_14 rfl rfl ?_
  refine ar_iconst (pc := 15) dL_isDay_15 q_iconst_1 ?_
  refine ar_iconst (pc := 16) dL_isDay_16 q_iconst_1 ?_
  refine ar_cl (pc := 17) dL_isDay_17 cal_X6_ifPlayed kL_31 rfl rfl (an_ifp11 K) hz (lr_ia hR) rfl rfl rfl rfl rfl rfl (Nat.le_of_ble_eq_true rfl) (Nat.le_of_ble_eq_true rfl) (fun z hz => ?_)
  refine ar_istore (pc := 20) dL_isDay_20 (Nat.le_of_ble_eq_true rfl) rfl ?_
  refine ar_aload_n (i := 0) (pc := 22) dL_isDay_22 rfl rfl ?_
  refine ar_iconst (pc := 23) dL_isDay_23 q_iconst_2 ?_
  refine ar_iconst (pc := 24) dL_isDay_24 q_iconst_0 ?_
  refine ar_cl (pc := 25) dL_isDay_25 cal_X6_ifPlayed kL_31 rfl rfl (an_ifp20 K) hz (lr_ia hR) rfl rfl rfl rfl rfl rfl (Nat.le_of_ble_eq_true rfl) (Nat.le_of_ble_eq_true rfl) (fun z hz => ?_)
  refine ar_istore (pc := 28) dL_isDay_28 (Nat.le_of_ble_eq_true rfl) rfl ?_
  refine ar_aload_n (i := 0) (pc := 30) dL_isDay_30 rfl rfl ?_
  refine ar_bipush (pc := 31) dL_isDay_31 q_bipush_12 ?_
  refine ar_cl (pc := 33) dL_isDay_33 cal_X6_count kL_14 rfl rfl (an_count12 K) hz (lr_ia hR) rfl rfl rfl rfl rfl rfl (Nat.le_of_ble_eq_true rfl) (Nat.le_of_ble_eq_true rfl) (fun z hz => ?_)
  refine ar_istore (pc := 36) dL_isDay_36 (Nat.le_of_ble_eq_true rfl) rfl ?_
  refine ar_aload_n (i := 0) (pc := 38) dL_isDay_38 rfl rfl ?_
  refine ar_bipush (pc := 39) dL_isDay_39 q_bipush_13 ?_
  refine ar_cl (pc := 41) dL_isDay_41 cal_X6_count kL_14 rfl rfl (an_count13 K) hz (lr_ia hR) rfl rfl rfl rfl rfl rfl (Nat.le_of_ble_eq_true rfl) (Nat.le_of_ble_eq_true rfl) (fun z hz => ?_)
  refine ar_istore (pc := 44) dL_isDay_44 (Nat.le_of_ble_eq_true rfl) rfl ?_
  refine ar_aload_n (i := 0) (pc := 46) dL_isDay_46 rfl rfl ?_
  refine ar_bipush (pc := 47) dL_isDay_47 q_bipush_14 ?_
  refine ar_cl (pc := 49) dL_isDay_49 cal_X6_count kL_14 rfl rfl (an_count14 K) hz (lr_ia hR) rfl rfl rfl rfl rfl rfl (Nat.le_of_ble_eq_true rfl) (Nat.le_of_ble_eq_true rfl) (fun z hz => ?_)
  refine ar_istore (pc := 52) dL_isDay_52 (Nat.le_of_ble_eq_true rfl) rfl ?_
  refine ar_iconst (pc := 54) dL_isDay_54 q_iconst_0 ?_
  refine ar_istore (pc := 55) dL_isDay_55 (Nat.le_of_ble_eq_true rfl) rfl ?_
  refine ar_fg ?_ (lL_day_57 K hR (fun z g hz hg => lL_day_87 K K' hR M z g hz hg) n 0 (by omega) (by omega) z g hz (fun i hi => absurd hi (Nat.not_lt_zero i)))
  exact ⟨rfl, rfl, rfl, rfl, rfl, rfl, rfl, rfl, rfl, rfl, trivial⟩
