/-! one call: the class and the reference answer the same -/
def pr_S (M6 M7 : am_M) (as : List Value) (ff gg : Nat → Int32) (z : PV) (q : RV) : Prop := ∃ (x : Int32) (z1 : PV), am_Sp M6 (.ref 2 :: as) (ppH false ff false gg z) (zz_P x false ff false gg z1) ∧ am_Sp M7 (.ref 2 :: as) (md_H q) (qq_P x z1) ∧ pmZ z z1
theorem eq_Zr (z : PV) : eq_Z z z := ⟨rfl, rfl, rfl, rfl, rfl⟩
theorem cv_rp {M : am_M} {as : List Value} {h : am_H} {x : Int32} {w0 w1 : Bool} {ff gg : Nat → Int32} {z1 : PV} (sp : am_Sp M as h (am_rp x (ppH w0 ff w1 gg z1))) : am_Sp M as h (zz_P x w0 ff w1 gg z1) := am_wk sp fun r h1 hp => ⟨hp.1, z1, hp.2, eq_Zr z1⟩
theorem cv_rpE {M : am_M} {as : List Value} {h : am_H} {x : Int32} {w0 w1 : Bool} {ff gg : Nat → Int32} {z1 z2 : PV} (e : eq_Z z2 z1) (sp : am_Sp M as h (am_rp x (ppH w0 ff w1 gg z2))) : am_Sp M as h (zz_P x w0 ff w1 gg z1) := am_wk sp fun r h1 hp => ⟨hp.1, z2, hp.2, e⟩
theorem eq_ZW (z : PV) (x : VWt) : eq_Z (sW z x) z := ⟨rfl, rfl, rfl, rfl, rfl⟩
theorem cv_rpW {M : am_M} {as : List Value} {h : am_H} {x : Int32} {w0 w1 : Bool} {ff gg : Nat → Int32} {z1 : PV} (sp : am_Sp M as h (rpW x w0 ff w1 gg z1)) : am_Sp M as h (zz_P x w0 ff w1 gg z1) := am_wk sp fun r h1 hp => ⟨hp.1, hp.2.elim fun x' e => ⟨_, e, eq_ZW z1 x'⟩⟩
theorem cv_rpU {M : am_M} {as : List Value} {h : am_H} {x : Int32} {w0 w1 : Bool} {ff gg : Nat → Int32} {z1 : PV} (sp : am_Sp M as h (rpU x w0 ff w1 gg z1)) : am_Sp M as h (zz_P x w0 ff w1 gg z1) := am_wk sp fun r h1 hp => ⟨hp.1, hp.2.elim fun u hx => hx.elim fun x' e => ⟨_, e, ⟨rfl, rfl, rfl, rfl, rfl⟩⟩⟩
theorem if_IP {p : Prop} {r : Option Value} (h : (p ∧ r = some (.int 1)) ∨ (¬ p ∧ r = some (.int 0))) : r = some (.int (if_I p)) := by
  rcases h with ⟨a, b⟩ | ⟨a, b⟩
  · rw [if_1 a]; exact b
  · rw [if_0 a]; exact b
theorem cv_bp {M : am_M} {as : List Value} {h : am_H} {p : Prop} {w0 w1 : Bool} {ff gg : Nat → Int32} {z1 : PV} (sp : am_Sp M as h (am_bp p (ppH w0 ff w1 gg z1))) : am_Sp M as h (zz_P (if_I p) w0 ff w1 gg z1) := am_wk sp fun r h1 hp => ⟨if_IP hp.1, z1, hp.2, eq_Zr z1⟩
theorem cv_bpW {M : am_M} {as : List Value} {h : am_H} {p : Prop} {w0 w1 : Bool} {ff gg : Nat → Int32} {z1 : PV} (sp : am_Sp M as h (bpW p w0 ff w1 gg z1)) : am_Sp M as h (zz_P (if_I p) w0 ff w1 gg z1) := am_wk sp fun r h1 hp => ⟨if_IP hp.1, hp.2.elim fun x' e => ⟨_, e, eq_ZW z1 x'⟩⟩
theorem pmZ_rc {z z1 : PV} (h1 : (pY z1).1 = (rcY (pY z) (pN z)).1) (h2 : pL z1 = pL z) : pmZ z z1 := by
  unfold pmZ
  rw [h1, h2]
  refine ⟨fun i _ h => ?_, fun h => h, fun h => h⟩
  have h' : (if i = (pY z).2.1 then some (pN z) else (pY z).1 i) = none := h
  split at h'
  · cases h'
  · exact h'
theorem pmZ_y {z z1 : PV} (h1 : (pY z1).1 = (pY z).1) (h2 : pL z1 = pL z) : pmZ z z1 := by
  unfold pmZ
  rw [h1, h2]
  exact ⟨fun _ _ h => h, fun h => h, fun h => h⟩
theorem pmZ_sn (z : PV) (x : VWt) (v : SV) : pmZ z (sN (sW (rcZ z) x) v) := pmZ_rc rfl rfl
theorem na_of {a : Int32} {N : Nat} (h0 : 0 ≤ a.toInt) (h1 : a.toInt < N) : ∃ k, k < N ∧ a = nI k := ⟨ix a, by unfold ix; omega, ix_eq h0⟩
def g0_D (gg : Nat → Int32) : Prop := ∀ k, k < 6 → gg k = mo_I k
theorem pr_set {gg : Nat → Int32} (ff : Nat → Int32) {z : PV} {q : RV} (M : mr_R z q) (G : g0_D gg) (s a : Int32) : pr_S mX6_set mX7_set [.int s, .int a] ff gg z q := by
  obtain ⟨n, K, R⟩ := M.1
  by_cases ho : s.toInt < 0 ∨ 5 < s.toInt
  · exact ⟨_, _, cv_rp (sX6_set_o false ff false gg z  s a ho ), sX7_set_o q z M n K R s a ho, pmZ_rf rfl rfl⟩
  obtain ⟨k, hk, rfl⟩ := na_of (a := s) (N := 6) (by omega) (by omega)
  by_cases hv : a < 0 ∨ mo_I k < a
  · exact ⟨_, _, cv_rp (sX6_set_v false ff false gg z  hk a (by rw [G k hk]; exact hv) ), sX7_set_v q z M n K R hk a hv, pmZ_rf rfl rfl⟩
  · have h0 : 0 ≤ a := by
      rw [Int32.le_iff_toInt_le]; rw [Int32.lt_iff_toInt_lt, Int32.lt_iff_toInt_lt] at hv; omega
    have h1 : a ≤ mo_I k := by
      rw [Int32.le_iff_toInt_le]; rw [Int32.lt_iff_toInt_lt, Int32.lt_iff_toInt_lt] at hv; omega
    exact ⟨_, _, cv_rp (sX6_set_s false ff false gg z hk a h0 (by rw [G k hk]; exact h1) M.2.1.1 M.2.1.2.1), sX7_set_s q z M n K R hk a h0 h1, pmZ_rc rfl rfl⟩
theorem pr_come {gg : Nat → Int32} (ff : Nat → Int32) {z : PV} {q : RV} (M : mr_R z q) (G : g0_D gg) (a : Int32) : pr_S mX6_come mX7_come [.int a] ff gg z q := by
  obtain ⟨n, K, R⟩ := M.1
  rcases (Classical.em (1 ≤ a.toInt ∧ a.toInt ≤ 9)).symm with ha | ha
  · exact ⟨_, _, cv_rp (sX6_come_o false ff false gg z  a ha ), sX7_come_o q z M n K R a ha, pmZ_rf rfl rfl⟩
  by_cases h8 : n < 8
  · exact ⟨_, _, cv_rp (sX6_come_s false ff false gg z a ha n K.1 h8 M.2.1.1 M.2.1.2.1), sX7_come_s q z M n K R a ha h8, pmZ_rc rfl rfl⟩
  · have e8 : n = 8 := by have := K.2.1.1; omega
    exact ⟨_, _, cv_rp (sX6_come_f false ff false gg z a ha (by rw [← e8]; exact K.1)), sX7_come_f q z M n K R a ha e8, pmZ_rf rfl rfl⟩
theorem pr_go {gg : Nat → Int32} (ff : Nat → Int32) {z : PV} {q : RV} (M : mr_R z q) (G : g0_D gg) (b : Int32) : pr_S mX6_go mX7_go [.int b] ff gg z q := by
  obtain ⟨n, K, R⟩ := M.1
  rcases (Classical.em (bkP n b)).symm with hb | hb
  · exact ⟨_, _, cv_rp (sX6_go_n false ff false gg z n K.1 K.2.1.1 b hb ), sX7_go_n q z M n K R b hb, pmZ_rf rfl rfl⟩
  obtain ⟨j, hj, rfl⟩ := na_of hb.1 hb.2
  exact ⟨_, _, cv_rp (sX6_go_s false ff false gg z n K.1 K.2.1.1 hj M.2.1.1 M.2.1.2.1), sX7_go_s q z M n K R hj, pmZ_rc rfl rfl⟩
theorem pr_height {gg : Nat → Int32} (ff : Nat → Int32) {z : PV} {q : RV} (M : mr_R z q) (G : g0_D gg) (b a : Int32) : pr_S mX6_height mX7_height [.int b, .int a] ff gg z q := by
  obtain ⟨n, K, R⟩ := M.1
  rcases (Classical.em (bkP n b)).symm with hb | hb
  · exact ⟨_, _, cv_rp (sX6_height_n false ff false gg z n K.1 K.2.1.1 b a hb ), sX7_height_n q z M n K R b a hb, pmZ_rf rfl rfl⟩
  obtain ⟨j, hj, rfl⟩ := na_of hb.1 hb.2
  by_cases ha : 1 ≤ a.toInt ∧ a.toInt ≤ 9
  · exact ⟨_, _, cv_rp (sX6_height_s false ff false gg z n K.1 K.2.1.1 hj a ha M.2.1.1 M.2.1.2.1), sX7_height_s q z M n K R hj a ha, pmZ_rc rfl rfl⟩
  · exact ⟨_, _, cv_rp (sX6_height_o false ff false gg z n K.1 K.2.1.1 hj a ha ), sX7_height_o q z M n K R hj a ha, pmZ_rf rfl rfl⟩
theorem pr_stand {gg : Nat → Int32} (ff : Nat → Int32) {z : PV} {q : RV} (M : mr_R z q) (G : g0_D gg) (b y : Int32) : pr_S mX6_stand mX7_stand [.int b, .int y] ff gg z q := by
  obtain ⟨n, K, R⟩ := M.1
  by_cases hb : ¬ bkP n b ∨ (¬ y = -6 ∧ ¬ inP y)
  · exact ⟨_, _, cv_rp (sX6_stand_n false ff false gg z n K.1 K.2.1.1 b y hb ), sX7_stand_n q z M n K R b y hb, pmZ_rf rfl rfl⟩
  have hk : bkP n b := Classical.byContradiction fun h => hb (Or.inl h)
  have hy : y = -6 ∨ inP y := Classical.byContradiction fun h => hb (Or.inr ⟨fun e => h (Or.inl e), fun e => h (Or.inr e)⟩)
  obtain ⟨j, hj, rfl⟩ := na_of hk.1 hk.2
  by_cases ht : tkP (pN z) n y j
  · exact ⟨_, _, cv_rp (sX6_stand_t false ff false gg z n K.1 K.2.1.1 hj y hy ht ), sX7_stand_t q z M n K R hj y hy ht, pmZ_rf rfl rfl⟩
  · exact ⟨_, _, cv_rp (sX6_stand_s false ff false gg z n K.1 K.2.1.1 hj y hy ht M.2.1.1 M.2.1.2.1), sX7_stand_s q z M n K R hj y hy ht, pmZ_rc rfl rfl⟩
theorem pr_shuffle {gg : Nat → Int32} (ff : Nat → Int32) {z : PV} {q : RV} (M : mr_R z q) (G : g0_D gg) (a : Int32) : pr_S mX6_shuffle mX7_shuffle [.int a] ff gg z q := by
  obtain ⟨n, K, R⟩ := M.1
  by_cases ha : a < 0
  · exact ⟨_, _, cv_rp (sX6_shuffle_o false ff false gg z  a ha ), sX7_shuffle_o q z M n K R a ha, pmZ_rf rfl rfl⟩
  · have h0 : 0 ≤ a := Int32.not_lt.mp ha
    exact ⟨_, _, cv_rp (sX6_shuffle_s false ff false gg z  a h0 M.2.1.1 M.2.1.2.1), sX7_shuffle_s q z M n K R a h0, pmZ_rc rfl rfl⟩
theorem pr_play {gg : Nat → Int32} (ff : Nat → Int32) {z : PV} {q : RV} (M : mr_R z q) (G : g0_D gg) : pr_S mX6_play mX7_play [] ff gg z q := by
  obtain ⟨n, K, R⟩ := M.1
  by_cases hd : 9999 ≤ (vDa (pN z)).toInt
  · exact ⟨_, _, cv_rp (sX6_play_f false ff false gg z  hd ), sX7_play_f q z M n K R hd, pmZ_rf rfl rfl⟩
  · have hd' : (vDa (pN z)).toInt < 9999 := by omega
    exact ⟨dyC (pN z) n, sN (sW (rcZ z) (vwOf (ptV (pN z) n) (pqV (pN z) n))) (dyV (pN z) n), cv_rp (sX6_play_s false ff false gg z n K.1 K.2.1.1 hd' K.2.2.2.2.2.2 M.2.1.1 M.2.1.2.1), sX7_play_s q z M n K R hd' (vwOf (ptV (pN z) n) (pqV (pN z) n)), pmZ_sn _ _ _⟩
theorem pr_undo {gg : Nat → Int32} (ff : Nat → Int32) {z : PV} {q : RV} (M : mr_R z q) (G : g0_D gg) : pr_S mX6_undo mX7_undo [] ff gg z q := by
  obtain ⟨n, K, R⟩ := M.1
  by_cases hk : (pY z).2.2 = 0
  · exact ⟨_, _, cv_rp (sX6_undo_z false ff false gg z  hk ), sX7_undo_z q z M n K R hk, pmZ_rf rfl rfl⟩
  · have h1 : 1 ≤ (pY z).2.2 := by omega
    obtain ⟨u, hu⟩ := undo_u M h1
    exact ⟨_, _, cv_rp (sX6_undo_s false ff false gg z h1 u hu M.2.1.1 M.2.1.2.1), sX7_undo_s q z M n K R h1 u hu, pmZ_y rfl rfl⟩
theorem pr_lot {gg : Nat → Int32} (ff : Nat → Int32) {z : PV} {q : RV} (M : mr_R z q) (G : g0_D gg) (p : Int32) : pr_S mX6_lot mX7_lot [.int p] ff gg z q := by
  obtain ⟨n, K, R⟩ := M.1
  exact ⟨_, _, cv_rp (sX6_lot false ff false gg z  p ), sX7_lot q z M n K R p, pmZ_rf rfl rfl⟩
theorem pr_ifPlayed {gg : Nat → Int32} (ff : Nat → Int32) {z : PV} {q : RV} (M : mr_R z q) (G : g0_D gg) (a w : Int32) : pr_S mX6_ifPlayed mX7_ifPlayed [.int a, .int w] ff gg z q := by
  obtain ⟨n, K, R⟩ := M.1
  by_cases ho : a < 1 ∨ 100 < a ∨ (¬ w = 0 ∧ ¬ w = 1)
  · exact ⟨_, _, cv_rp (sX6_ifPlayed_o false ff false gg z  a w ho ), sX7_ifPlayed_o q z M n K R a w ho, pmZ_rf rfl rfl⟩
  have hw : w = 0 ∨ w = 1 := Classical.byContradiction fun h => ho (Or.inr (Or.inr ⟨fun e => h (Or.inl e), fun e => h (Or.inr e)⟩))
  have h1 : ¬ a < 1 := fun h => ho (Or.inl h)
  have h2 : ¬ 100 < a := fun h => ho (Or.inr (Or.inl h))
  rw [Int32.lt_iff_toInt_lt, ti_1] at h1
  rw [Int32.lt_iff_toInt_lt, ti_100] at h2
  obtain ⟨m, hm, rfl⟩ := na_of (a := a) (N := 101) (by omega) (by omega)
  rw [nI_toInt (by omega)] at h1
  exact ⟨_, _, cv_rpU (sX6_ifPlayed_s false ff false gg z n K.1 K.2.1.1 K.2.2.2.2.2.2 m (by omega) (by omega) w hw), sX7_ifPlayed_s q z M n K R m (by omega) (by omega) w hw, pmZ_rf rfl rfl⟩
theorem pr_bestHeight {gg : Nat → Int32} (ff : Nat → Int32) {z : PV} {q : RV} (M : mr_R z q) (G : g0_D gg) (b : Int32) : pr_S mX6_bestHeight mX7_bestHeight [.int b] ff gg z q := by
  obtain ⟨n, K, R⟩ := M.1
  rcases (Classical.em (bkP n b)).symm with hb | hb
  · exact ⟨_, _, cv_rp (sX6_bestHeight_n false ff false gg z n K.1 K.2.1.1 b hb ), sX7_bestHeight_n q z M n K R b hb, pmZ_rf rfl rfl⟩
  obtain ⟨j, hj, rfl⟩ := na_of hb.1 hb.2
  by_cases hs : stP (pN z) n j
  · exact ⟨_, _, cv_rpW (sX6_bestHeight_s false ff false gg z n K.1 K.2.1.1 hj hs ), sX7_bestHeight_s q z M n K R hj hs, pmZ_rf rfl rfl⟩
  · exact ⟨_, _, cv_rp (sX6_bestHeight_z false ff false gg z n K.1 K.2.1.1 hj hs ), sX7_bestHeight_z q z M n K R hj hs, pmZ_rf rfl rfl⟩
theorem pr_bestPitch {gg : Nat → Int32} (ff : Nat → Int32) {z : PV} {q : RV} (M : mr_R z q) (G : g0_D gg) (b : Int32) : pr_S mX6_bestPitch mX7_bestPitch [.int b] ff gg z q := by
  obtain ⟨n, K, R⟩ := M.1
  by_cases hb : bkP n b
  · obtain ⟨j, hj, rfl⟩ := na_of hb.1 hb.2
    refine ⟨_, z, am_wk (sX6_bestPitch false ff false gg z n K.1 K.2.1.1 (nI j)) (fun r h1 hp => ?_), sX7_bestPitch_s q z M n K R hj, pmZ_rf rfl rfl⟩
    rcases hp with ⟨_, h⟩ | ⟨h, _⟩
    · exact ⟨h.1, h.2.elim fun x' e => ⟨_, e, eq_ZW z x'⟩⟩
    · exact absurd hb h
  · refine ⟨_, z, am_wk (sX6_bestPitch false ff false gg z n K.1 K.2.1.1 b) (fun r h1 hp => ?_), sX7_bestPitch_n q z M n K R b hb, pmZ_rf rfl rfl⟩
    rcases hp with ⟨h, _⟩ | ⟨_, h⟩
    · exact absurd h hb
    · exact ⟨h.1, z, h.2, eq_Zr z⟩
theorem pr_ifStood {gg : Nat → Int32} (ff : Nat → Int32) {z : PV} {q : RV} (M : mr_R z q) (G : g0_D gg) (b p : Int32) : pr_S mX6_ifStood mX7_ifStood [.int b, .int p] ff gg z q := by
  obtain ⟨n, K, R⟩ := M.1
  by_cases hb : bkP n b ∧ inP p
  · obtain ⟨hb1, hp1⟩ := hb
    obtain ⟨j, hj, rfl⟩ := na_of hb1.1 hb1.2
    obtain ⟨i, hi, rfl⟩ := na_of (N := 12) hp1.1 hp1.2
    have h8 := K.2.1.1
    have ej : ix (nI j) = j := ix_nI (by omega)
    by_cases ht : tkP (pN z) n (nI i) j
    · refine ⟨_, z, am_wk (sX6_ifStood false ff false gg z n K.1 K.2.1.1 (nI j) (nI i)) (fun r h1 hp => ?_), sX7_ifStood_t q z M n K R hj hi ht, pmZ_rf rfl rfl⟩
      rw [ej] at hp
      rcases hp with ⟨h, _⟩ | ⟨_, _, h⟩ | ⟨_, h, _⟩
      · exact absurd ⟨hb1, hp1⟩ h
      · exact ⟨h.1, z, h.2, eq_Zr z⟩
      · exact absurd ht h
    · refine ⟨_, z, am_wk (sX6_ifStood false ff false gg z n K.1 K.2.1.1 (nI j) (nI i)) (fun r h1 hp => ?_), sX7_ifStood_s q z M n K R hj hi ht, pmZ_rf rfl rfl⟩
      rw [ej] at hp
      rcases hp with ⟨h, _⟩ | ⟨_, h, _⟩ | ⟨_, _, h⟩
      · exact absurd ⟨hb1, hp1⟩ h
      · exact absurd h ht
      · exact ⟨h.1, h.2.elim fun x' e => ⟨_, e, eq_ZW z x'⟩⟩
  · refine ⟨_, z, am_wk (sX6_ifStood false ff false gg z n K.1 K.2.1.1 b p) (fun r h1 hp => ?_), sX7_ifStood_n q z M n K R b p hb, pmZ_rf rfl rfl⟩
    rcases hp with ⟨_, h⟩ | ⟨h, _⟩ | ⟨h, _⟩
    · exact ⟨h.1, z, h.2, eq_Zr z⟩
    · exact absurd h hb
    · exact absurd h hb
theorem pr_booth {gg : Nat → Int32} (ff : Nat → Int32) {z : PV} {q : RV} (M : mr_R z q) (G : g0_D gg) (b w : Int32) : pr_S mX6_booth mX7_booth [.int b, .int w] ff gg z q := by
  obtain ⟨n, K, R⟩ := M.1
  rcases (Classical.em (bkP n b)).symm with hb | hb
  · exact ⟨_, _, cv_rp (sX6_booth_n false ff false gg z n K.1 K.2.1.1 b w hb ), sX7_booth_n q z M n K R b w hb, pmZ_rf rfl rfl⟩
  obtain ⟨j, hj, rfl⟩ := na_of hb.1 hb.2
  by_cases hw : w.toInt < 0 ∨ 7 < w.toInt
  · exact ⟨_, _, cv_rp (sX6_booth_o false ff false gg z n K.1 K.2.1.1 hj w hw ), sX7_booth_o q z M n K R hj w hw, pmZ_rf rfl rfl⟩
  obtain ⟨i, hi, rfl⟩ := na_of (a := w) (N := 8) (by omega) (by omega)
  rcases (show i = 0 ∨ i = 1 ∨ i = 2 ∨ i = 3 ∨ i = 4 ∨ i = 5 ∨ i = 6 ∨ i = 7 by omega) with rfl | rfl | rfl | rfl | rfl | rfl | rfl | rfl
  · exact ⟨_, _, cv_rp (sX6_booth_0 false ff false gg z n K.1 K.2.1.1 hj ), sX7_booth_0 q z M n K R hj, pmZ_rf rfl rfl⟩
  · exact ⟨_, _, cv_rp (sX6_booth_1 false ff false gg z n K.1 K.2.1.1 hj ), sX7_booth_1 q z M n K R hj, pmZ_rf rfl rfl⟩
  · exact ⟨_, _, cv_rpW (sX6_booth_2 false ff false gg z n K.1 K.2.1.1 hj ), sX7_booth_2 q z M n K R hj, pmZ_rf rfl rfl⟩
  · exact ⟨_, _, cv_rpW (sX6_booth_3 false ff false gg z n K.1 K.2.1.1 hj ), sX7_booth_3 q z M n K R hj, pmZ_rf rfl rfl⟩
  · exact ⟨_, _, cv_rpW (sX6_booth_4 false ff false gg z n K.1 K.2.1.1 hj ), sX7_booth_4 q z M n K R hj, pmZ_rf rfl rfl⟩
  · exact ⟨_, _, cv_rp (sX6_booth_5 false ff false gg z n K.1 K.2.1.1 hj ), sX7_booth_5 q z M n K R hj, pmZ_rf rfl rfl⟩
  · exact ⟨_, _, cv_rp (sX6_booth_6 false ff false gg z n K.1 K.2.1.1 hj ), sX7_booth_6 q z M n K R hj, pmZ_rf rfl rfl⟩
  · exact ⟨_, _, cv_rp (sX6_booth_7 false ff false gg z n K.1 K.2.1.1 hj ), sX7_booth_7 q z M n K R hj, pmZ_rf rfl rfl⟩
theorem pr_pitch {gg : Nat → Int32} (ff : Nat → Int32) {z : PV} {q : RV} (M : mr_R z q) (G : g0_D gg) (b w : Int32) : pr_S mX6_pitch mX7_pitch [.int b, .int w] ff gg z q := by
  obtain ⟨n, K, R⟩ := M.1
  rcases (Classical.em (inP b)).symm with hb | hb
  · exact ⟨_, _, cv_rp (sX6_pitch_n false ff false gg z  b w hb ), sX7_pitch_n q z M n K R b w hb, pmZ_rf rfl rfl⟩
  obtain ⟨p, hp, rfl⟩ := na_of (N := 12) hb.1 hb.2
  by_cases hw : w.toInt < 0 ∨ 2 < w.toInt
  · exact ⟨_, _, cv_rp (sX6_pitch_o false ff false gg z  hp w hw ), sX7_pitch_o q z M n K R hp w hw, pmZ_rf rfl rfl⟩
  obtain ⟨i, hi, rfl⟩ := na_of (a := w) (N := 3) (by omega) (by omega)
  rcases (show i = 0 ∨ i = 1 ∨ i = 2 by omega) with rfl | rfl | rfl
  · exact ⟨_, _, cv_bp (sX6_pitch_0 false ff false gg z n K.1 K.2.1.1 hp ), sX7_pitch_0 q z M n K R hp, pmZ_rf rfl rfl⟩
  · exact ⟨_, _, cv_rp (sX6_pitch_1 false ff false gg z n K.1 K.2.1.1 hp ), sX7_pitch_1 q z M n K R hp, pmZ_rf rfl rfl⟩
  · exact ⟨_, _, cv_bpW (sX6_pitch_2 false ff false gg z n K.1 K.2.1.1 hp ), sX7_pitch_2 q z M n K R hp, pmZ_rf rfl rfl⟩
theorem pr_count {gg : Nat → Int32} (ff : Nat → Int32) {z : PV} {q : RV} (M : mr_R z q) (G : g0_D gg) (w : Int32) : pr_S mX6_count mX7_count [.int w] ff gg z q := by
  obtain ⟨n, K, R⟩ := M.1
  by_cases hw : w.toInt < 0 ∨ 16 < w.toInt
  · exact ⟨_, _, cv_rp (sX6_count_o false ff false gg z  w (by omega) (by omega) ), sX7_count_o q z M n K R w (by omega) (by omega), pmZ_rf rfl rfl⟩
  obtain ⟨k, hk, rfl⟩ := na_of (a := w) (N := 17) (by omega) (by omega)
  by_cases h6 : k < 6
  · exact ⟨_, _, cv_rp (sX6_count_s false ff false gg z  h6 ), sX7_count_s q z M n K R h6, pmZ_rf rfl rfl⟩
  rcases (show k = 6 ∨ k = 7 ∨ k = 8 ∨ k = 9 ∨ k = 10 ∨ k = 11 ∨ k = 12 ∨ k = 13 ∨ k = 14 ∨ k = 15 ∨ k = 16 by omega) with rfl | rfl | rfl | rfl | rfl | rfl | rfl | rfl | rfl | rfl | rfl
  · exact ⟨_, _, cv_rp (sX6_count_6 false ff false gg z n K.1 K.2.1.1  ), sX7_count_6 q z M n K R , pmZ_rf rfl rfl⟩
  · exact ⟨_, _, cv_rp (sX6_count_7 false ff false gg z n K.1 K.2.1.1  ), sX7_count_7 q z M n K R , pmZ_rf rfl rfl⟩
  · exact ⟨_, _, cv_rp (sX6_count_8 false ff false gg z n K.1 K.2.1.1  ), sX7_count_8 q z M n K R , pmZ_rf rfl rfl⟩
  · exact ⟨_, _, cv_rp (sX6_count_9 false ff false gg z n K.1 K.2.1.1  ), sX7_count_9 q z M n K R , pmZ_rf rfl rfl⟩
  · exact ⟨_, _, cv_rpW (sX6_count_10 false ff false gg z n K.1 K.2.1.1  ), sX7_count_10 q z M n K R , pmZ_rf rfl rfl⟩
  · exact ⟨_, _, cv_rpW (sX6_count_11 false ff false gg z n K.1 K.2.1.1  ), sX7_count_11 q z M n K R , pmZ_rf rfl rfl⟩
  · exact ⟨_, _, cv_rp (sX6_count_12 false ff false gg z n K.1 K.2.1.1  ), sX7_count_12 q z M n K R , pmZ_rf rfl rfl⟩
  · exact ⟨_, _, cv_rp (sX6_count_13 false ff false gg z n K.1 K.2.1.1  ), sX7_count_13 q z M n K R , pmZ_rf rfl rfl⟩
  · exact ⟨_, _, cv_rp (sX6_count_14 false ff false gg z n K.1 K.2.1.1  ), sX7_count_14 q z M n K R , pmZ_rf rfl rfl⟩
  · exact ⟨_, _, cv_rp (sX6_count_15 false ff false gg z n K.1 K.2.1.1  ), sX7_count_15 q z M n K R , pmZ_rf rfl rfl⟩
  · exact ⟨_, _, cv_rp (sX6_count_16 false ff false gg z n K.1 K.2.1.1  ), sX7_count_16 q z M n K R , pmZ_rf rfl rfl⟩
theorem pr_seen {gg : Nat → Int32} (ff : Nat → Int32) {z : PV} {q : RV} (M : mr_R z q) (G : g0_D gg) (b s y : Int32) : pr_S mX6_seen mX7_seen [.int b, .int s, .int y] ff gg z q := by
  obtain ⟨n, K, R⟩ := M.1
  rcases (Classical.em (bkP n b)).symm with hb | hb
  · exact ⟨_, _, cv_rp (sX6_seen_n false ff false gg z n K.1 K.2.1.1 b s y hb ), sX7_seen_n q z M n K R b s y hb, pmZ_rf rfl rfl⟩
  obtain ⟨j, hj, rfl⟩ := na_of hb.1 hb.2
  by_cases ho : (¬ s = 0 ∧ ¬ s = 1) ∨ (¬ y = 0 ∧ ¬ y = 1)
  · exact ⟨_, _, cv_rp (sX6_seen_o false ff false gg z n K.1 K.2.1.1 hj s y ho ), sX7_seen_o q z M n K R hj s y ho, pmZ_rf rfl rfl⟩
  have h1 : s = 0 ∨ s = 1 := Classical.byContradiction fun h => ho (Or.inl ⟨fun e => h (Or.inl e), fun e => h (Or.inr e)⟩)
  have h2 : y = 0 ∨ y = 1 := Classical.byContradiction fun h => ho (Or.inr ⟨fun e => h (Or.inl e), fun e => h (Or.inr e)⟩)
  rcases (Classical.em (stP (pN z) n j)).symm with hs | hs
  · exact ⟨_, _, cv_rp (sX6_seen_z false ff false gg z n K.1 K.2.1.1 hj hs s y h1 h2 ), sX7_seen_z q z M n K R hj hs s y h1 h2, pmZ_rf rfl rfl⟩
  rcases h1 with rfl | rfl <;> rcases h2 with rfl | rfl
  · exact ⟨_, _, cv_bpW (sX6_seen_00 false ff false gg z n K.1 K.2.1.1 hj hs ), sX7_seen_00 q z M n K R hj hs, pmZ_rf rfl rfl⟩
  · exact ⟨_, _, cv_bp (sX6_seen_01 false ff false gg z n K.1 K.2.1.1 hj hs ), sX7_seen_01 q z M n K R hj hs, pmZ_rf rfl rfl⟩
  · exact ⟨_, _, cv_bpW (sX6_seen_10 false ff false gg z n K.1 K.2.1.1 hj hs ), sX7_seen_10 q z M n K R hj hs, pmZ_rf rfl rfl⟩
  · exact ⟨_, _, cv_bp (sX6_seen_11 false ff false gg z n K.1 K.2.1.1 hj hs ), sX7_seen_11 q z M n K R hj hs, pmZ_rf rfl rfl⟩
theorem pr_save {gg : Nat → Int32} (ff : Nat → Int32) {z : PV} {q : RV} (M : mr_R z q) (G : g0_D gg) (a : Int32) : pr_S mX6_save mX7_save [.int a] ff gg z q := by
  obtain ⟨n, K, R⟩ := M.1
  by_cases ho : a.toInt < 0 ∨ 1 < a.toInt
  · exact ⟨_, _, cv_rp (sX6_save_o false ff false gg z  a ho ), sX7_save_o q z M n K R a ho, pmZ_rf rfl rfl⟩
  obtain ⟨i, hi, rfl⟩ := na_of (a := a) (N := 2) (by omega) (by omega)
  rcases (show i = 0 ∨ i = 1 by omega) with rfl | rfl
  · cases hu : (pL z).1 with
    | none => exact ⟨_, _, cv_rp (sX6_save_0n false ff false gg z hu), sX7_save_0 q z M n K R, ⟨fun _ _ h => h, fun h => (by cases h), fun h => h⟩⟩
    | some u => exact ⟨_, _, cv_rp (sX6_save_0s false ff false gg z u hu), sX7_save_0 q z M n K R, ⟨fun _ _ h => h, fun h => (by cases h), fun h => h⟩⟩
  · cases hu : (pL z).2 with
    | none => exact ⟨_, _, cv_rp (sX6_save_1n false ff false gg z hu), sX7_save_1 q z M n K R, ⟨fun _ _ h => h, fun h => h, fun h => (by cases h)⟩⟩
    | some u => exact ⟨_, _, cv_rp (sX6_save_1s false ff false gg z u hu), sX7_save_1 q z M n K R, ⟨fun _ _ h => h, fun h => h, fun h => (by cases h)⟩⟩
theorem pr_restore {gg : Nat → Int32} (ff : Nat → Int32) {z : PV} {q : RV} (M : mr_R z q) (G : g0_D gg) (a : Int32) : pr_S mX6_restore mX7_restore [.int a] ff gg z q := by
  obtain ⟨n, K, R⟩ := M.1
  by_cases ho : a.toInt < 0 ∨ 1 < a.toInt
  · exact ⟨_, _, cv_rp (sX6_restore_o false ff false gg z  a ho ), sX7_restore_o q z M n K R a ho, pmZ_rf rfl rfl⟩
  obtain ⟨i, hi, rfl⟩ := na_of (a := a) (N := 2) (by omega) (by omega)
  rcases (show i = 0 ∨ i = 1 by omega) with rfl | rfl
  · cases hu : (pL z).1 with
    | none => exact ⟨_, _, cv_rp (sX6_restore_0n false ff false gg z hu), sX7_restore_0n q z M n K R hu, pmZ_rf rfl rfl⟩
    | some u => exact ⟨_, _, cv_rp (sX6_restore_0s false ff false gg z u hu M.2.1.1 M.2.1.2.1), sX7_restore_0s q z M n K R u hu, pmZ_rc rfl rfl⟩
  · cases hu : (pL z).2 with
    | none => exact ⟨_, _, cv_rp (sX6_restore_1n false ff false gg z hu), sX7_restore_1n q z M n K R hu, pmZ_rf rfl rfl⟩
    | some u => exact ⟨_, _, cv_rp (sX6_restore_1s false ff false gg z u hu M.2.1.1 M.2.1.2.1), sX7_restore_1s q z M n K R u hu, pmZ_rc rfl rfl⟩
theorem pr_wipe {gg : Nat → Int32} (ff : Nat → Int32) {z : PV} {q : RV} (M : mr_R z q) (G : g0_D gg) : pr_S mX6_wipe mX7_wipe [] ff gg z q := by
  obtain ⟨n, K, R⟩ := M.1
  exact ⟨_, _, cv_rp (sX6_wipe false ff false gg z), sX7_wipe q z M, pmZ_rf rfl rfl⟩
theorem pr_fault {gg : Nat → Int32} (ff : Nat → Int32) {z : PV} {q : RV} (M : mr_R z q) (G : g0_D gg) : pr_S mX6_fault mX7_fault [] ff gg z q := by
  obtain ⟨n, K, R⟩ := M.1
  obtain ⟨L, hL, hl, hq, _, _⟩ := rd_ag M
  have e : fnF (pD z).2.1 L 0 0 (0, (pD z).2.2.2) = rdZ z := by rw [rdZ, hl, ix_nI (by omega)]
  have c := sX6_fault false ff false gg z L hL hl
  rw [e] at c
  exact ⟨_, z, cv_rpE (z2 := sD z (nI L, (pD z).2.1, (rdZ z).1)) ⟨rfl, rfl, rfl, hl.symm, rfl⟩ c, am_wk (sX7_faultZ q z M) (fun r h1 hp => ⟨hp.1, q, hp.2, M⟩), pmZ_rf rfl rfl⟩
theorem pr_read {gg : Nat → Int32} (ff : Nat → Int32) {z : PV} {q : RV} (M : mr_R z q) (G : g0_D gg) : pr_S mX6_read mX7_read [] ff gg z q := by
  obtain ⟨n, K, R⟩ := M.1
  obtain ⟨L, hL, hl, hq, _, D⟩ := rd_ag M
  by_cases hb : (rdZ z).2 = -6
  · obtain ⟨m, m1, m2, rfl, D⟩ := D hb
    by_cases hs : shd (rdZ z).1.2.2 (rdZ z).1.1 0 0
    · exact ⟨_, z, cv_rpE (z2 := rdA z) ⟨rfl, rfl, rfl, rfl, rfl⟩ (sX6_read_t false ff false gg z ⟨L, hL, hl⟩ hb m2 hs), sX7_read_t q z M n K R hb L hL hq _ m2 D hs, pmZ_rf rfl rfl⟩
    · exact ⟨_, _, cv_rp (sX6_read_s false ff false gg z ⟨L, hL, hl⟩ hb m2 hs M.2.1.1 M.2.1.2.1), sX7_read_s q z M n K R hb L hL hq _ m2 D hs, pmZ_rc rfl rfl⟩
  · exact ⟨_, z, cv_rpE (z2 := rdA z) ⟨rfl, rfl, rfl, rfl, rfl⟩ (sX6_read_b false ff false gg z ⟨L, hL, hl⟩ hb), sX7_read_b q z M n K R hb, pmZ_rf rfl rfl⟩
theorem pr_roof {gg : Nat → Int32} (ff : Nat → Int32) {z : PV} {q : RV} (M : mr_R z q) (G : g0_D gg) (b r : Int32) (hr : r = 0 ∨ r = 1) : pr_S mX6_roof mX7_roof [.int b, .int r] ff gg z q := by
  obtain ⟨n, K, R⟩ := M.1
  rcases (Classical.em (inP b)).symm with hb | hb
  · exact ⟨_, _, cv_rp (sX6_roof_n false ff false gg z  b r hb ), sX7_roof_n q z M n K R b r hb, pmZ_rf rfl rfl⟩
  obtain ⟨p, hp, rfl⟩ := na_of (N := 12) hb.1 hb.2
  by_cases ht : (rfP (vRo (pN z)) p ∧ r = 1) ∨ (¬ rfP (vRo (pN z)) p ∧ r = 0)
  · exact ⟨_, _, cv_rp (sX6_roof_t false ff false gg z  hp r ht ), sX7_roof_t q z M n K R hp r ht, pmZ_rf rfl rfl⟩
  · have hs : (rfP (vRo (pN z)) p ∧ r = 0) ∨ (¬ rfP (vRo (pN z)) p ∧ r = 1) := by
      by_cases h : rfP (vRo (pN z)) p
      · rcases hr with e | e
        · exact Or.inl ⟨h, e⟩
        · exact absurd (Or.inl ⟨h, e⟩) ht
      · rcases hr with e | e
        · exact absurd (Or.inr ⟨h, e⟩) ht
        · exact Or.inr ⟨h, e⟩
    exact ⟨_, _, cv_rp (sX6_roof_s false ff false gg z  hp r hs M.2.1.1 M.2.1.2.1), sX7_roof_s q z M n K R hp r hs, pmZ_rc rfl rfl⟩
theorem pr_put {gg : Nat → Int32} (ff : Nat → Int32) {z : PV} {q : RV} (M : mr_R z q) (x : Int64) : pr_S mX6_put mX7_put [.long x] ff gg z q := by
  obtain ⟨X, hX, rfl⟩ := wb_of x
  obtain ⟨L, hL, hl, hq, _, _⟩ := rd_ag M
  have h8 : cl_N 8 0 X ≤ 8 := by
    by_cases h : cl_N 8 0 X = 0
    · omega
    · obtain ⟨m, m1, m2, _⟩ := cl_v 8 0 X h
      omega
  have c6 := sX6_put false ff false gg z (lN X) L hL hl _ h8 (cl_e 8 0 X hX)
  have c7 := sX7_put q z M L _ X hL hl hq hX rfl
  by_cases h0 : cl_N 8 0 X = 0
  · refine ⟨-2, z, am_wk c6 (fun r h1 hp => ?_), am_wk c7 (fun r h1 hp => ?_), pmZ_rf rfl rfl⟩
    · rw [putP, if_pos h0] at hp
      exact ⟨hp.1, z, hp.2, eq_Zr z⟩
    · rcases hp with ⟨_, h⟩ | ⟨h, _⟩ | ⟨h, _⟩
      · exact h
      · exact absurd h0 h
      · exact absurd h0 h
  · by_cases h60 : 60 < L + cl_N 8 0 X
    · refine ⟨-4, z, am_wk c6 (fun r h1 hp => ?_), am_wk c7 (fun r h1 hp => ?_), pmZ_rf rfl rfl⟩
      · rw [putP, if_neg h0, if_pos h60] at hp
        exact ⟨hp.1, z, hp.2, eq_Zr z⟩
      · rcases hp with ⟨h, _⟩ | ⟨_, _, h⟩ | ⟨_, h, _⟩
        · exact absurd h h0
        · exact h
        · omega
    · refine ⟨nI (L + cl_N 8 0 X), sD z (nI (L + cl_N 8 0 X), apF L (cl_N 8 0 X) (lN X) (pD z).2.1, (pD z).2.2), am_wk c6 (fun r h1 hp => ?_), am_wk c7 (fun r h1 hp => ?_), pmZ_rf rfl rfl⟩
      · rw [putP, if_neg h0, if_neg h60] at hp
        exact ⟨hp.1, _, hp.2, eq_Zr _⟩
      · rcases hp with ⟨h, _⟩ | ⟨_, h, _⟩ | ⟨_, _, h⟩
        · exact absurd h h0
        · exact absurd h h60
        · exact h
