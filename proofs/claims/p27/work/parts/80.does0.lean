/-! the law: answers of the changes; what the state keeps -/
def in_D (v : SV) (e : Nat) : Prop := ∃ n d, ok_D v n ∧ mo_D v n d ∧ d ≤ e
theorem mo_cg {v w : SV} {n d : Nat} (M : mo_D v n d) (e1 : vDa w = vDa v) (e2 : vTa w = vTa v) (e3 : vT w = vT v) (e4 : vF w = vF v) (e5 : vI w = vI v) : mo_D w n d := by
  obtain ⟨T, t, f, i, M1, M2, M3, M4, MK, M6, M7⟩ := M
  exact ⟨T, t, f, i, e1.trans M1, M2, e2.trans M3, M4, fun k hk => by rw [e3, e4, e5]; exact MK k hk, M6, M7⟩
theorem mo_add {v : SV} {n d : Nat} {a b : Int32} (M : mo_D v n d) : mo_D (adB v n a b) (n + 1) d := by
  obtain ⟨T, t, f, i, M1, M2, M3, M4, MK, M6, M7⟩ := M
  obtain ⟨a1, a2, a3, a4, a5, a6, a7, a8, a9, a10, a11, a12, a13⟩ := ad_1 v n a b
  refine ⟨T, fun k => if k = n then 0 else t k, fun k => if k = n then 0 else f k, fun k => if k = n then 0 else i k, a3.trans M1, M2, a13.trans M3, M4, fun k hk => ?_, ?_, ?_⟩
  · rw [a9, a10, a11]
    by_cases e : k = n
    · subst e
      rw [pk_us, pk_us, pk_us]
      dsimp only
      rw [if_pos rfl, if_pos rfl, if_pos rfl]
      exact ⟨rfl, rfl, rfl, by omega⟩
    · rw [pk_un e, pk_un e, pk_un e]
      dsimp only
      rw [if_neg e, if_neg e, if_neg e]
      exact MK k (by omega)
  · rw [su_N, if_pos rfl, su_Nc (g := t) n fun k hk => if_neg (by omega)]
    omega
  · rw [su_N, if_pos rfl, su_Nc (g := f) n fun k hk => if_neg (by omega)]
    omega
theorem cl_at {f : Nat → Int32} {n j k : Nat} (h8 : n ≤ 8) (hk : k < n - 1) : clU f j k = if k < j then f k else f (k + 1) := by
  rw [cl_sh, sh_N]
  by_cases c : k < j
  · rw [if_neg (by omega), if_pos c]
  · rw [if_pos (by omega), if_neg c]
theorem mo_go {v : SV} {n j d : Nat} (M : mo_D v n d) (h8 : n ≤ 8) (hj : j < n) : mo_D (rmB v n j) (n - 1) d := by
  obtain ⟨T, t, f, i, M1, M2, M3, M4, MK, M6, M7⟩ := M
  obtain ⟨a1, a2, a3, a4, a5, a6, a7, a8, a9, a10, a11, a12, a13⟩ := rm_1 v n j
  have s1 := (su_Nr (t := t) (j := j) (n - 1)).2 (by omega)
  have s2 := (su_Nr (t := f) (j := j) (n - 1)).2 (by omega)
  rw [show n - 1 + 1 = n by omega] at s1 s2
  refine ⟨T, fun k => if k < j then t k else t (k + 1), fun k => if k < j then f k else f (k + 1), fun k => if k < j then i k else i (k + 1), a3.trans M1, M2, a13.trans M3, M4, fun k hk => ?_, by omega, by omega⟩
  rw [a9, a10, a11, cl_at h8 hk, cl_at h8 hk, cl_at h8 hk]
  dsimp only
  by_cases c : k < j
  · rw [if_pos c, if_pos c, if_pos c, if_pos c, if_pos c, if_pos c]
    exact MK k (by omega)
  · rw [if_neg c, if_neg c, if_neg c, if_neg c, if_neg c, if_neg c]
    exact MK (k + 1) (by omega)
theorem in_mk {v : SV} {n d e : Nat} (K : ok_D v n) (M : mo_D v n d) (h : d ≤ e) : in_D v e := ⟨n, d, K, M, h⟩
/-! come -/
theorem an_comef {gg : Nat → Int32} {κ : Nat} {v : SV} (K : ok_D v 8) {a : Int32} (ha : 1 ≤ a.toInt ∧ a.toInt ≤ 9) : an_S gg mX6_come [.int a] (-4) κ v κ v := an_rp fun ff z e => by
  subst e
  exact cv_rp (sX6_come_f false ff false gg z a ha K.1)
theorem an_comes {gg : Nat → Int32} {n : Nat} {v : SV} (K : ok_D v n) (h8 : n < 8) {a : Int32} (ha : 1 ≤ a.toInt ∧ a.toInt ≤ 9) : an_S gg mX6_come [.int a] (nI n) 6 v 6 (adB v n a (-6)) := an_cr (Nat.le_refl 6) fun ff z e h1 h2 => by
  subst e
  have A := sX6_come_s false ff false gg z a ha n K.1 h8 h1 h2
  rw [nI_pred] at A
  exact A
theorem an_comeo {gg : Nat → Int32} {κ : Nat} {v : SV} : an_S gg mX6_come [.int 10] (-2) κ v κ v := an_rp fun ff z e => cv_rp (sX6_come_o false ff false gg z 10 (by decide))
/-! go -/
theorem an_gon {gg : Nat → Int32} {κ n : Nat} {v : SV} (K : ok_D v n) (b : Int32) (hb : ¬ bkP n b) : an_S gg mX6_go [.int b] (-1) κ v κ v := an_rp fun ff z e => by
  subst e
  exact cv_rp (sX6_go_n false ff false gg z n K.1 K.2.1.1 b hb)
theorem an_gos {gg : Nat → Int32} {n : Nat} {v : SV} (K : ok_D v n) {j : Nat} (hj : j < n) : an_S gg mX6_go [.int (nI j)] (vT v j) 6 v 6 (rmB v n j) := an_cr (Nat.le_refl 6) fun ff z e h1 h2 => by
  subst e
  exact sX6_go_s false ff false gg z n K.1 K.2.1.1 hj h1 h2
/-! stand -/
theorem an_standn {gg : Nat → Int32} {κ n : Nat} {v : SV} (K : ok_D v n) (b q : Int32) (hb : ¬ bkP n b) : an_S gg mX6_stand [.int b, .int q] (-1) κ v κ v := an_rp fun ff z e => by
  subst e
  exact cv_rp (sX6_stand_n false ff false gg z n K.1 K.2.1.1 b q (Or.inl hb))
/-! roof -/
theorem an_rooft {gg : Nat → Int32} {κ : Nat} {v : SV} {p : Nat} (hp : p < 12) (r : Int32) (ht : (rfP (vRo v) p ∧ r = 1) ∨ (¬ rfP (vRo v) p ∧ r = 0)) : an_S gg mX6_roof [.int (nI p), .int r] (-5) κ v κ v := an_rp fun ff z e => by
  subst e
  exact cv_rp (sX6_roof_t false ff false gg z hp r ht)
theorem an_roofs {gg : Nat → Int32} {v : SV} {p : Nat} (hp : p < 12) (r : Int32) (ht : (rfP (vRo v) p ∧ r = 0) ∨ (¬ rfP (vRo v) p ∧ r = 1)) : an_S gg mX6_roof [.int (nI p), .int r] (bitc (vRo v ^^^ (1 <<< (nI p &&& 31)))) 6 v 6 (uRo v (vRo v ^^^ (1 <<< (nI p &&& 31)))) := an_cr (Nat.le_refl 6) fun ff z e h1 h2 => by
  subst e
  exact sX6_roof_s false ff false gg z hp r ht h1 h2
theorem rf_nn (ro : Int32) : ∀ k, ∃ m, m ≤ k ∧ rf_S ro k = nI m
  | 0 => ⟨0, by omega, rfl⟩
  | k + 1 => by
    obtain ⟨m, hm, e⟩ := rf_nn ro k
    rcases and_1 (ro >>> (nI k &&& 31)) with h | h
    · exact ⟨m, by omega, by rw [rf_S, h, e, Int32.add_zero]⟩
    · exact ⟨m + 1, by omega, by rw [rf_S, h, e, nI_1]⟩
theorem bitc_nn {ro : Int32} (h : 0 ≤ ro.toInt ∧ ro.toInt < 4096) : ¬ bitc ro ≤ -1 := by
  rw [← rf_e h]
  obtain ⟨m, hm, e⟩ := rf_nn ro 12
  rw [e, Int32.le_iff_toInt_le, ti_m1, nI_toInt (by omega)]
  omega
theorem rf_0 {ro : Int32} {p : Nat} (h : ¬ rfP ro p) : (ro >>> (nI p &&& 31)) &&& 1 = 0 := (and_1 _).resolve_right h
/-! set -/
theorem an_sets {gg : Nat → Int32} (G : g0_D gg) {v : SV} {k : Nat} (hk : k < 6) {a : Nat} (h1 : nI a ≤ mo_I k) (h0 : 0 ≤ nI a) : an_S gg mX6_set [.int (nI k), .int (nI a)] (vS v k) 6 v 6 (uS v (upd (vS v) k (nI a))) := an_cr (Nat.le_refl 6) fun ff z e h2 h3 => by
  subst e
  exact sX6_set_s false ff false gg z hk (nI a) h0 (by rw [G k hk]; exact h1) h2 h3
theorem an_seto {gg : Nat → Int32} {κ : Nat} {v : SV} : an_S gg mX6_set [.int 6, .int 0] (-2) κ v κ v := an_rp fun ff z e => cv_rp (sX6_set_o false ff false gg z 6 0 (by decide))
theorem an_setv {gg : Nat → Int32} (G : g0_D gg) {κ : Nat} {v : SV} : an_S gg mX6_set [.int 4, .int 6] (-2) κ v κ v := an_rp fun ff z e => cv_rp (sX6_set_v false ff false gg z (k := 4) (by omega) 6 (Or.inr (by rw [G 4 (by omega)]; decide)))
/-! shuffle -/
theorem an_shuf {gg : Nat → Int32} {v : SV} {a : Int32} (ha : 0 ≤ a) : an_S gg mX6_shuffle [.int a] (vX v).toInt32 6 v 6 (uX v a.toInt64) := an_cr (Nat.le_refl 6) fun ff z e h1 h2 => by
  subst e
  exact sX6_shuffle_s false ff false gg z a ha h1 h2
theorem an_shuo {gg : Nat → Int32} {κ : Nat} {v : SV} : an_S gg mX6_shuffle [.int (-1)] (-2) κ v κ v := an_rp fun ff z e => cv_rp (sX6_shuffle_o false ff false gg z (-1) (by decide))
theorem an_undo {gg : Nat → Int32} {v : SV} : an_S gg mX6_undo [] (-5) 0 v 0 v := fun ff z hz => ⟨z, hz, pmZ_rf rfl rfl, cv_rp (sX6_undo_z false ff false gg z (Nat.le_zero.mp hz.2.2))⟩
/-! numbers below another -/
def lo_N (x : Int32) (m : Nat) : Nat := x.toBitVec.toNat % 2 ^ 31 % m
theorem lo_lt (x : Int32) {m : Nat} (h : 0 < m) : lo_N x m < m := Nat.mod_lt _ h
theorem an_31 (x : Int32) : x &&& 2147483647 = nI (x.toBitVec.toNat % 2 ^ 31) := pk_and x 31 (by decide +kernel)
set_option maxHeartbeats 4000000 in
set_option maxRecDepth 100000 in
theorem sL_low (h : am_H) (x : Int32) {m : Nat} (h0 : 0 < m) (hm : m < 2 ^ 31) : am_Sp mL_low [.int x, .int (nI m)] h (fun r h1 => r = some (.int (nI (lo_N x m))) ∧ h1 = h) := by
  refine am_intro (by decide) (Nat.le_of_ble_eq_true rfl) ?_
  refine ar_iload_n (i := 0) (pc := 0) dL_low_0 rfl rfl ?_
  refine ar_ldc (pc := 1) dL_low_1 cL_7 ?_
  refine ar_iand (pc := 3) dL_low_3 ?_
  refine ar_hs (an_31 x) ?_
  refine ar_iload_n (i := 1) (pc := 4) dL_low_4 rfl rfl ?_
  refine ar_irem (pc := 5) dL_low_5 (nI_ne0 h0 hm) ?_
  refine ar_hs (pk_rem (Nat.mod_lt _ (by decide)) h0 hm) ?_
  exact ar_iret (pc := 6) dL_low_6 rfl rfl rfl ⟨rfl, rfl⟩
theorem ar_low {M : am_M} {h0 : am_H} {P : Option Value → am_H → Prop} {kc ks kc1 ks1 pc idx : Nat} {L : List (Option Value)} {S : List Value} {R : am_H} {ff gg : Nat → Int32} {z : PV} {x y : Int32} {m : Nat} (d : decode (am_b M) pc = .ok (.invokestatic idx, 3)) (lk : Cond.methodLink (am_y M).cls idx (am_y mL_low) ∈ am_ws ∧ Cond.static (am_y mL_low) ∈ am_ws) (hlv : (am_lv mL_low + 1).ble (am_lv M) = true) (ey : y = nI m) (hm0 : 0 < m) (hm : m < 2 ^ 31) (hR : lr_H R) (hcat : ((S.map Value.category).sum).ble 8 = true) (hL : lf_B L S = true) (ec : kc + am_nc mL_low = kc1) (es : ks + am_ns mL_low = ks1) (hc : kc1 ≤ am_nc M) (hs : ks1 ≤ am_ns M) (k : am_RW M h0 P kc1 ks1 (pc + 3) L (.int (nI (lo_N x m)) :: S) (ppH false ff false gg z ++ R)) : am_RW M h0 P kc ks pc L (.int y :: .int x :: S) (ppH false ff false gg z ++ R) := by
  subst ey
  refine ar_ow d cal_L_low lk hlv (sL_low _ x hm0 hm) hR rfl rfl hcat hL ec es hc hs fun r h1 hp => ?_
  obtain ⟨rfl, rfl⟩ := hp
  exact ⟨pmo_rf _, k⟩
