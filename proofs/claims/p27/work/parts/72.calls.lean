/-! the law's calls: what the object is, what a call answers and leaves -/
def la_D (κ : Nat) (v : SV) (z : PV) : Prop := pN z = v ∧ (pY z).2.1 < 6 ∧ (pY z).2.2 ≤ κ
theorem pmZ_tr {a b c : PV} (h : pmZ a b) (k : pmZ b c) : pmZ a c := ⟨fun i hi e => h.1 i hi (k.1 i hi e), fun e => h.2.1 (k.2.1 e), fun e => h.2.2 (k.2.2 e)⟩
theorem la_eq {κ : Nat} {v : SV} {z z1 : PV} (h : la_D κ v z1) (e : eq_Z z z1) : la_D κ v z := by
  obtain ⟨e1, e2, -⟩ := e
  unfold la_D
  rw [e1, e2]
  exact h
def lz_D (κ : Nat) (v : SV) (z0 z : PV) : Prop := la_D κ v z ∧ pmZ z0 z
theorem lz_0 {κ : Nat} {v : SV} {z : PV} (h : la_D κ v z) : lz_D κ v z z := ⟨h, pmZ_rf rfl rfl⟩
def an_S (gg : Nat → Int32) (M' : am_M) (as : List Value) (x : Int32) (κ : Nat) (v : SV) (κ' : Nat) (v' : SV) : Prop := ∀ (ff : Nat → Int32) (z : PV), la_D κ v z → ∃ z1, la_D κ' v' z1 ∧ pmZ z z1 ∧ am_Sp M' (.ref 2 :: as) (ppH false ff false gg z) (zz_P x false ff false gg z1)
def lr_H (R : am_H) : Prop := R.all Option.isSome = true ∧ ∀ j, 34 ≤ j → j < 98 → frH j R = true
theorem lr_0 : lr_H [] := ⟨rfl, fun _ _ _ => rfl⟩
def ln_P (x : Int32) (ff gg : Nat → Int32) (κ' : Nat) (v' : SV) (z0 : PV) (R : am_H) : Option Value → am_H → Prop := fun r h1 => r = some (.int x) ∧ ∃ z', lz_D κ' v' z0 z' ∧ h1 = ppH false ff false gg z' ++ R
def ln_S (gg : Nat → Int32) (M' : am_M) (as : List Value) (x : Int32) (κ : Nat) (v : SV) (κ' : Nat) (v' : SV) : Prop := ∀ (ff : Nat → Int32) (z : PV) (R : am_H), la_D κ v z → lr_H R → am_Sp M' as (ppH false ff false gg z ++ R) (ln_P x ff gg κ' v' z R)
def lf_V (v : Value) : Bool := (am_vr v).all fun k => Nat.blt k 34 || Nat.ble 98 k
def lf_B (L : List (Option Value)) (S : List Value) : Bool := (L.all fun o => match o with | none => true | some v => lf_V v) && S.all lf_V
theorem lf_v {v : Value} (h : lf_V v = true) {j : Nat} (h1 : 34 ≤ j) (h2 : j < 98) : (!(am_vr v).contains j) = true := by
  have hn : ¬ j ∈ am_vr v := fun hm => by
    have := List.all_eq_true.mp h j hm
    rcases Bool.or_eq_true _ _ |>.mp this with a | a
    · have := Nat.le_of_ble_eq_true (show Nat.ble (j + 1) 34 = true from a)
      omega
    · have := Nat.le_of_ble_eq_true a
      omega
  simpa using hn
theorem lf_L {L : List (Option Value)} {S : List Value} (h : lf_B L S = true) : ∀ j, 34 ≤ j → j < 98 → frL j L S = true := by
  intro j h1 h2
  obtain ⟨a, b⟩ := Bool.and_eq_true _ _ |>.mp h
  refine Bool.and_eq_true _ _ |>.mpr ⟨List.all_eq_true.mpr fun o ho => ?_, List.all_eq_true.mpr fun v hv => lf_v (List.all_eq_true.mp b v hv) h1 h2⟩
  have := List.all_eq_true.mp a o ho
  cases o with
  | none => rfl
  | some v => exact lf_v this h1 h2
/-- a call of the class -/
theorem ar_cl {M M' : am_M} {h0 : am_H} {P : Option Value → am_H → Prop} {kc ks kc1 ks1 pc idx n κ κ' : Nat} {L : List (Option Value)} {st S : List Value} {as : List Value} {R : am_H} {ff gg : Nat → Int32} {z0 z : PV} {v v' : SV} {x : Int32} (d : decode (am_b M) pc = .ok (.invokevirtual idx, 3)) (cal : am_cal M' n) (lk : Cond.methodLink (am_y M).cls idx (am_y M') ∈ am_ws ∧ Cond.instanceMethod (am_y M') ∈ am_ws ∧ Cond.selects (am_y M').cls (am_y M') (am_y M') ∈ am_ws) (hlv : (am_lv M' + 1).ble (am_lv M) = true) (hrc : (am_cl[5]?).map (fun q => q.1) = some (am_y M').cls) (an : an_S gg M' as x κ v κ' v') (hz : lz_D κ v z0 z) (hR : lr_H R) (hst : st = as.reverse ++ .ref 2 :: S) (hn : as.length = n) (hcat : ((S.map Value.category).sum).ble 8 = true) (hL : lf_B L S = true) (ec : kc + am_nc M' = kc1) (es : ks + am_ns M' = ks1) (hc : kc1 ≤ am_nc M) (hs : ks1 ≤ am_ns M) (k : ∀ z', lz_D κ' v' z0 z' → am_RW M h0 P kc1 ks1 (pc + 3) L (.int x :: S) (ppH false ff false gg z' ++ R)) : am_RW M h0 P kc ks pc L st (ppH false ff false gg z ++ R) := by
  subst ec
  subst es
  obtain ⟨z1, a1, a2, sp⟩ := an ff z hz.1
  exact ar_cls d cal lk hlv hrc sp a2 hst hn hcat (lf_L hL) hR.2 hc hs fun z' e => k z' ⟨la_eq a1 e, pmZ_tr hz.2 (pmZ_eq a2 e)⟩
theorem pmo_rf (R : am_H) : pmo R R := ⟨rfl, fun _ c e => ⟨c, e, rfl⟩⟩
theorem pp_no {w0 : Bool} {ff : Nat → Int32} {w1 : Bool} {gg : Nat → Int32} {z : PV} {R : am_H} (hR : lr_H R) {j : Nat} (h : (ppH w0 ff w1 gg z ++ R)[j]? = some none) : (34 ≤ j ∧ j < 98) ∧ frH j (ppH w0 ff w1 gg z ++ R) = true := by
  rcases ap_no (ppH_len ..) h with ⟨a, h⟩ | ⟨a, h⟩
  · obtain ⟨a1, a2, a3, a4, a5⟩ := ppH_none h
    exact ⟨⟨a1, a2⟩, frH_app _ _ _ (frH_pp _ _ _ _ _ _ a1 a3 a4 a5) (hR.2 j a1 a2)⟩
  · exact (al_no hR.1 h).elim
/-- a call of the law's own -/
theorem ar_ow {M M' : am_M} {h0 : am_H} {P : Option Value → am_H → Prop} {kc ks kc1 ks1 pc idx n : Nat} {L : List (Option Value)} {st S : List Value} {as : List Value} {R : am_H} {ff gg : Nat → Int32} {z : PV} {Pq : Option Value → am_H → Prop} (d : decode (am_b M) pc = .ok (.invokestatic idx, 3)) (cal : am_cal M' n) (lk : Cond.methodLink (am_y M).cls idx (am_y M') ∈ am_ws ∧ Cond.static (am_y M') ∈ am_ws) (hlv : (am_lv M' + 1).ble (am_lv M) = true) (sp : am_Sp M' as (ppH false ff false gg z ++ R) Pq) (hR : lr_H R) (hst : st = as.reverse ++ S) (hn : as.length = n) (hcat : ((S.map Value.category).sum).ble 8 = true) (hL : lf_B L S = true) (ec : kc + am_nc M' = kc1) (es : ks + am_ns M' = ks1) (hc : kc1 ≤ am_nc M) (hs : ks1 ≤ am_ns M) (k : ∀ r h1, Pq r h1 → pmo (ppH false ff false gg z ++ R) h1 ∧ am_RW M h0 P kc1 ks1 (pc + 3) L (r.toList ++ S) h1) : am_RW M h0 P kc ks pc L st (ppH false ff false gg z ++ R) := by
  subst ec
  subst es
  have hr := am_runS (S := S) (h := ppH false ff false gg z ++ R) (μ := fun k => k) d cal lk.1 lk.2 (Nat.le_of_ble_eq_true hlv) sp hn (Nat.le_of_ble_eq_true hcat) ⟨rfl, rfl⟩ (fun j c hj => by rw [am_rcid]; exact hj) (fun i j c d _ _ he => he)
  rw [ar_mapid, ← hst] at hr
  refine ar_call hr hc hs (fun j c hj => by rw [am_rcid]; exact hj) fun r h1 hp => ?_
  obtain ⟨pm, k2⟩ := k r h1 hp
  have B := back_id (R := []) (L := L) (S := S) (r := r) pm fun j hj => ?_
  · have G := mrg_id (R := []) pm
    rw [List.append_nil] at B G
    rw [List.append_nil] at G
    refine ⟨B, ?_⟩
    rw [G, show r.map (am_v fun k => k) = r by cases r with | none => rfl | some v => exact congrArg some (am_vid v)]
    exact k2
  · obtain ⟨⟨b1, b2⟩, b3⟩ := pp_no hR hj
    rw [List.append_nil]
    exact ⟨by omega, lf_L hL j b1 b2, b3⟩
theorem ar_ln {M M' : am_M} {h0 : am_H} {P : Option Value → am_H → Prop} {kc ks kc1 ks1 pc idx n κ κ' : Nat} {L : List (Option Value)} {st S : List Value} {as : List Value} {R : am_H} {ff gg : Nat → Int32} {z0 z : PV} {v v' : SV} {x : Int32} (d : decode (am_b M) pc = .ok (.invokestatic idx, 3)) (cal : am_cal M' n) (lk : Cond.methodLink (am_y M).cls idx (am_y M') ∈ am_ws ∧ Cond.static (am_y M') ∈ am_ws) (hlv : (am_lv M' + 1).ble (am_lv M) = true) (ln : ln_S gg M' as x κ v κ' v') (hz : lz_D κ v z0 z) (hR : lr_H R) (hst : st = as.reverse ++ S) (hn : as.length = n) (hcat : ((S.map Value.category).sum).ble 8 = true) (hL : lf_B L S = true) (ec : kc + am_nc M' = kc1) (es : ks + am_ns M' = ks1) (hc : kc1 ≤ am_nc M) (hs : ks1 ≤ am_ns M) (k : ∀ z', lz_D κ' v' z0 z' → am_RW M h0 P kc1 ks1 (pc + 3) L (.int x :: S) (ppH false ff false gg z' ++ R)) : am_RW M h0 P kc ks pc L st (ppH false ff false gg z ++ R) := by
  refine ar_ow d cal lk hlv (ln ff z R hz.1 hR) hR hst hn hcat hL ec es hc hs fun r h1 hp => ?_
  obtain ⟨rfl, z', h, rfl⟩ := hp
  exact ⟨pmo_app (pmo_pp h.2) (pmo_rf R), k z' ⟨h.1, pmZ_tr hz.2 h.2⟩⟩
/-- places of the frame that need not be known any more -/
def am_le : List (Option Value) → List (Option Value) → Prop
  | [], _ => True
  | none :: t, [] => am_le t []
  | none :: t, _ :: u => am_le t u
  | some _ :: _, [] => False
  | some v :: t, o :: u => o = some v ∧ am_le t u
theorem am_le_at : ∀ {A B : List (Option Value)}, am_le A B → ∀ (i : Nat) (v : Value), A[i]? = some (some v) → B[i]? = some (some v)
  | [], _, _, i, v, h => by simp at h
  | none :: t, [], hle, i, v, h => by
    match i, h with
    | 0, h => cases h
    | i + 1, h => exact absurd (am_le_at (A := t) (B := []) hle i v h) (by simp)
  | none :: t, o :: u, hle, i, v, h => by
    match i, h with
    | 0, h => cases h
    | i + 1, h => exact am_le_at (A := t) (B := u) hle i v h
  | some w :: t, [], hle, _, _, _ => hle.elim
  | some w :: t, o :: u, hle, i, v, h => by
    match i, h with
    | 0, h => cases h; rw [hle.1]; rfl
    | i + 1, h => exact am_le_at (A := t) (B := u) hle.2 i v h
theorem ar_fg {M : am_M} {h0 : am_H} {P : Option Value → am_H → Prop} {kc ks pc : Nat} {L L' : List (Option Value)} {S : List Value} {h : am_H} (hle : am_le L' L) (k : am_RW M h0 P kc ks pc L' S h) : am_RW M h0 P kc ks pc L S h := by
  intro p l e R s m args below meth c D ad0 Q C F ad H locs ls T Ll
  exact k p l e R s m args below meth c D ad0 Q C F ad H locs ls T (am_L.of Ll fun i v hi => am_mem.mpr ⟨v, am_le_at hle i v hi, rfl⟩)
/-! what each call answers -/
theorem an_rp {gg : Nat → Int32} {M' : am_M} {as : List Value} {x : Int32} {κ : Nat} {v : SV} (h : ∀ (ff : Nat → Int32) (z : PV), pN z = v → am_Sp M' (.ref 2 :: as) (ppH false ff false gg z) (zz_P x false ff false gg z)) : an_S gg M' as x κ v κ v := fun ff z hz => ⟨z, hz, pmZ_rf rfl rfl, h ff z hz.1⟩
theorem nx1_lt {m : Nat} (h : m < 6) : nx1 m < 6 := by unfold nx1; split <;> omega
theorem kp1_le (m : Nat) : kp1 m ≤ 6 := by unfold kp1; split <;> omega
theorem an_ch {gg : Nat → Int32} {M' : am_M} {as : List Value} {x : Int32} {κ : Nat} (hκ : κ ≤ 6) {v w : SV} (h : ∀ (ff : Nat → Int32) (z : PV), pN z = v → (pY z).2.1 < 6 → (pY z).2.2 ≤ 6 → ∃ X : VWt, am_Sp M' (.ref 2 :: as) (ppH false ff false gg z) (zz_P x false ff false gg (sN (sW (rcZ z) X) w))) : an_S gg M' as x κ v 6 w := fun ff z hz => by
  obtain ⟨X, h'⟩ := h ff z hz.1 hz.2.1 (Nat.le_trans hz.2.2 hκ)
  exact ⟨sN (sW (rcZ z) X) w, ⟨rfl, (nx1_lt hz.2.1 : nx1 (pY z).2.1 < 6), (kp1_le _ : kp1 (pY z).2.2 ≤ 6)⟩, pmZ_sn z X w, h'⟩

theorem an_cr {gg : Nat → Int32} {M' : am_M} {as : List Value} {x : Int32} {κ : Nat} (hκ : κ ≤ 6) {v w : SV} (h : ∀ (ff : Nat → Int32) (z : PV), pN z = v → (pY z).2.1 < 6 → (pY z).2.2 ≤ 6 → am_Sp M' (.ref 2 :: as) (ppH false ff false gg z) (am_rp x (ppH false ff false gg (sN (rcZ z) w)))) : an_S gg M' as x κ v 6 w := an_ch hκ fun ff z e h1 h2 => ⟨pW (rcZ z), cv_rp (h ff z e h1 h2)⟩
theorem st_pi {l : Int32} {v : SV} {n k i : Nat} (hk : k < n) (hi : i < 12) (e : vP v k = nI (pi l i)) : stP v n k := ⟨hk, by rw [e]; exact nI_m6 (by have := pi_lt (l := l) hi; omega)⟩
theorem ta_e {l : Int32} {v : SV} {n k i : Nat} (hi : i < 12) (e : vP v k = nI (pi l i)) : taF l (lkT v n (-6) 8) (vS v (if l = 0 then 1 else 0)) (vS v 2) (ix (vP v k)) = (wl_L l v n i).2 := by
  rw [e, ix_nI (by have := pi_lt (l := l) hi; omega)]
  show (wl_L l v n (pi l (pi l i))).2 = _
  rw [pi_pi hi]
theorem ta_l1 {v : SV} {n k i : Nat} (hi : i < 12) (e : vP v k = nI (pi 1 i)) : taF 1 (lkT v n (-6) 8) (vS v 0) (vS v 2) (ix (vP v k)) = (wl_L 1 v n i).2 := ta_e (l := 1) hi e
theorem ta_l0 {v : SV} {n k i : Nat} (hi : i < 12) (e : vP v k = nI (pi 0 i)) : taF 0 (lkT v n (-6) 8) (vS v 1) (vS v 2) (ix (vP v k)) = (wl_L 0 v n i).2 := ta_e (l := 0) hi e
theorem an_booth0 {gg : Nat → Int32} {κ n : Nat} {v : SV} (K : ok_D v n) {k : Nat} (hk : k < n) : an_S gg mX6_booth [.int (nI k), .int 0] (vH v k) κ v κ v := an_rp fun ff z e => by
  subst e
  exact cv_rp (sX6_booth_0 false ff false gg z n K.1 K.2.1.1 hk)
theorem an_booth1 {gg : Nat → Int32} {κ n : Nat} {v : SV} (K : ok_D v n) {k : Nat} (hk : k < n) : an_S gg mX6_booth [.int (nI k), .int 1] (vP v k) κ v κ v := an_rp fun ff z e => by
  subst e
  exact cv_rp (sX6_booth_1 false ff false gg z n K.1 K.2.1.1 hk)
theorem an_booth2 {gg : Nat → Int32} {κ n : Nat} {v : SV} (K : ok_D v n) {k : Nat} (hk : k < n) : an_S gg mX6_booth [.int (nI k), .int 2] (crA v (lkT v n (-6) 8) (vP v k) (vH v k)) κ v κ v := an_rp fun ff z e => by
  subst e
  exact cv_rpW (sX6_booth_2 false ff false gg z n K.1 K.2.1.1 hk)
theorem an_booth3 {gg : Nat → Int32} {κ n : Nat} {v : SV} (K : ok_D v n) {k : Nat} (hk : k < n) : an_S gg mX6_booth [.int (nI k), .int 3] (sfV 1 v n k) κ v κ v := an_rp fun ff z e => by
  subst e
  exact cv_rpW (sX6_booth_3 false ff false gg z n K.1 K.2.1.1 hk)
theorem an_booth4 {gg : Nat → Int32} {κ n : Nat} {v : SV} (K : ok_D v n) {k : Nat} (hk : k < n) : an_S gg mX6_booth [.int (nI k), .int 4] (sfV 0 v n k) κ v κ v := an_rp fun ff z e => by
  subst e
  exact cv_rpW (sX6_booth_4 false ff false gg z n K.1 K.2.1.1 hk)
theorem an_booth5 {gg : Nat → Int32} {κ n : Nat} {v : SV} (K : ok_D v n) {k : Nat} (hk : k < n) : an_S gg mX6_booth [.int (nI k), .int 5] (vT v k) κ v κ v := an_rp fun ff z e => by
  subst e
  exact cv_rp (sX6_booth_5 false ff false gg z n K.1 K.2.1.1 hk)
theorem an_booth6 {gg : Nat → Int32} {κ n : Nat} {v : SV} (K : ok_D v n) {k : Nat} (hk : k < n) : an_S gg mX6_booth [.int (nI k), .int 6] (vF v k) κ v κ v := an_rp fun ff z e => by
  subst e
  exact cv_rp (sX6_booth_6 false ff false gg z n K.1 K.2.1.1 hk)
theorem an_booth7 {gg : Nat → Int32} {κ n : Nat} {v : SV} (K : ok_D v n) {k : Nat} (hk : k < n) : an_S gg mX6_booth [.int (nI k), .int 7] (vI v k) κ v κ v := an_rp fun ff z e => by
  subst e
  exact cv_rp (sX6_booth_7 false ff false gg z n K.1 K.2.1.1 hk)
theorem an_boothn {gg : Nat → Int32} {κ n : Nat} {v : SV} (K : ok_D v n) (b w : Int32) (hb : ¬ bkP n b) : an_S gg mX6_booth [.int b, .int w] (-1) κ v κ v := an_rp fun ff z e => by
  subst e
  exact cv_rp (sX6_booth_n false ff false gg z n K.1 K.2.1.1 b w hb)
theorem an_pitch0 {gg : Nat → Int32} {κ n : Nat} {v : SV} (K : ok_D v n) {p : Nat} (hp : p < 12) : an_S gg mX6_pitch [.int (nI p), .int 0] (if_I (rfP (vRo v) p)) κ v κ v := an_rp fun ff z e => by
  subst e
  exact cv_bp (sX6_pitch_0 false ff false gg z n K.1 K.2.1.1 hp)
theorem an_pitch1 {gg : Nat → Int32} {κ n : Nat} {v : SV} (K : ok_D v n) {p : Nat} (hp : p < 12) : an_S gg mX6_pitch [.int (nI p), .int 1] (o2i (bo_O v n p)) κ v κ v := an_rp fun ff z e => by
  subst e
  exact cv_rp (sX6_pitch_1 false ff false gg z n K.1 K.2.1.1 hp)
theorem an_pitch2 {gg : Nat → Int32} {κ n : Nat} {v : SV} (K : ok_D v n) {p : Nat} (hp : p < 12) : an_S gg mX6_pitch [.int (nI p), .int 2] (if_I (opP (lkT v n (-6) 8) p (vS v 4))) κ v κ v := an_rp fun ff z e => by
  subst e
  exact cv_bpW (sX6_pitch_2 false ff false gg z n K.1 K.2.1.1 hp)
theorem an_pitchn {gg : Nat → Int32} {κ : Nat} {v : SV} (b w : Int32) (hb : ¬ inP b) : an_S gg mX6_pitch [.int b, .int w] (-1) κ v κ v := an_rp fun ff z e => by
  subst e
  exact cv_rp (sX6_pitch_n false ff false gg z b w hb)
theorem an_countk {gg : Nat → Int32} {κ : Nat} {v : SV} {k : Nat} (hk : k < 6) : an_S gg mX6_count [.int (nI k)] (vS v k) κ v κ v := an_rp fun ff z e => by
  subst e
  exact cv_rp (sX6_count_s false ff false gg z hk)
theorem an_count0 {gg : Nat → Int32} {κ : Nat} {v : SV}  : an_S gg mX6_count [.int 0] (vS v 0) κ v κ v := an_rp fun ff z e => by
  subst e
  exact cv_rp (sX6_count_s false ff false gg z (k := 0) (by omega))
theorem an_count1 {gg : Nat → Int32} {κ : Nat} {v : SV}  : an_S gg mX6_count [.int 1] (vS v 1) κ v κ v := an_rp fun ff z e => by
  subst e
  exact cv_rp (sX6_count_s false ff false gg z (k := 1) (by omega))
theorem an_count2 {gg : Nat → Int32} {κ : Nat} {v : SV}  : an_S gg mX6_count [.int 2] (vS v 2) κ v κ v := an_rp fun ff z e => by
  subst e
  exact cv_rp (sX6_count_s false ff false gg z (k := 2) (by omega))
theorem an_count3 {gg : Nat → Int32} {κ : Nat} {v : SV}  : an_S gg mX6_count [.int 3] (vS v 3) κ v κ v := an_rp fun ff z e => by
  subst e
  exact cv_rp (sX6_count_s false ff false gg z (k := 3) (by omega))
theorem an_count4 {gg : Nat → Int32} {κ : Nat} {v : SV}  : an_S gg mX6_count [.int 4] (vS v 4) κ v κ v := an_rp fun ff z e => by
  subst e
  exact cv_rp (sX6_count_s false ff false gg z (k := 4) (by omega))
theorem an_count5 {gg : Nat → Int32} {κ : Nat} {v : SV}  : an_S gg mX6_count [.int 5] (vS v 5) κ v κ v := an_rp fun ff z e => by
  subst e
  exact cv_rp (sX6_count_s false ff false gg z (k := 5) (by omega))
theorem an_count6 {gg : Nat → Int32} {κ n : Nat} {v : SV} (K : ok_D v n)  : an_S gg mX6_count [.int 6] ((vX v).toInt32) κ v κ v := an_rp fun ff z e => by
  subst e
  exact cv_rp (sX6_count_6 false ff false gg z n K.1 K.2.1.1)
theorem an_count7 {gg : Nat → Int32} {κ n : Nat} {v : SV} (K : ok_D v n)  : an_S gg mX6_count [.int 7] (nI n) κ v κ v := an_rp fun ff z e => by
  subst e
  exact K.1 ▸ cv_rp (sX6_count_7 false ff false gg z n K.1 K.2.1.1)
theorem an_count8 {gg : Nat → Int32} {κ n : Nat} {v : SV} (K : ok_D v n)  : an_S gg mX6_count [.int 8] (nI (cst v n 8)) κ v κ v := an_rp fun ff z e => by
  subst e
  exact cv_rp (sX6_count_8 false ff false gg z n K.1 K.2.1.1)
theorem an_count9 {gg : Nat → Int32} {κ n : Nat} {v : SV} (K : ok_D v n)  : an_S gg mX6_count [.int 9] (vRo v) κ v κ v := an_rp fun ff z e => by
  subst e
  exact cv_rp (sX6_count_9 false ff false gg z n K.1 K.2.1.1)
theorem an_count10 {gg : Nat → Int32} {κ n : Nat} {v : SV} (K : ok_D v n)  : an_S gg mX6_count [.int 10] (vS v 0 + vS v 1 - swN v n) κ v κ v := an_rp fun ff z e => by
  subst e
  exact cv_rpW (sX6_count_10 false ff false gg z n K.1 K.2.1.1)
theorem an_count11 {gg : Nat → Int32} {κ n : Nat} {v : SV} (K : ok_D v n)  : an_S gg mX6_count [.int 11] (swN v n) κ v κ v := an_rp fun ff z e => by
  subst e
  exact cv_rpW (sX6_count_11 false ff false gg z n K.1 K.2.1.1)
theorem an_count12 {gg : Nat → Int32} {κ n : Nat} {v : SV} (K : ok_D v n)  : an_S gg mX6_count [.int 12] (vDa v) κ v κ v := an_rp fun ff z e => by
  subst e
  exact cv_rp (sX6_count_12 false ff false gg z n K.1 K.2.1.1)
theorem an_count13 {gg : Nat → Int32} {κ n : Nat} {v : SV} (K : ok_D v n)  : an_S gg mX6_count [.int 13] (vRa v) κ v κ v := an_rp fun ff z e => by
  subst e
  exact cv_rp (sX6_count_13 false ff false gg z n K.1 K.2.1.1)
theorem an_count14 {gg : Nat → Int32} {κ n : Nat} {v : SV} (K : ok_D v n)  : an_S gg mX6_count [.int 14] (vTa v) κ v κ v := an_rp fun ff z e => by
  subst e
  exact cv_rp (sX6_count_14 false ff false gg z n K.1 K.2.1.1)
theorem an_counto {gg : Nat → Int32} {κ : Nat} {v : SV}  : an_S gg mX6_count [.int 17] (-2) κ v κ v := an_rp fun ff z e => by
  subst e
  exact cv_rp (sX6_count_o false ff false gg z 17 (by decide) (by decide))
theorem an_lot {gg : Nat → Int32} {κ : Nat} {v : SV} (p : Int32) : an_S gg mX6_lot [.int p] (lotV v p) κ v κ v := an_rp fun ff z e => by
  subst e
  exact cv_rp (sX6_lot false ff false gg z p)
theorem an_seen00y {gg : Nat → Int32} {κ n : Nat} {v : SV} (K : ok_D v n) {k i : Nat} (hk : k < n) (hi : i < 12) (e : vP v k = nI (pi 1 i)) (c : (wl_L 1 v n i).2 < vH v k) : an_S gg mX6_seen [.int (nI k), .int 0, .int 0] 1 κ v κ v := an_rp fun ff z ez => by
  subst ez
  have A := cv_bpW (sX6_seen_00 false ff false gg z n K.1 K.2.1.1 hk (st_pi hk hi e))
  rw [if_1 (⟨by rw [e]; exact in_p (pi_lt hi), by rw [ta_l1 hi e]; exact c⟩)] at A
  exact A
theorem an_seen00n {gg : Nat → Int32} {κ n : Nat} {v : SV} (K : ok_D v n) {k i : Nat} (hk : k < n) (hi : i < 12) (e : vP v k = nI (pi 1 i)) (c : ¬ (wl_L 1 v n i).2 < vH v k) : an_S gg mX6_seen [.int (nI k), .int 0, .int 0] 0 κ v κ v := an_rp fun ff z ez => by
  subst ez
  have A := cv_bpW (sX6_seen_00 false ff false gg z n K.1 K.2.1.1 hk (st_pi hk hi e))
  rw [if_0 (fun q => c (by rw [← ta_l1 hi e]; exact q.2))] at A
  exact A
theorem an_seen01y {gg : Nat → Int32} {κ n : Nat} {v : SV} (K : ok_D v n) {k i : Nat} (hk : k < n) (hi : i < 12) (e : vP v k = nI (pi 1 i)) (c : (wl_L 1 v n i).2 < vH v k) : an_S gg mX6_seen [.int (nI k), .int 0, .int 1] 1 κ v κ v := an_rp fun ff z ez => by
  subst ez
  have A := cv_bp (sX6_seen_01 false ff false gg z n K.1 K.2.1.1 hk (st_pi hk hi e))
  rw [if_1 ((hd_ta (by decide) K.2.1.1 K.2.1.2.2.2.1 K.2.1.2.2.2.2.1 K.2.1.2.2.1 hk hi e).mp c)] at A
  exact A
theorem an_seen01n {gg : Nat → Int32} {κ n : Nat} {v : SV} (K : ok_D v n) {k i : Nat} (hk : k < n) (hi : i < 12) (e : vP v k = nI (pi 1 i)) (c : ¬ (wl_L 1 v n i).2 < vH v k) : an_S gg mX6_seen [.int (nI k), .int 0, .int 1] 0 κ v κ v := an_rp fun ff z ez => by
  subst ez
  have A := cv_bp (sX6_seen_01 false ff false gg z n K.1 K.2.1.1 hk (st_pi hk hi e))
  rw [if_0 (fun q => c ((hd_ta (by decide) K.2.1.1 K.2.1.2.2.2.1 K.2.1.2.2.2.2.1 K.2.1.2.2.1 hk hi e).mpr q))] at A
  exact A
theorem an_seenz0 {gg : Nat → Int32} {κ n : Nat} {v : SV} (K : ok_D v n) {k : Nat} (hk : k < n) (e : vP v k = -6) : an_S gg mX6_seen [.int (nI k), .int 0, .int 0] (0) κ v κ v := an_rp fun ff z e => by
  subst e
  exact cv_rp (sX6_seen_z false ff false gg z n K.1 K.2.1.1 hk (fun q => q.2 e) 0 0 (by decide) (by decide))
theorem an_seen10y {gg : Nat → Int32} {κ n : Nat} {v : SV} (K : ok_D v n) {k i : Nat} (hk : k < n) (hi : i < 12) (e : vP v k = nI (pi 0 i)) (c : (wl_L 0 v n i).2 < vH v k) : an_S gg mX6_seen [.int (nI k), .int 1, .int 0] 1 κ v κ v := an_rp fun ff z ez => by
  subst ez
  have A := cv_bpW (sX6_seen_10 false ff false gg z n K.1 K.2.1.1 hk (st_pi hk hi e))
  rw [if_1 (⟨by rw [e]; exact in_p (pi_lt hi), by rw [ta_l0 hi e]; exact c⟩)] at A
  exact A
theorem an_seen10n {gg : Nat → Int32} {κ n : Nat} {v : SV} (K : ok_D v n) {k i : Nat} (hk : k < n) (hi : i < 12) (e : vP v k = nI (pi 0 i)) (c : ¬ (wl_L 0 v n i).2 < vH v k) : an_S gg mX6_seen [.int (nI k), .int 1, .int 0] 0 κ v κ v := an_rp fun ff z ez => by
  subst ez
  have A := cv_bpW (sX6_seen_10 false ff false gg z n K.1 K.2.1.1 hk (st_pi hk hi e))
  rw [if_0 (fun q => c (by rw [← ta_l0 hi e]; exact q.2))] at A
  exact A
theorem an_seen11y {gg : Nat → Int32} {κ n : Nat} {v : SV} (K : ok_D v n) {k i : Nat} (hk : k < n) (hi : i < 12) (e : vP v k = nI (pi 0 i)) (c : (wl_L 0 v n i).2 < vH v k) : an_S gg mX6_seen [.int (nI k), .int 1, .int 1] 1 κ v κ v := an_rp fun ff z ez => by
  subst ez
  have A := cv_bp (sX6_seen_11 false ff false gg z n K.1 K.2.1.1 hk (st_pi hk hi e))
  rw [if_1 ((hd_ta (by decide) K.2.1.1 K.2.1.2.2.2.1 K.2.1.2.2.2.2.1 K.2.1.2.2.1 hk hi e).mp c)] at A
  exact A
theorem an_seen11n {gg : Nat → Int32} {κ n : Nat} {v : SV} (K : ok_D v n) {k i : Nat} (hk : k < n) (hi : i < 12) (e : vP v k = nI (pi 0 i)) (c : ¬ (wl_L 0 v n i).2 < vH v k) : an_S gg mX6_seen [.int (nI k), .int 1, .int 1] 0 κ v κ v := an_rp fun ff z ez => by
  subst ez
  have A := cv_bp (sX6_seen_11 false ff false gg z n K.1 K.2.1.1 hk (st_pi hk hi e))
  rw [if_0 (fun q => c ((hd_ta (by decide) K.2.1.1 K.2.1.2.2.2.1 K.2.1.2.2.2.2.1 K.2.1.2.2.1 hk hi e).mpr q))] at A
  exact A
theorem an_seenz1 {gg : Nat → Int32} {κ n : Nat} {v : SV} (K : ok_D v n) {k : Nat} (hk : k < n) (e : vP v k = -6) : an_S gg mX6_seen [.int (nI k), .int 1, .int 1] (0) κ v κ v := an_rp fun ff z e => by
  subst e
  exact cv_rp (sX6_seen_z false ff false gg z n K.1 K.2.1.1 hk (fun q => q.2 e) 1 1 (by decide) (by decide))
