/-! what a call of the law leaves: the class's cells lie at the same places, the reference's behind them -/
theorem al_no {A : am_H} (h : A.all Option.isSome = true) {k : Nat} (e : A[k]? = some none) : False := by
  have := List.all_eq_true.mp h none (List.mem_of_getElem? e)
  cases this
theorem ap_no {A B : am_H} {k n : Nat} (hA : A.length = n) (h : (A ++ B)[k]? = some none) : (k < n ∧ A[k]? = some none) ∨ (n ≤ k ∧ B[k - n]? = some none) := by
  subst hA
  rw [List.getElem?_append] at h
  split at h
  · exact Or.inl ⟨by assumption, h⟩
  · exact Or.inr ⟨by omega, h⟩
theorem slB_no {a k : Nat} {o : Option SV} (h : (slB a o)[k]? = some none) : o = none := by
  cases o with
  | none => rfl
  | some v => exact (al_no (A := slB a (some v)) rfl h).elim
def ppA (w0 : Bool) (ff : Nat → Int32) (w1 : Bool) (gg : Nat → Int32) (z : PV) : am_H :=
  some (fsC w0 ff) :: some (fsC w1 gg) :: some (am_oj 5 [.ref 3, .ref 11, .ref 19, .ref 27, .ref 31, .ref 33]) ::
  (stB 3 (pN z) ++ (stB 11 (pU z) ++ (vwT 19 (pW z) ++ (pdB 27 (pD z).1 (pD z).2.1 (pD z).2.2 ++ (hyA (pY z) ++ slA (pL z))))))
theorem ppA_e (w0 : Bool) (ff : Nat → Int32) (w1 : Bool) (gg : Nat → Int32) (z : PV) : ppH w0 ff w1 gg z = ppA w0 ff w1 gg z ++
  (slB 34 ((pY z).1 0) ++ (slB 42 ((pY z).1 1) ++ (slB 50 ((pY z).1 2) ++ (slB 58 ((pY z).1 3) ++ (slB 66 ((pY z).1 4) ++ (slB 74 ((pY z).1 5) ++ (slB 82 (pL z).1 ++ slB 90 (pL z).2))))))) := by
  rw [ppH, ppA]
  simp only [List.cons_append, List.append_assoc]
theorem ppA_some (w0 : Bool) (ff : Nat → Int32) (w1 : Bool) (gg : Nat → Int32) (z : PV) : (ppA w0 ff w1 gg z).all Option.isSome = true := rfl
theorem ppA_len (w0 : Bool) (ff : Nat → Int32) (w1 : Bool) (gg : Nat → Int32) (z : PV) : (ppA w0 ff w1 gg z).length = 34 := rfl
theorem ppA_pat (w0 : Bool) (ff : Nat → Int32) (w1 : Bool) (gg : Nat → Int32) (z : PV) : am_pat (ppA w0 ff w1 gg z) = some w0 :: some w1 :: List.replicate 32 (some true) := rfl
theorem slB_len (a : Nat) (o : Option SV) : (slB a o).length = 8 := rfl
theorem ppH_len (w0 : Bool) (ff : Nat → Int32) (w1 : Bool) (gg : Nat → Int32) (z : PV) : (ppH w0 ff w1 gg z).length = 98 := rfl
theorem ppH_none {w0 : Bool} {ff : Nat → Int32} {w1 : Bool} {gg : Nat → Int32} {z : PV} {k : Nat} (h : (ppH w0 ff w1 gg z)[k]? = some none) : 34 ≤ k ∧ k < 98 ∧ (∀ i, i < 6 → 34 + 8 * i ≤ k → k < 42 + 8 * i → (pY z).1 i = none) ∧ (82 ≤ k → k < 90 → (pL z).1 = none) ∧ (90 ≤ k → k < 98 → (pL z).2 = none) := by
  rw [ppA_e] at h
  rcases ap_no (ppA_len ..) h with ⟨a, h⟩ | ⟨a, h⟩
  · exact (al_no (ppA_some ..) h).elim
  rcases ap_no (slB_len ..) h with ⟨b, h⟩ | ⟨b, h⟩
  · exact ⟨by omega, by omega, fun i hi h1 h2 => (show i = 0 by omega) ▸ slB_no h, by omega, by omega⟩
  rcases ap_no (slB_len ..) h with ⟨b, h⟩ | ⟨b, h⟩
  · exact ⟨by omega, by omega, fun i hi h1 h2 => (show i = 1 by omega) ▸ slB_no h, by omega, by omega⟩
  rcases ap_no (slB_len ..) h with ⟨b, h⟩ | ⟨b, h⟩
  · exact ⟨by omega, by omega, fun i hi h1 h2 => (show i = 2 by omega) ▸ slB_no h, by omega, by omega⟩
  rcases ap_no (slB_len ..) h with ⟨b, h⟩ | ⟨b, h⟩
  · exact ⟨by omega, by omega, fun i hi h1 h2 => (show i = 3 by omega) ▸ slB_no h, by omega, by omega⟩
  rcases ap_no (slB_len ..) h with ⟨b, h⟩ | ⟨b, h⟩
  · exact ⟨by omega, by omega, fun i hi h1 h2 => (show i = 4 by omega) ▸ slB_no h, by omega, by omega⟩
  rcases ap_no (slB_len ..) h with ⟨b, h⟩ | ⟨b, h⟩
  · exact ⟨by omega, by omega, fun i hi h1 h2 => (show i = 5 by omega) ▸ slB_no h, by omega, by omega⟩
  rcases ap_no (slB_len ..) h with ⟨b, h⟩ | ⟨b, h⟩
  · exact ⟨by omega, by omega, fun i hi h1 h2 => by omega, fun _ _ => slB_no h, by omega⟩
  · have hb := (List.getElem?_eq_some_iff.mp h).1
    rw [slB_len] at hb
    exact ⟨by omega, by omega, fun i hi h1 h2 => by omega, by omega, fun _ _ => slB_no h⟩
/-- what was there is there still -/
def pmo (A B : am_H) : Prop := A.length = B.length ∧ ∀ (j : Nat) (c : am_C), A[j]? = some (some c) → ∃ c', B[j]? = some (some c') ∧ am_wr c' = am_wr c
theorem pmo_app {A B X Y : am_H} (h : pmo A B) (k : pmo X Y) : pmo (A ++ X) (B ++ Y) := by
  refine ⟨by rw [List.length_append, List.length_append, h.1, k.1], fun j c e => ?_⟩
  rw [List.getElem?_append] at e ⊢
  rw [← h.1]
  split at e
  · rename_i q
    rw [if_pos q]
    exact h.2 j c e
  · rename_i q
    rw [if_neg q]
    exact k.2 _ c e
theorem pmo_pat {A B : am_H} {p : List (Option Bool)} (h : am_pat A = p) (k : am_pat B = p) : pmo A B := by
  refine ⟨?_, fun j c e => ?_⟩
  · have h1 := congrArg List.length h
    have h2 := congrArg List.length k
    rw [am_pat, List.length_map] at h1 h2
    omega
  · have h1 := am_pat_some e
    rw [h, ← k] at h1
    exact am_pat_inv h1
theorem pmo_sl {a : Nat} {o o1 : Option SV} (h : o1 = none → o = none) : pmo (slB a o) (slB a o1) := by
  cases o1 with
  | none =>
    rw [h rfl]
    exact pmo_pat rfl rfl
  | some u =>
    cases o with
    | some v => exact pmo_pat (p := List.replicate 8 (some true)) rfl rfl
    | none =>
      refine ⟨rfl, fun j c e => ?_⟩
      have := List.all_eq_true.mp (show (slB a none).all Option.isNone = true from rfl) _ (List.mem_of_getElem? e)
      cases this
/-- what of the class's cells is there -/
def pmZ (z z1 : PV) : Prop := (∀ i, i < 6 → (pY z1).1 i = none → (pY z).1 i = none) ∧ ((pL z1).1 = none → (pL z).1 = none) ∧ ((pL z1).2 = none → (pL z).2 = none)
theorem pmZ_eq {z z1 z2 : PV} (h : pmZ z z1) (e : eq_Z z2 z1) : pmZ z z2 := by
  obtain ⟨_, e2, e3, _⟩ := e
  unfold pmZ
  rw [e2, e3]
  exact h
theorem pmZ_rf {z z1 : PV} (h1 : pY z = pY z1) (h2 : pL z = pL z1) : pmZ z z1 := by
  unfold pmZ
  rw [h1, h2]
  exact ⟨fun _ _ h => h, fun h => h, fun h => h⟩
theorem pmo_pp {w0 : Bool} {ff : Nat → Int32} {w1 : Bool} {gg : Nat → Int32} {z z1 : PV} (h : pmZ z z1) : pmo (ppH w0 ff w1 gg z) (ppH w0 ff w1 gg z1) := by
  rw [ppA_e, ppA_e]
  exact pmo_app (pmo_pat (ppA_pat ..) (ppA_pat ..)) (pmo_app (pmo_sl (h.1 0 (by omega))) (pmo_app (pmo_sl (h.1 1 (by omega))) (pmo_app (pmo_sl (h.1 2 (by omega))) (pmo_app (pmo_sl (h.1 3 (by omega))) (pmo_app (pmo_sl (h.1 4 (by omega))) (pmo_app (pmo_sl (h.1 5 (by omega))) (pmo_app (pmo_sl h.2.1) (pmo_sl h.2.2))))))))
theorem pmo_no {A B : am_H} (h : pmo A B) {k : Nat} (e : B[k]? = some none) : A[k]? = some none := by
  have hk := (List.getElem?_eq_some_iff.mp e).1
  cases q : A[k]? with
  | none =>
    rw [List.getElem?_eq_none_iff] at q
    rw [h.1] at q
    omega
  | some o =>
    cases o with
    | none => rfl
    | some c =>
      obtain ⟨c', h1, _⟩ := h.2 k c q
      rw [e] at h1
      cases h1
theorem back_id {hl h1 R : am_H} {L : List (Option Value)} {S : List Value} {r : Option Value} (pm : pmo hl h1) (hfr : ∀ j, hl[j]? = some none → 2 ≤ j ∧ frL j L S = true ∧ frH j (hl ++ R) = true) : am_back (fun k => k) hl r h1 L S (hl ++ R) := by
  refine ⟨pm.2, fun i j c d _ _ e => e, fun j hn => ?_⟩
  obtain ⟨⟨c, hc⟩, hno⟩ := hn
  have hj := (List.getElem?_eq_some_iff.mp hc).1
  rw [← pm.1] at hj
  have e : hl[j]? = some none := by
    cases q : hl[j]? with
    | none =>
      rw [List.getElem?_eq_none_iff] at q
      omega
    | some o =>
      cases o with
      | none => rfl
      | some d => exact absurd ⟨d, q⟩ hno
  obtain ⟨a1, a2, a3⟩ := hfr j e
  exact ⟨by rw [List.getElem?_append_left hj]; exact e, a1, free_of a2 a3, fun t _ e => e⟩
theorem mrg_id {hl h1 R : am_H} (pm : pmo hl h1) : am_mrg (fun k => k) 0 h1 (hl ++ R) = h1 ++ R := by
  refine List.ext_getElem? fun k => ?_
  by_cases hk : k < h1.length
  · rw [List.getElem?_append_left hk]
    cases q : h1[k]? with
    | none =>
      rw [List.getElem?_eq_none_iff] at q
      omega
    | some o =>
      cases o with
      | none =>
        have e := pmo_no pm q
        have hout := am_mrg_out (fun k => k) k h1 0 (hl ++ R) (fun i c hi he => by
          have he' : 0 + i = k := he
          rw [Nat.zero_add] at he'
          rw [he', q] at hi
          cases hi)
        rw [hout, List.getElem?_append_left (by rw [pm.1]; exact hk), e]
      | some c =>
        have hin := am_mrg_in (fun k => k) k c h1 0 (hl ++ R) q (fun i' c' hne _ => by show 0 + i' ≠ 0 + k; omega) (by show 0 + k < _; rw [List.length_append, pm.1]; omega)
        have e : (am_mrg (fun k => k) 0 h1 (hl ++ R))[0 + k]? = some (some (am_rc (fun k => k) c)) := hin
        rw [Nat.zero_add, am_rcid] at e
        exact e
  · have hk' : h1.length ≤ k := Nat.le_of_not_lt hk
    have hout := am_mrg_out (fun k => k) k h1 0 (hl ++ R) (fun i c hi he => by
      have he' : 0 + i = k := he
      have := (List.getElem?_eq_some_iff.mp hi).1
      omega)
    rw [hout, List.getElem?_append_right (by rw [pm.1]; exact hk'), List.getElem?_append_right hk', pm.1]
theorem ap_98 {A B : am_H} (hA : A.length = 98) (j : Nat) : (A ++ B)[j + 98]? = B[j]? := by
  rw [List.getElem?_append_right (by omega), hA, Nat.add_sub_cancel]
theorem set_98 {A : am_H} (hA : A.length = 98) (B : am_H) (j : Nat) (x : Option am_C) : (A ++ B).set (98 + j) x = A ++ B.set j x := by
  rw [List.set_append_right _ _ (by omega), hA, Nat.add_sub_cancel_left]
/-- a call of the class by the law -/
theorem ar_cls {M M' : am_M} {h0 : am_H} {P : Option Value → am_H → Prop} {kc ks pc idx n : Nat} {L : List (Option Value)} {st S : List Value} {as : List Value} {R : am_H} {ff gg : Nat → Int32} {z z1 : PV} {x : Int32} (d : decode (am_b M) pc = .ok (.invokevirtual idx, 3)) (cal : am_cal M' n) (lk : Cond.methodLink (am_y M).cls idx (am_y M') ∈ am_ws ∧ Cond.instanceMethod (am_y M') ∈ am_ws ∧ Cond.selects (am_y M').cls (am_y M') (am_y M') ∈ am_ws) (hlv : (am_lv M' + 1).ble (am_lv M) = true) (hrc : (am_cl[5]?).map (fun q => q.1) = some (am_y M').cls) (sp : am_Sp M' (.ref 2 :: as) (ppH false ff false gg z) (zz_P x false ff false gg z1)) (hm : pmZ z z1) (hst : st = as.reverse ++ .ref 2 :: S) (hn : as.length = n) (hcat : ((S.map Value.category).sum).ble 8 = true) (hL : ∀ j, 34 ≤ j → j < 98 → frL j L S = true) (hR : ∀ j, 34 ≤ j → j < 98 → frH j R = true) (hc : kc + am_nc M' ≤ am_nc M) (hs : ks + am_ns M' ≤ am_ns M) (k : ∀ z', eq_Z z' z1 → am_RW M h0 P (kc + am_nc M') (ks + am_ns M') (pc + 3) L (.int x :: S) (ppH false ff false gg z' ++ R)) : am_RW M h0 P kc ks pc L st (ppH false ff false gg z ++ R) := by
  have hr := am_runV (S := S) (h := ppH false ff false gg z ++ R) (μ := fun k => k) (ci := 5) (fsb := [.ref 3, .ref 11, .ref 19, .ref 27, .ref 31, .ref 33]) d cal lk.1 lk.2.1 lk.2.2 (Nat.le_of_ble_eq_true hlv) sp hn (Nat.le_of_ble_eq_true hcat) hrc rfl ⟨rfl, rfl⟩ (fun j c hj => by rw [am_rcid, List.getElem?_append_left (List.getElem?_eq_some_iff.mp hj).1]; exact hj) (fun i j c d _ _ he => he)
  rw [ar_mapid, ← hst] at hr
  refine ar_call hr hc hs (fun j c hj => by rw [am_rcid, List.getElem?_append_left (List.getElem?_eq_some_iff.mp hj).1]; exact hj) fun r h1 hp => ?_
  obtain ⟨rfl, z', rfl, he⟩ := hp
  have pm := pmo_pp (w0 := false) (ff := ff) (w1 := false) (gg := gg) (pmZ_eq hm he)
  refine ⟨back_id pm fun j hj => ?_, ?_⟩
  · obtain ⟨a1, a2, a3, a4, a5⟩ := ppH_none hj
    exact ⟨by omega, hL j a1 a2, frH_app _ _ _ (frH_pp _ _ _ _ _ _ a1 a3 a4 a5) (hR j a1 a2)⟩
  · rw [mrg_id pm]
    exact k z' he
