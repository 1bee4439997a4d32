/-! the law: from its entry -/
def lw0 (N : Nat) (f : Nat → Int32) (ff gg : Nat → Int32) : am_H := (some (fsC false ff) :: some (fsC false gg) :: nn 96) ++ (nn 7 ++ lwT N f)
theorem nn_no {n j : Nat} {c : am_C} (e : (nn n)[j]? = some (some c)) : False := by
  have := List.eq_of_mem_replicate (List.mem_of_getElem? e)
  cases this
theorem pm_init (ff gg : Nat → Int32) : pmo (some (fsC false ff) :: some (fsC false gg) :: some (am_oj 5 [.null, .null, .null, .null, .null, .null]) :: nn 95 : am_H) (ppH false ff false gg (z0 ff)) := by
  refine ⟨rfl, fun j c e => ?_⟩
  match j, e with
  | 0, e => cases e; exact ⟨_, rfl, rfl⟩
  | 1, e => cases e; exact ⟨_, rfl, rfl⟩
  | 2, e => cases e; exact ⟨_, rfl, rfl⟩
  | j + 3, e => exact (nn_no (n := 95) e).elim
theorem fr_init (N : Nat) (f : Nat → Int32) (ff gg : Nat → Int32) : ∀ j, (some (fsC false ff) :: some (fsC false gg) :: some (am_oj 5 [.null, .null, .null, .null, .null, .null]) :: nn 95 : am_H)[j]? = some none → 2 ≤ j ∧ frL j [some (.ref 105), none, none, none] [.ref 2] = true ∧ frH j ((some (fsC false ff) :: some (fsC false gg) :: some (am_oj 5 [.null, .null, .null, .null, .null, .null]) :: nn 95 : am_H) ++ (nn 7 ++ lwT N f)) = true := by
  intro j e
  match j, e with
  | 0, e => cases e
  | 1, e => cases e
  | 2, e => cases e
  | j + 3, e =>
    have hj := (List.getElem?_eq_some_iff.mp e).1
    have hj' : j + 3 < 98 := hj
    refine ⟨by omega, ?_, rfl⟩
    show (((!([105] : List Nat).contains (j + 3)) && true) && ((!([2] : List Nat).contains (j + 3)) && true)) = true
    simp
    omega
theorem sb_mod (N : Nat) (f : Nat → Int32) (ff gg : Nat → Int32) : ∀ (j : Nat) (c : am_C), (none :: none :: some (am_oj 6 [.null, .null, .int 0, .null, .null, .null, .int 0, .null]) :: nn 6 : am_H)[j]? = some (some c) → (ppH false ff false gg (z0 ff) ++ (some (am_oj 6 [.null, .null, .int 0, .null, .null, .null, .int 0, .null]) :: none :: none :: none :: none :: none :: none :: lwT N f))[lwM j]? = some (some (am_rc lwM c)) := by
  intro j c e
  match j, e with
  | 0, e => cases e
  | 1, e => cases e
  | 2, e =>
    cases e
    show (_ ++ _)[0 + 98]? = _
    rw [ap_98 (ppH_len ..)]
    rfl
  | j + 3, e => exact (nn_no (n := 6) e).elim
theorem bk_mod (N : Nat) (f : Nat → Int32) (ff gg : Nat → Int32) (q : RV) : am_back lwM (none :: none :: some (am_oj 6 [.null, .null, .int 0, .null, .null, .null, .int 0, .null]) :: nn 6) none (md_H q) [some (.ref 105), some (.ref 2), none, none] [.ref 98] (ppH false ff false gg (z0 ff) ++ (some (am_oj 6 [.null, .null, .int 0, .null, .null, .null, .int 0, .null]) :: none :: none :: none :: none :: none :: none :: lwT N f)) := by
  have fr : ∀ k, 99 ≤ k → k < 105 → am_free k [some (.ref 105), some (.ref 2), none, none] [.ref 98] (ppH false ff false gg (z0 ff) ++ (some (am_oj 6 [.null, .null, .int 0, .null, .null, .null, .int 0, .null]) :: none :: none :: none :: none :: none :: none :: lwT N f)) = true := by
    intro k h1 h2
    refine free_of ?_ (frH_app _ _ _ (frH_pp _ _ _ _ _ _ (by omega) (fun i a b c => by omega) (by omega) (by omega)) rfl)
    show (((!([105] : List Nat).contains k) && ((!([2] : List Nat).contains k) && true)) && ((!([98] : List Nat).contains k) && true)) = true
    simp
    omega
  refine ⟨fun j c e => ?_, fun i j c d _ _ he => lwM_inj he, fun j hn => ?_⟩
  · match j, e with
    | 0, e => cases e
    | 1, e => cases e
    | 2, e => cases e; exact ⟨_, rfl, rfl⟩
    | j + 3, e => exact (nn_no (n := 6) e).elim
  · obtain ⟨⟨c, hc⟩, hno⟩ := hn
    have hj : j < 9 := (List.getElem?_eq_some_iff.mp hc).1
    rcases (show j = 0 ∨ j = 1 ∨ j = 2 ∨ j = 3 ∨ j = 4 ∨ j = 5 ∨ j = 6 ∨ j = 7 ∨ j = 8 by omega) with rfl | rfl | rfl | rfl | rfl | rfl | rfl | rfl | rfl
    · cases hc
    · cases hc
    · exact absurd ⟨_, rfl⟩ hno
    · refine ⟨?_, by decide, fr 99 (by omega) (by omega), fun t _ e => lwM_inj e⟩
      show (_ ++ _)[1 + 98]? = _
      rw [ap_98 (ppH_len ..)]
      rfl
    · refine ⟨?_, by decide, fr 100 (by omega) (by omega), fun t _ e => lwM_inj e⟩
      show (_ ++ _)[2 + 98]? = _
      rw [ap_98 (ppH_len ..)]
      rfl
    · refine ⟨?_, by decide, fr 101 (by omega) (by omega), fun t _ e => lwM_inj e⟩
      show (_ ++ _)[3 + 98]? = _
      rw [ap_98 (ppH_len ..)]
      rfl
    · refine ⟨?_, by decide, fr 102 (by omega) (by omega), fun t _ e => lwM_inj e⟩
      show (_ ++ _)[4 + 98]? = _
      rw [ap_98 (ppH_len ..)]
      rfl
    · refine ⟨?_, by decide, fr 103 (by omega) (by omega), fun t _ e => lwM_inj e⟩
      show (_ ++ _)[5 + 98]? = _
      rw [ap_98 (ppH_len ..)]
      rfl
    · refine ⟨?_, by decide, fr 104 (by omega) (by omega), fun t _ e => lwM_inj e⟩
      show (_ ++ _)[6 + 98]? = _
      rw [ap_98 (ppH_len ..)]
      rfl
set_option maxHeartbeats 4000000 in
set_option maxRecDepth 100000 in
theorem law_0 {N : Nat} (hN : N ≤ 2048) (f : Nat → Int32) {ff gg : Nat → Int32} (F : f0_D ff) (G : g0_D gg) : am_RW mL_law (lw0 N f ff gg) lwP 0 0 0 [some (.ref 105), none, none, none] [] (lw0 N f ff gg) := by
  refine ar_new (pc := 0) (k := 2) dL_law_0 wL_7 rfl (by decide) rfl (Nat.le_of_ble_eq_true rfl) (Nat.le_of_ble_eq_true rfl) ?_
  refine ar_hp (h' := (some (fsC false ff) :: some (fsC false gg) :: some (am_oj 5 [.null, .null, .null, .null, .null, .null]) :: nn 95 : am_H) ++ (nn 7 ++ lwT N f)) rfl ?_
  refine ar_dup (pc := 3) dL_law_3 rfl ?_
  have hr := am_runI (pc := 4) (S := [.ref 2]) (h := (some (fsC false ff) :: some (fsC false gg) :: some (am_oj 5 [.null, .null, .null, .null, .null, .null]) :: nn 95 : am_H) ++ (nn 7 ++ lwT N f)) (μ := fun k => k) dL_law_4 cal_X6_init rfl rfl kL_9.1 kL_9.2 (Nat.le_of_ble_eq_true rfl) (sX6_init false ff false gg) rfl (Nat.le_of_ble_eq_true rfl) ⟨rfl, rfl⟩ (fun j c hj => by rw [am_rcid, List.getElem?_append_left (List.getElem?_eq_some_iff.mp hj).1]; exact hj) (fun i j c d _ _ he => he)
  refine ar_call (pc := 4) hr (Nat.le_of_ble_eq_true rfl) (Nat.le_of_ble_eq_true rfl) (fun j c hj => by rw [am_rcid, List.getElem?_append_left (List.getElem?_eq_some_iff.mp hj).1]; exact hj) fun r h1 hp => ?_
  obtain ⟨rfl, rfl⟩ := hp
  refine ⟨back_id (pm_init ff gg) (fr_init N f ff gg), ?_⟩
  rw [mrg_id (pm_init ff gg)]
  refine ar_astore_n (i := 1) (pc := 7) dL_law_7 rfl (Nat.le_of_ble_eq_true rfl) rfl ?_
  refine ar_new (pc := 8) (k := 98) dL_law_8 wL_10 (by show (_ ++ _)[0 + 98]? = _; rw [ap_98 (ppH_len ..)]; rfl) (by decide) (free_of rfl (frH_app _ _ _ (frH_pp _ _ _ _ _ _ (by omega) (fun i a b c => by omega) (by omega) (by omega)) rfl)) (Nat.le_of_ble_eq_true rfl) (Nat.le_of_ble_eq_true rfl) ?_
  refine ar_hp (h' := ppH false ff false gg (z0 ff) ++ (some (am_oj 6 [.null, .null, .int 0, .null, .null, .null, .int 0, .null]) :: none :: none :: none :: none :: none :: none :: lwT N f)) (by show List.set (_ ++ _) (98 + 0) _ = _; rw [set_98 (ppH_len ..)]; rfl) ?_
  refine ar_dup (pc := 11) dL_law_11 rfl ?_
  have hr := am_runI (pc := 12) (S := [.ref 98]) (h := ppH false ff false gg (z0 ff) ++ (some (am_oj 6 [.null, .null, .int 0, .null, .null, .null, .int 0, .null]) :: none :: none :: none :: none :: none :: none :: lwT N f)) (μ := lwM) dL_law_12 cal_X7_init rfl rfl kL_12.1 kL_12.2 (Nat.le_of_ble_eq_true rfl) (sX7_init F) rfl (Nat.le_of_ble_eq_true rfl) ⟨rfl, rfl⟩ (sb_mod N f ff gg) (fun i j c d _ _ he => lwM_inj he)
  refine ar_call (pc := 12) hr (Nat.le_of_ble_eq_true rfl) (Nat.le_of_ble_eq_true rfl) (sb_mod N f ff gg) fun r h1 hp => ?_
  obtain ⟨rfl, q, rfl, M⟩ := hp
  refine ⟨bk_mod N f ff gg q, ?_⟩
  rw [mdL_mrg (ppH_len ..)]
  refine ar_astore_n (i := 2) (pc := 15) dL_law_15 rfl (Nat.le_of_ble_eq_true rfl) rfl ?_
  refine ar_iconst (v := nI 0) (pc := 16) dL_law_16 (by decide +kernel) ?_
  refine ar_istore_n (i := 3) (pc := 17) dL_law_17 rfl (Nat.le_of_ble_eq_true rfl) rfl ?_
  exact law_loop hN G 520 0 rfl (z0 ff) q _ _ M (Nat.le_of_ble_eq_true rfl) (Nat.le_of_ble_eq_true rfl)
