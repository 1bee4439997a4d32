/-! calls with cells that may be there or not -/
theorem am_pl_of {μ : Nat → Nat} {h : am_H} : ∀ (hl : am_H) (j : Nat), (List.range' j hl.length).map (fun i => (h[μ i]?).join) = am_rn μ hl → am_pl μ j hl h = am_rn μ hl
  | [], _, _ => rfl
  | none :: t, j, he => by
    rw [List.length_cons, List.range'_succ, List.map_cons] at he
    have e2 := (List.cons.inj he).2
    show none :: am_pl μ (j + 1) t h = none :: am_rn μ t
    rw [am_pl_of t (j + 1) e2]
  | some c :: t, j, he => by
    rw [List.length_cons, List.range'_succ, List.map_cons] at he
    have e1 := (List.cons.inj he).1
    have e2 := (List.cons.inj he).2
    show (h[μ j]?).join :: am_pl μ (j + 1) t h = some (am_rc μ c) :: am_rn μ t
    rw [am_pl_of t (j + 1) e2, e1]
    rfl
/-- all cells set, those not there too -/
def am_ms (μ : Nat → Nat) : Nat → am_H → am_H → am_H
  | _, [], h => h
  | j, x :: t, h => am_ms μ (j + 1) t (h.set (μ j) (x.map (am_rc μ)))
theorem set_same {h : am_H} {k : Nat} {x : Option am_C} (e : h[k]? = some x) : h.set k x = h := by
  apply List.ext_getElem?
  intro i
  rw [List.getElem?_set]
  by_cases c : k = i
  · subst c
    have hl : k < h.length := (List.getElem?_eq_some_iff.mp e).1
    rw [if_pos rfl, if_pos hl, e]
  · rw [if_neg c]
theorem am_ms_of {μ : Nat → Nat} : ∀ (hl : am_H) (j : Nat) (h : am_H), (∀ a b, a < b → b < j + hl.length → j ≤ a → μ a ≠ μ b) → (∀ i, hl[i]? = some none → h[μ (j + i)]? = some none) → am_mrg μ j hl h = am_ms μ j hl h
  | [], _, _, _, _ => rfl
  | x :: t, j, h, hi, hn => by
    have step : am_mrg μ j (x :: t) h = am_mrg μ (j + 1) t (h.set (μ j) (x.map (am_rc μ))) := by
      cases x with
      | none =>
        have e := hn 0 rfl
        rw [Nat.add_zero] at e
        show am_mrg μ (j + 1) t h = _
        rw [Option.map_none, set_same e]
      | some c => rfl
    rw [step]
    show _ = am_ms μ (j + 1) t (h.set (μ j) (x.map (am_rc μ)))
    refine am_ms_of t (j + 1) _ (fun a b hab hb ha => hi a b hab (by rw [List.length_cons]; omega) (by omega)) (fun i e => ?_)
    have hl : i < t.length := (List.getElem?_eq_some_iff.mp e).1
    have e2 := hn (i + 1) (by rw [List.getElem?_cons_succ]; exact e)
    rw [List.getElem?_set, if_neg (hi j (j + 1 + i) (by omega) (by rw [List.length_cons]; omega) (Nat.le_refl j)), show j + 1 + i = j + (i + 1) by omega]
    exact e2
theorem am_okmu_mono {l : List Nat} {p : List (Option Bool)} (N : Nat) (hl : p.length = N) (h0 : am_mu l 0 = 0) (h1 : am_mu l 1 = 1) (h : ∀ a, a < N → ∀ b, b < a → p.getD a none ≠ none → p.getD b none ≠ none → am_mu l a ≠ am_mu l b) : am_okmu l p = true := by
  simp only [am_okmu, Bool.and_eq_true, beq_iff_eq, List.all_eq_true, List.mem_range]
  refine ⟨h0, h1, fun a ha b hb => ?_⟩
  rw [hl] at ha
  cases ea : p.getD a none with
  | none => rfl
  | some x =>
    cases eb : p.getD b none with
    | none => rfl
    | some y =>
      have := h a ha b hb (by rw [ea]; exact Option.some_ne_none x) (by rw [eb]; exact Option.some_ne_none y)
      exact bne_iff_ne.mpr this
