/-! the History beside the whole: the row -/
theorem okH {p : List (Option Bool)} (hl : p.length = 60) : am_okmu [0, 1, 31, 32, 34, 35, 36, 37, 38, 39, 40, 41, 42, 43, 44, 45, 46, 47, 48, 49, 50, 51, 52, 53, 54, 55, 56, 57, 58, 59, 60, 61, 62, 63, 64, 65, 66, 67, 68, 69, 70, 71, 72, 73, 74, 75, 76, 77, 78, 79, 80, 81, 3, 4, 5, 6, 7, 8, 9, 10] p = true := by
  have h : ∀ a, a < 60 → ∀ b, b < a → am_mu [0, 1, 31, 32, 34, 35, 36, 37, 38, 39, 40, 41, 42, 43, 44, 45, 46, 47, 48, 49, 50, 51, 52, 53, 54, 55, 56, 57, 58, 59, 60, 61, 62, 63, 64, 65, 66, 67, 68, 69, 70, 71, 72, 73, 74, 75, 76, 77, 78, 79, 80, 81, 3, 4, 5, 6, 7, 8, 9, 10] a ≠ am_mu [0, 1, 31, 32, 34, 35, 36, 37, 38, 39, 40, 41, 42, 43, 44, 45, 46, 47, 48, 49, 50, 51, 52, 53, 54, 55, 56, 57, 58, 59, 60, 61, 62, 63, 64, 65, 66, 67, 68, 69, 70, 71, 72, 73, 74, 75, 76, 77, 78, 79, 80, 81, 3, 4, 5, 6, 7, 8, 9, 10] b := by decide +kernel
  exact am_okmu_mono 60 hl rfl rfl (fun a ha b hb _ _ => h a ha b hb)
theorem patH_len (w : Bool) (ff : Nat → Int32) (o0 o1 o2 o3 o4 o5 : Option SV) (nx kp : Int32) (v : SV) : (am_pat (hy6 w ff o0 o1 o2 o3 o4 o5 nx kp v)).length = 60 := by
  rw [am_pat, List.length_map]
  rfl
/-- the cells of a History and of a State, the states kept told by a function -/
abbrev hyF (w : Bool) (ff : Nat → Int32) (o : Nat → Option SV) (nx kp : Int32) (v : SV) : am_H := hy6 w ff (o 0) (o 1) (o 2) (o 3) (o 4) (o 5) nx kp v
theorem stO_refs (a : Nat) (v : SV) : am_refs (stO a v) = [a, a + 1, a + 2, a + 3, a + 4, a + 5, a + 6] := rfl
theorem stO_rin {a t : Nat} {v : SV} (h : t ∈ am_refs (stO a v)) : a ≤ t ∧ t < a + 7 := by
  rw [stO_refs] at h
  simp only [List.mem_cons, List.not_mem_nil, or_false] at h
  omega
/-- a place of a state kept -/
theorem hyF_mid : ∀ k, 4 ≤ k → k < 52 → ∃ f : SV → am_C, (∀ (w : Bool) (ff : Nat → Int32) (o : Nat → Option SV) (nx kp : Int32) (v : SV), (hyF w ff o nx kp v)[k]? = some ((o ((k - 4) / 8)).map f)) ∧ (∀ v, am_wr (f v) = true) ∧ ∀ v t, t ∈ am_refs (f v) → 4 ≤ t ∧ t < 52
  | 0, h, _ => absurd h (by decide)
  | 1, h, _ => absurd h (by decide)
  | 2, h, _ => absurd h (by decide)
  | 3, h, _ => absurd h (by decide)
  | 4, _, _ => ⟨fun v => stO 5 v, fun _ _ _ _ _ _ => rfl, fun _ => rfl, fun _ _ h => by have := stO_rin h; omega⟩
  | 5, _, _ => ⟨fun v => am_ia 6 (vS v), fun _ _ _ _ _ _ => rfl, fun _ => rfl, fun _ _ h => absurd h (List.not_mem_nil)⟩
  | 6, _, _ => ⟨fun v => am_ia 8 (vH v), fun _ _ _ _ _ _ => rfl, fun _ => rfl, fun _ _ h => absurd h (List.not_mem_nil)⟩
  | 7, _, _ => ⟨fun v => am_ia 8 (vP v), fun _ _ _ _ _ _ => rfl, fun _ => rfl, fun _ _ h => absurd h (List.not_mem_nil)⟩
  | 8, _, _ => ⟨fun v => am_ia 8 (vT v), fun _ _ _ _ _ _ => rfl, fun _ => rfl, fun _ _ h => absurd h (List.not_mem_nil)⟩
  | 9, _, _ => ⟨fun v => am_ia 8 (vF v), fun _ _ _ _ _ _ => rfl, fun _ => rfl, fun _ _ h => absurd h (List.not_mem_nil)⟩
  | 10, _, _ => ⟨fun v => am_ia 8 (vI v), fun _ _ _ _ _ _ => rfl, fun _ => rfl, fun _ _ h => absurd h (List.not_mem_nil)⟩
  | 11, _, _ => ⟨fun v => am_ia 8 (vL v), fun _ _ _ _ _ _ => rfl, fun _ => rfl, fun _ _ h => absurd h (List.not_mem_nil)⟩
  | 12, _, _ => ⟨fun v => stO 13 v, fun _ _ _ _ _ _ => rfl, fun _ => rfl, fun _ _ h => by have := stO_rin h; omega⟩
  | 13, _, _ => ⟨fun v => am_ia 6 (vS v), fun _ _ _ _ _ _ => rfl, fun _ => rfl, fun _ _ h => absurd h (List.not_mem_nil)⟩
  | 14, _, _ => ⟨fun v => am_ia 8 (vH v), fun _ _ _ _ _ _ => rfl, fun _ => rfl, fun _ _ h => absurd h (List.not_mem_nil)⟩
  | 15, _, _ => ⟨fun v => am_ia 8 (vP v), fun _ _ _ _ _ _ => rfl, fun _ => rfl, fun _ _ h => absurd h (List.not_mem_nil)⟩
  | 16, _, _ => ⟨fun v => am_ia 8 (vT v), fun _ _ _ _ _ _ => rfl, fun _ => rfl, fun _ _ h => absurd h (List.not_mem_nil)⟩
  | 17, _, _ => ⟨fun v => am_ia 8 (vF v), fun _ _ _ _ _ _ => rfl, fun _ => rfl, fun _ _ h => absurd h (List.not_mem_nil)⟩
  | 18, _, _ => ⟨fun v => am_ia 8 (vI v), fun _ _ _ _ _ _ => rfl, fun _ => rfl, fun _ _ h => absurd h (List.not_mem_nil)⟩
  | 19, _, _ => ⟨fun v => am_ia 8 (vL v), fun _ _ _ _ _ _ => rfl, fun _ => rfl, fun _ _ h => absurd h (List.not_mem_nil)⟩
  | 20, _, _ => ⟨fun v => stO 21 v, fun _ _ _ _ _ _ => rfl, fun _ => rfl, fun _ _ h => by have := stO_rin h; omega⟩
  | 21, _, _ => ⟨fun v => am_ia 6 (vS v), fun _ _ _ _ _ _ => rfl, fun _ => rfl, fun _ _ h => absurd h (List.not_mem_nil)⟩
  | 22, _, _ => ⟨fun v => am_ia 8 (vH v), fun _ _ _ _ _ _ => rfl, fun _ => rfl, fun _ _ h => absurd h (List.not_mem_nil)⟩
  | 23, _, _ => ⟨fun v => am_ia 8 (vP v), fun _ _ _ _ _ _ => rfl, fun _ => rfl, fun _ _ h => absurd h (List.not_mem_nil)⟩
  | 24, _, _ => ⟨fun v => am_ia 8 (vT v), fun _ _ _ _ _ _ => rfl, fun _ => rfl, fun _ _ h => absurd h (List.not_mem_nil)⟩
  | 25, _, _ => ⟨fun v => am_ia 8 (vF v), fun _ _ _ _ _ _ => rfl, fun _ => rfl, fun _ _ h => absurd h (List.not_mem_nil)⟩
  | 26, _, _ => ⟨fun v => am_ia 8 (vI v), fun _ _ _ _ _ _ => rfl, fun _ => rfl, fun _ _ h => absurd h (List.not_mem_nil)⟩
  | 27, _, _ => ⟨fun v => am_ia 8 (vL v), fun _ _ _ _ _ _ => rfl, fun _ => rfl, fun _ _ h => absurd h (List.not_mem_nil)⟩
  | 28, _, _ => ⟨fun v => stO 29 v, fun _ _ _ _ _ _ => rfl, fun _ => rfl, fun _ _ h => by have := stO_rin h; omega⟩
  | 29, _, _ => ⟨fun v => am_ia 6 (vS v), fun _ _ _ _ _ _ => rfl, fun _ => rfl, fun _ _ h => absurd h (List.not_mem_nil)⟩
  | 30, _, _ => ⟨fun v => am_ia 8 (vH v), fun _ _ _ _ _ _ => rfl, fun _ => rfl, fun _ _ h => absurd h (List.not_mem_nil)⟩
  | 31, _, _ => ⟨fun v => am_ia 8 (vP v), fun _ _ _ _ _ _ => rfl, fun _ => rfl, fun _ _ h => absurd h (List.not_mem_nil)⟩
  | 32, _, _ => ⟨fun v => am_ia 8 (vT v), fun _ _ _ _ _ _ => rfl, fun _ => rfl, fun _ _ h => absurd h (List.not_mem_nil)⟩
  | 33, _, _ => ⟨fun v => am_ia 8 (vF v), fun _ _ _ _ _ _ => rfl, fun _ => rfl, fun _ _ h => absurd h (List.not_mem_nil)⟩
  | 34, _, _ => ⟨fun v => am_ia 8 (vI v), fun _ _ _ _ _ _ => rfl, fun _ => rfl, fun _ _ h => absurd h (List.not_mem_nil)⟩
  | 35, _, _ => ⟨fun v => am_ia 8 (vL v), fun _ _ _ _ _ _ => rfl, fun _ => rfl, fun _ _ h => absurd h (List.not_mem_nil)⟩
  | 36, _, _ => ⟨fun v => stO 37 v, fun _ _ _ _ _ _ => rfl, fun _ => rfl, fun _ _ h => by have := stO_rin h; omega⟩
  | 37, _, _ => ⟨fun v => am_ia 6 (vS v), fun _ _ _ _ _ _ => rfl, fun _ => rfl, fun _ _ h => absurd h (List.not_mem_nil)⟩
  | 38, _, _ => ⟨fun v => am_ia 8 (vH v), fun _ _ _ _ _ _ => rfl, fun _ => rfl, fun _ _ h => absurd h (List.not_mem_nil)⟩
  | 39, _, _ => ⟨fun v => am_ia 8 (vP v), fun _ _ _ _ _ _ => rfl, fun _ => rfl, fun _ _ h => absurd h (List.not_mem_nil)⟩
  | 40, _, _ => ⟨fun v => am_ia 8 (vT v), fun _ _ _ _ _ _ => rfl, fun _ => rfl, fun _ _ h => absurd h (List.not_mem_nil)⟩
  | 41, _, _ => ⟨fun v => am_ia 8 (vF v), fun _ _ _ _ _ _ => rfl, fun _ => rfl, fun _ _ h => absurd h (List.not_mem_nil)⟩
  | 42, _, _ => ⟨fun v => am_ia 8 (vI v), fun _ _ _ _ _ _ => rfl, fun _ => rfl, fun _ _ h => absurd h (List.not_mem_nil)⟩
  | 43, _, _ => ⟨fun v => am_ia 8 (vL v), fun _ _ _ _ _ _ => rfl, fun _ => rfl, fun _ _ h => absurd h (List.not_mem_nil)⟩
  | 44, _, _ => ⟨fun v => stO 45 v, fun _ _ _ _ _ _ => rfl, fun _ => rfl, fun _ _ h => by have := stO_rin h; omega⟩
  | 45, _, _ => ⟨fun v => am_ia 6 (vS v), fun _ _ _ _ _ _ => rfl, fun _ => rfl, fun _ _ h => absurd h (List.not_mem_nil)⟩
  | 46, _, _ => ⟨fun v => am_ia 8 (vH v), fun _ _ _ _ _ _ => rfl, fun _ => rfl, fun _ _ h => absurd h (List.not_mem_nil)⟩
  | 47, _, _ => ⟨fun v => am_ia 8 (vP v), fun _ _ _ _ _ _ => rfl, fun _ => rfl, fun _ _ h => absurd h (List.not_mem_nil)⟩
  | 48, _, _ => ⟨fun v => am_ia 8 (vT v), fun _ _ _ _ _ _ => rfl, fun _ => rfl, fun _ _ h => absurd h (List.not_mem_nil)⟩
  | 49, _, _ => ⟨fun v => am_ia 8 (vF v), fun _ _ _ _ _ _ => rfl, fun _ => rfl, fun _ _ h => absurd h (List.not_mem_nil)⟩
  | 50, _, _ => ⟨fun v => am_ia 8 (vI v), fun _ _ _ _ _ _ => rfl, fun _ => rfl, fun _ _ h => absurd h (List.not_mem_nil)⟩
  | 51, _, _ => ⟨fun v => am_ia 8 (vL v), fun _ _ _ _ _ _ => rfl, fun _ => rfl, fun _ _ h => absurd h (List.not_mem_nil)⟩
  | n + 52, _, h => absurd h (by omega)
theorem hyF_out {w : Bool} {ff : Nat → Int32} {o o' : Nat → Option SV} {nx kp nx' kp' : Int32} {v v' : SV} : ∀ (j : Nat) (c : am_C), j < 4 ∨ 52 ≤ j → (hyF w ff o nx kp v)[j]? = some (some c) → ∃ c', (hyF w ff o' nx' kp' v')[j]? = some (some c') ∧ am_wr c' = am_wr c
  | 0, _, _, h => by cases h; exact ⟨_, rfl, rfl⟩
  | 1, _, _, h => by cases h
  | 2, _, _, h => by cases h; exact ⟨_, rfl, rfl⟩
  | 3, _, _, h => by cases h; exact ⟨_, rfl, rfl⟩
  | 4, _, h, _ => absurd h (by decide)
  | 5, _, h, _ => absurd h (by decide)
  | 6, _, h, _ => absurd h (by decide)
  | 7, _, h, _ => absurd h (by decide)
  | 8, _, h, _ => absurd h (by decide)
  | 9, _, h, _ => absurd h (by decide)
  | 10, _, h, _ => absurd h (by decide)
  | 11, _, h, _ => absurd h (by decide)
  | 12, _, h, _ => absurd h (by decide)
  | 13, _, h, _ => absurd h (by decide)
  | 14, _, h, _ => absurd h (by decide)
  | 15, _, h, _ => absurd h (by decide)
  | 16, _, h, _ => absurd h (by decide)
  | 17, _, h, _ => absurd h (by decide)
  | 18, _, h, _ => absurd h (by decide)
  | 19, _, h, _ => absurd h (by decide)
  | 20, _, h, _ => absurd h (by decide)
  | 21, _, h, _ => absurd h (by decide)
  | 22, _, h, _ => absurd h (by decide)
  | 23, _, h, _ => absurd h (by decide)
  | 24, _, h, _ => absurd h (by decide)
  | 25, _, h, _ => absurd h (by decide)
  | 26, _, h, _ => absurd h (by decide)
  | 27, _, h, _ => absurd h (by decide)
  | 28, _, h, _ => absurd h (by decide)
  | 29, _, h, _ => absurd h (by decide)
  | 30, _, h, _ => absurd h (by decide)
  | 31, _, h, _ => absurd h (by decide)
  | 32, _, h, _ => absurd h (by decide)
  | 33, _, h, _ => absurd h (by decide)
  | 34, _, h, _ => absurd h (by decide)
  | 35, _, h, _ => absurd h (by decide)
  | 36, _, h, _ => absurd h (by decide)
  | 37, _, h, _ => absurd h (by decide)
  | 38, _, h, _ => absurd h (by decide)
  | 39, _, h, _ => absurd h (by decide)
  | 40, _, h, _ => absurd h (by decide)
  | 41, _, h, _ => absurd h (by decide)
  | 42, _, h, _ => absurd h (by decide)
  | 43, _, h, _ => absurd h (by decide)
  | 44, _, h, _ => absurd h (by decide)
  | 45, _, h, _ => absurd h (by decide)
  | 46, _, h, _ => absurd h (by decide)
  | 47, _, h, _ => absurd h (by decide)
  | 48, _, h, _ => absurd h (by decide)
  | 49, _, h, _ => absurd h (by decide)
  | 50, _, h, _ => absurd h (by decide)
  | 51, _, h, _ => absurd h (by decide)
  | 52, _, _, h => by cases h; exact ⟨_, rfl, rfl⟩
  | 53, _, _, h => by cases h; exact ⟨_, rfl, rfl⟩
  | 54, _, _, h => by cases h; exact ⟨_, rfl, rfl⟩
  | 55, _, _, h => by cases h; exact ⟨_, rfl, rfl⟩
  | 56, _, _, h => by cases h; exact ⟨_, rfl, rfl⟩
  | 57, _, _, h => by cases h; exact ⟨_, rfl, rfl⟩
  | 58, _, _, h => by cases h; exact ⟨_, rfl, rfl⟩
  | 59, _, _, h => by cases h; exact ⟨_, rfl, rfl⟩
  | n + 60, _, _, h => by cases h
theorem hyF_keep {w : Bool} {ff : Nat → Int32} {o o' : Nat → Option SV} {nx kp nx' kp' : Int32} {v v' : SV} (hm : ∀ i, o' i = none → o i = none) (j : Nat) (c : am_C) (h : (hyF w ff o nx kp v)[j]? = some (some c)) : ∃ c', (hyF w ff o' nx' kp' v')[j]? = some (some c') ∧ am_wr c' = am_wr c := by
  by_cases hj : j < 4 ∨ 52 ≤ j
  · exact hyF_out j c hj h
  · obtain ⟨f, h1, h2, -⟩ := hyF_mid j (by omega) (by omega)
    rw [h1] at h
    rw [h1]
    cases e : o ((j - 4) / 8) with
    | none => rw [e] at h; cases h
    | some u =>
      cases e' : o' ((j - 4) / 8) with
      | none => rw [hm _ e'] at e; cases e
      | some u' =>
        rw [e] at h
        cases h
        exact ⟨f u', rfl, by rw [h2, h2]⟩
theorem hyF_new {w : Bool} {ff : Nat → Int32} {o o' : Nat → Option SV} {nx kp nx' kp' : Int32} {v v' : SV} {j : Nat} (h : am_new (hyF w ff o nx kp v) (hyF w ff o' nx' kp' v') j) : 4 ≤ j ∧ j < 52 ∧ o ((j - 4) / 8) = none := by
  obtain ⟨⟨c, h1⟩, h2⟩ := h
  by_cases hj : j < 4 ∨ 52 ≤ j
  · obtain ⟨c', h3, -⟩ := hyF_out (o' := o) (nx' := nx) (kp' := kp) (v' := v) j c hj h1
    exact absurd ⟨c', h3⟩ h2
  · refine ⟨by omega, by omega, ?_⟩
    obtain ⟨f, h3, -, -⟩ := hyF_mid j (by omega) (by omega)
    cases e : o ((j - 4) / 8) with
    | none => rfl
    | some u => exact absurd ⟨f u, by rw [h3, e]; rfl⟩ h2
theorem hyF_ref {w : Bool} {ff : Nat → Int32} {o : Nat → Option SV} {nx kp : Int32} {v : SV} : ∀ (j : Nat) (c : am_C) (t : Nat), (hyF w ff o nx kp v)[j]? = some (some c) → t ∈ am_refs c → 2 ≤ t ∧ t < 60 := by
  intro j c t h ht
  by_cases hj : 4 ≤ j ∧ j < 52
  · obtain ⟨f, h1, -, h2⟩ := hyF_mid j hj.1 hj.2
    rw [h1] at h
    cases e : o ((j - 4) / 8) with
    | none => rw [e] at h; cases h
    | some u =>
      rw [e] at h
      cases h
      have := h2 u t ht
      omega
  · match j, hj, h with
    | 0, _, h => cases h; exact absurd ht (List.not_mem_nil)
    | 1, _, h => cases h
    | 2, _, h => cases h; cases ht with
      | head => omega
      | tail _ h => exact absurd h (List.not_mem_nil)
    | 3, _, h =>
      cases h
      obtain ⟨x, hx, ex⟩ := List.mem_filterMap.mp ht
      subst ex
      simp only [List.mem_cons, List.not_mem_nil, or_false, eq_comm (a := some t), Option.map_eq_some_iff] at hx
      rcases hx with ⟨_, _, e⟩ | ⟨_, _, e⟩ | ⟨_, _, e⟩ | ⟨_, _, e⟩ | ⟨_, _, e⟩ | ⟨_, _, e⟩ <;> omega
    | 52, _, h => cases h; have := stO_rin ht; omega
    | 53, _, h => cases h; exact absurd ht (List.not_mem_nil)
    | 54, _, h => cases h; exact absurd ht (List.not_mem_nil)
    | 55, _, h => cases h; exact absurd ht (List.not_mem_nil)
    | 56, _, h => cases h; exact absurd ht (List.not_mem_nil)
    | 57, _, h => cases h; exact absurd ht (List.not_mem_nil)
    | 58, _, h => cases h; exact absurd ht (List.not_mem_nil)
    | 59, _, h => cases h; exact absurd ht (List.not_mem_nil)
    | 4, hj, _ => exact absurd ⟨by decide, by decide⟩ hj
    | 5, hj, _ => exact absurd ⟨by decide, by decide⟩ hj
    | 6, hj, _ => exact absurd ⟨by decide, by decide⟩ hj
    | 7, hj, _ => exact absurd ⟨by decide, by decide⟩ hj
    | 8, hj, _ => exact absurd ⟨by decide, by decide⟩ hj
    | 9, hj, _ => exact absurd ⟨by decide, by decide⟩ hj
    | 10, hj, _ => exact absurd ⟨by decide, by decide⟩ hj
    | 11, hj, _ => exact absurd ⟨by decide, by decide⟩ hj
    | 12, hj, _ => exact absurd ⟨by decide, by decide⟩ hj
    | 13, hj, _ => exact absurd ⟨by decide, by decide⟩ hj
    | 14, hj, _ => exact absurd ⟨by decide, by decide⟩ hj
    | 15, hj, _ => exact absurd ⟨by decide, by decide⟩ hj
    | 16, hj, _ => exact absurd ⟨by decide, by decide⟩ hj
    | 17, hj, _ => exact absurd ⟨by decide, by decide⟩ hj
    | 18, hj, _ => exact absurd ⟨by decide, by decide⟩ hj
    | 19, hj, _ => exact absurd ⟨by decide, by decide⟩ hj
    | 20, hj, _ => exact absurd ⟨by decide, by decide⟩ hj
    | 21, hj, _ => exact absurd ⟨by decide, by decide⟩ hj
    | 22, hj, _ => exact absurd ⟨by decide, by decide⟩ hj
    | 23, hj, _ => exact absurd ⟨by decide, by decide⟩ hj
    | 24, hj, _ => exact absurd ⟨by decide, by decide⟩ hj
    | 25, hj, _ => exact absurd ⟨by decide, by decide⟩ hj
    | 26, hj, _ => exact absurd ⟨by decide, by decide⟩ hj
    | 27, hj, _ => exact absurd ⟨by decide, by decide⟩ hj
    | 28, hj, _ => exact absurd ⟨by decide, by decide⟩ hj
    | 29, hj, _ => exact absurd ⟨by decide, by decide⟩ hj
    | 30, hj, _ => exact absurd ⟨by decide, by decide⟩ hj
    | 31, hj, _ => exact absurd ⟨by decide, by decide⟩ hj
    | 32, hj, _ => exact absurd ⟨by decide, by decide⟩ hj
    | 33, hj, _ => exact absurd ⟨by decide, by decide⟩ hj
    | 34, hj, _ => exact absurd ⟨by decide, by decide⟩ hj
    | 35, hj, _ => exact absurd ⟨by decide, by decide⟩ hj
    | 36, hj, _ => exact absurd ⟨by decide, by decide⟩ hj
    | 37, hj, _ => exact absurd ⟨by decide, by decide⟩ hj
    | 38, hj, _ => exact absurd ⟨by decide, by decide⟩ hj
    | 39, hj, _ => exact absurd ⟨by decide, by decide⟩ hj
    | 40, hj, _ => exact absurd ⟨by decide, by decide⟩ hj
    | 41, hj, _ => exact absurd ⟨by decide, by decide⟩ hj
    | 42, hj, _ => exact absurd ⟨by decide, by decide⟩ hj
    | 43, hj, _ => exact absurd ⟨by decide, by decide⟩ hj
    | 44, hj, _ => exact absurd ⟨by decide, by decide⟩ hj
    | 45, hj, _ => exact absurd ⟨by decide, by decide⟩ hj
    | 46, hj, _ => exact absurd ⟨by decide, by decide⟩ hj
    | 47, hj, _ => exact absurd ⟨by decide, by decide⟩ hj
    | 48, hj, _ => exact absurd ⟨by decide, by decide⟩ hj
    | 49, hj, _ => exact absurd ⟨by decide, by decide⟩ hj
    | 50, hj, _ => exact absurd ⟨by decide, by decide⟩ hj
    | 51, hj, _ => exact absurd ⟨by decide, by decide⟩ hj
    | n + 60, _, h => cases h
theorem ppH_mid (w0 : Bool) (ff : Nat → Int32) (w1 : Bool) (gg : Nat → Int32) (z : PV) : ∀ k, 4 ≤ k → k < 52 → (pY z).1 ((k - 4) / 8) = none → (ppH w0 ff w1 gg z)[muH k]? = some none
  | 0, h, _, _ => absurd h (by decide)
  | 1, h, _, _ => absurd h (by decide)
  | 2, h, _, _ => absurd h (by decide)
  | 3, h, _, _ => absurd h (by decide)
  | 4, _, _, e => by
    show some (Option.map _ ((pY z).1 0)) = some none
    rw [show (pY z).1 0 = none from e]
    rfl
  | 5, _, _, e => by
    show some (Option.map _ ((pY z).1 0)) = some none
    rw [show (pY z).1 0 = none from e]
    rfl
  | 6, _, _, e => by
    show some (Option.map _ ((pY z).1 0)) = some none
    rw [show (pY z).1 0 = none from e]
    rfl
  | 7, _, _, e => by
    show some (Option.map _ ((pY z).1 0)) = some none
    rw [show (pY z).1 0 = none from e]
    rfl
  | 8, _, _, e => by
    show some (Option.map _ ((pY z).1 0)) = some none
    rw [show (pY z).1 0 = none from e]
    rfl
  | 9, _, _, e => by
    show some (Option.map _ ((pY z).1 0)) = some none
    rw [show (pY z).1 0 = none from e]
    rfl
  | 10, _, _, e => by
    show some (Option.map _ ((pY z).1 0)) = some none
    rw [show (pY z).1 0 = none from e]
    rfl
  | 11, _, _, e => by
    show some (Option.map _ ((pY z).1 0)) = some none
    rw [show (pY z).1 0 = none from e]
    rfl
  | 12, _, _, e => by
    show some (Option.map _ ((pY z).1 1)) = some none
    rw [show (pY z).1 1 = none from e]
    rfl
  | 13, _, _, e => by
    show some (Option.map _ ((pY z).1 1)) = some none
    rw [show (pY z).1 1 = none from e]
    rfl
  | 14, _, _, e => by
    show some (Option.map _ ((pY z).1 1)) = some none
    rw [show (pY z).1 1 = none from e]
    rfl
  | 15, _, _, e => by
    show some (Option.map _ ((pY z).1 1)) = some none
    rw [show (pY z).1 1 = none from e]
    rfl
  | 16, _, _, e => by
    show some (Option.map _ ((pY z).1 1)) = some none
    rw [show (pY z).1 1 = none from e]
    rfl
  | 17, _, _, e => by
    show some (Option.map _ ((pY z).1 1)) = some none
    rw [show (pY z).1 1 = none from e]
    rfl
  | 18, _, _, e => by
    show some (Option.map _ ((pY z).1 1)) = some none
    rw [show (pY z).1 1 = none from e]
    rfl
  | 19, _, _, e => by
    show some (Option.map _ ((pY z).1 1)) = some none
    rw [show (pY z).1 1 = none from e]
    rfl
  | 20, _, _, e => by
    show some (Option.map _ ((pY z).1 2)) = some none
    rw [show (pY z).1 2 = none from e]
    rfl
  | 21, _, _, e => by
    show some (Option.map _ ((pY z).1 2)) = some none
    rw [show (pY z).1 2 = none from e]
    rfl
  | 22, _, _, e => by
    show some (Option.map _ ((pY z).1 2)) = some none
    rw [show (pY z).1 2 = none from e]
    rfl
  | 23, _, _, e => by
    show some (Option.map _ ((pY z).1 2)) = some none
    rw [show (pY z).1 2 = none from e]
    rfl
  | 24, _, _, e => by
    show some (Option.map _ ((pY z).1 2)) = some none
    rw [show (pY z).1 2 = none from e]
    rfl
  | 25, _, _, e => by
    show some (Option.map _ ((pY z).1 2)) = some none
    rw [show (pY z).1 2 = none from e]
    rfl
  | 26, _, _, e => by
    show some (Option.map _ ((pY z).1 2)) = some none
    rw [show (pY z).1 2 = none from e]
    rfl
  | 27, _, _, e => by
    show some (Option.map _ ((pY z).1 2)) = some none
    rw [show (pY z).1 2 = none from e]
    rfl
  | 28, _, _, e => by
    show some (Option.map _ ((pY z).1 3)) = some none
    rw [show (pY z).1 3 = none from e]
    rfl
  | 29, _, _, e => by
    show some (Option.map _ ((pY z).1 3)) = some none
    rw [show (pY z).1 3 = none from e]
    rfl
  | 30, _, _, e => by
    show some (Option.map _ ((pY z).1 3)) = some none
    rw [show (pY z).1 3 = none from e]
    rfl
  | 31, _, _, e => by
    show some (Option.map _ ((pY z).1 3)) = some none
    rw [show (pY z).1 3 = none from e]
    rfl
  | 32, _, _, e => by
    show some (Option.map _ ((pY z).1 3)) = some none
    rw [show (pY z).1 3 = none from e]
    rfl
  | 33, _, _, e => by
    show some (Option.map _ ((pY z).1 3)) = some none
    rw [show (pY z).1 3 = none from e]
    rfl
  | 34, _, _, e => by
    show some (Option.map _ ((pY z).1 3)) = some none
    rw [show (pY z).1 3 = none from e]
    rfl
  | 35, _, _, e => by
    show some (Option.map _ ((pY z).1 3)) = some none
    rw [show (pY z).1 3 = none from e]
    rfl
  | 36, _, _, e => by
    show some (Option.map _ ((pY z).1 4)) = some none
    rw [show (pY z).1 4 = none from e]
    rfl
  | 37, _, _, e => by
    show some (Option.map _ ((pY z).1 4)) = some none
    rw [show (pY z).1 4 = none from e]
    rfl
  | 38, _, _, e => by
    show some (Option.map _ ((pY z).1 4)) = some none
    rw [show (pY z).1 4 = none from e]
    rfl
  | 39, _, _, e => by
    show some (Option.map _ ((pY z).1 4)) = some none
    rw [show (pY z).1 4 = none from e]
    rfl
  | 40, _, _, e => by
    show some (Option.map _ ((pY z).1 4)) = some none
    rw [show (pY z).1 4 = none from e]
    rfl
  | 41, _, _, e => by
    show some (Option.map _ ((pY z).1 4)) = some none
    rw [show (pY z).1 4 = none from e]
    rfl
  | 42, _, _, e => by
    show some (Option.map _ ((pY z).1 4)) = some none
    rw [show (pY z).1 4 = none from e]
    rfl
  | 43, _, _, e => by
    show some (Option.map _ ((pY z).1 4)) = some none
    rw [show (pY z).1 4 = none from e]
    rfl
  | 44, _, _, e => by
    show some (Option.map _ ((pY z).1 5)) = some none
    rw [show (pY z).1 5 = none from e]
    rfl
  | 45, _, _, e => by
    show some (Option.map _ ((pY z).1 5)) = some none
    rw [show (pY z).1 5 = none from e]
    rfl
  | 46, _, _, e => by
    show some (Option.map _ ((pY z).1 5)) = some none
    rw [show (pY z).1 5 = none from e]
    rfl
  | 47, _, _, e => by
    show some (Option.map _ ((pY z).1 5)) = some none
    rw [show (pY z).1 5 = none from e]
    rfl
  | 48, _, _, e => by
    show some (Option.map _ ((pY z).1 5)) = some none
    rw [show (pY z).1 5 = none from e]
    rfl
  | 49, _, _, e => by
    show some (Option.map _ ((pY z).1 5)) = some none
    rw [show (pY z).1 5 = none from e]
    rfl
  | 50, _, _, e => by
    show some (Option.map _ ((pY z).1 5)) = some none
    rw [show (pY z).1 5 = none from e]
    rfl
  | 51, _, _, e => by
    show some (Option.map _ ((pY z).1 5)) = some none
    rw [show (pY z).1 5 = none from e]
    rfl
  | n + 52, _, h, _ => absurd h (by omega)
theorem muH_mid : ∀ k, k < 52 → 4 ≤ k → muH k = k + 30 := by decide +kernel
/-- the place k is named in no cell of h -/
def frH (k : Nat) (h : am_H) : Bool := h.all fun o => match o with | none => true | some c => !(am_refs c).contains k
def frL (k : Nat) (L : List (Option Value)) (S : List Value) : Bool := (L.all fun o => match o with | none => true | some v => !(am_vr v).contains k) && (S.all fun v => !(am_vr v).contains k)
theorem free_of {k : Nat} {L : List (Option Value)} {S : List Value} {h : am_H} (h1 : frL k L S = true) (h2 : frH k h = true) : am_free k L S h = true := by
  simp only [frL, Bool.and_eq_true] at h1
  simp only [am_free, Bool.and_eq_true]
  exact ⟨h1.1, h1.2, h2⟩
theorem frH_app (k : Nat) (a b : am_H) (h1 : frH k a = true) (h2 : frH k b = true) : frH k (a ++ b) = true := by
  rw [frH, List.all_append, Bool.and_eq_true]
  exact ⟨h1, h2⟩
theorem frH_cons (k : Nat) (c : am_C) (b : am_H) (h1 : k ∉ am_refs c) (h2 : frH k b = true) : frH k (some c :: b) = true := by
  rw [frH, List.all_cons, Bool.and_eq_true]
  refine ⟨?_, h2⟩
  show (!(am_refs c).contains k) = true
  rw [Bool.not_eq_true', List.contains_eq_mem, decide_eq_false_iff_not]
  exact h1
theorem frH_nil (k : Nat) : frH k [] = true := rfl
theorem frH_ia (k N : Nat) (f : Nat → Int32) (b : am_H) (h2 : frH k b = true) : frH k (some (am_ia N f) :: b) = true := frH_cons k _ b (List.not_mem_nil) h2
theorem frH_stB (k a : Nat) (v : SV) (h : k ≤ a ∨ a + 7 < k) : frH k (stB a v) = true := by
  refine frH_cons k _ _ (fun q => ?_) (frH_ia k _ _ _ (frH_ia k _ _ _ (frH_ia k _ _ _ (frH_ia k _ _ _ (frH_ia k _ _ _ (frH_ia k _ _ _ (frH_ia k _ _ _ (frH_nil k))))))))
  have := stO_rin q
  omega
theorem frH_slB (k a : Nat) (x : Option SV) (h : k ≤ a ∨ a + 7 < k ∨ x = none) : frH k (slB a x) = true := by
  cases x with
  | none => rfl
  | some v => exact frH_stB k a v (by rcases h with h | h | h <;> first | omega | cases h)
theorem frH_smB (k p : Nat) (l : Int32) (ar ta : Nat → Int32) (sh ps : Int32) (h : p + 2 < k) : frH k (smB p l ar ta sh ps) = true := by
  refine frH_cons k _ _ (fun q => ?_) (frH_ia k _ _ _ (frH_ia k _ _ _ (frH_nil k)))
  change k ∈ [p + 1, p + 2] at q
  simp only [List.mem_cons, List.not_mem_nil, or_false] at q
  omega
theorem frH_vwT (k p : Nat) (x : VWt) (h : p + 7 < k) : frH k (vwT p x) = true := by
  refine frH_cons k _ _ (fun q => ?_) (frH_ia k _ _ _ (frH_app k _ _ (frH_smB k _ _ _ _ _ _ (by omega)) (frH_smB k _ _ _ _ _ _ (by omega))))
  change k ∈ [p + 1, p + 2, p + 5] at q
  simp only [List.mem_cons, List.not_mem_nil, or_false] at q
  omega
theorem frH_pdB (k p : Nat) (l : Int32) (t : Nat → Int32) (q : PQ) (h : p + 3 < k) : frH k (pdB p l t q) = true := by
  refine frH_cons k _ _ (fun q => ?_) (frH_cons k _ _ (List.not_mem_nil) (frH_ia k _ _ _ (frH_ia k _ _ _ (frH_nil k))))
  change k ∈ [p + 1, p + 2, p + 3] at q
  simp only [List.mem_cons, List.not_mem_nil, or_false] at q
  omega
theorem frH_hyA (k : Nat) (y : HYt) (h : 34 ≤ k) (hn : ∀ i, i < 6 → k = 34 + 8 * i → y.1 i = none) : frH k (hyA y) = true := by
  refine frH_cons k _ _ (fun q => ?_) (frH_cons k _ _ (fun q => ?_) (frH_nil k))
  · change k ∈ [32] at q
    simp only [List.mem_cons, List.not_mem_nil, or_false] at q
    omega
  · obtain ⟨x, hx, ex⟩ := List.mem_filterMap.mp q
    subst ex
    simp only [List.mem_cons, List.not_mem_nil, or_false, eq_comm (a := some k), Option.map_eq_some_iff] at hx
    rcases hx with ⟨v, e1, e⟩ | ⟨v, e1, e⟩ | ⟨v, e1, e⟩ | ⟨v, e1, e⟩ | ⟨v, e1, e⟩ | ⟨v, e1, e⟩
    · rw [hn 0 (by decide) (by omega)] at e1; cases e1
    · rw [hn 1 (by decide) (by omega)] at e1; cases e1
    · rw [hn 2 (by decide) (by omega)] at e1; cases e1
    · rw [hn 3 (by decide) (by omega)] at e1; cases e1
    · rw [hn 4 (by decide) (by omega)] at e1; cases e1
    · rw [hn 5 (by decide) (by omega)] at e1; cases e1
theorem frH_slA (k : Nat) (x : SLt) (h1 : k = 82 → x.1 = none) (h2 : k = 90 → x.2 = none) : frH k (slA x) = true := by
  refine frH_cons k _ _ (fun q => ?_) (frH_nil k)
  obtain ⟨o, hx, ex⟩ := List.mem_filterMap.mp q
  subst ex
  simp only [List.mem_cons, List.not_mem_nil, or_false, eq_comm (a := some k), Option.map_eq_some_iff] at hx
  rcases hx with ⟨v, e1, e⟩ | ⟨v, e1, e⟩
  · rw [h1 e.symm] at e1; cases e1
  · rw [h2 e.symm] at e1; cases e1
theorem frH_pp (w0 : Bool) (ff : Nat → Int32) (w1 : Bool) (gg : Nat → Int32) (z : PV) (k : Nat) (h : 34 ≤ k) (hn : ∀ i, i < 6 → 34 + 8 * i ≤ k → k < 42 + 8 * i → (pY z).1 i = none) (h1 : 82 ≤ k → k < 90 → (pL z).1 = none) (h2 : 90 ≤ k → k < 98 → (pL z).2 = none) : frH k (ppH w0 ff w1 gg z) = true := by
  have blk : ∀ i, i < 6 → k ≤ 34 + 8 * i ∨ 34 + 8 * i + 7 < k ∨ (pY z).1 i = none := by
    intro i hi
    by_cases q : 34 + 8 * i ≤ k ∧ k < 42 + 8 * i
    · exact Or.inr (Or.inr (hn i hi q.1 q.2))
    · omega
  refine frH_cons k _ _ (List.not_mem_nil) (frH_cons k _ _ (List.not_mem_nil) (frH_cons k _ _ (fun q => ?_) ?_))
  · change k ∈ [3, 11, 19, 27, 31, 33] at q
    simp only [List.mem_cons, List.not_mem_nil, or_false] at q
    omega
  refine frH_app k _ _ (frH_stB k _ _ (by omega)) (frH_app k _ _ (frH_stB k _ _ (by omega)) (frH_app k _ _ (frH_vwT k _ _ (by omega)) (frH_app k _ _ (frH_pdB k _ _ _ _ (by omega)) (frH_app k _ _ (frH_hyA k _ h (fun i hi e => hn i hi (by omega) (by omega))) (frH_app k _ _ (frH_slA k _ (fun e => h1 (by omega) (by omega)) (fun e => h2 (by omega) (by omega))) ?_)))))
  refine frH_app k _ _ (frH_slB k _ _ (blk 0 (by decide))) (frH_app k _ _ (frH_slB k _ _ (blk 1 (by decide))) (frH_app k _ _ (frH_slB k _ _ (blk 2 (by decide))) (frH_app k _ _ (frH_slB k _ _ (blk 3 (by decide))) (frH_app k _ _ (frH_slB k _ _ (blk 4 (by decide))) (frH_app k _ _ (frH_slB k _ _ (blk 5 (by decide))) (frH_app k _ _ (frH_slB k _ _ ?_) (frH_slB k _ _ ?_)))))))
  · by_cases q : 82 ≤ k ∧ k < 90
    · exact Or.inr (Or.inr (h1 q.1 q.2))
    · omega
  · by_cases q : 90 ≤ k ∧ k < 98
    · exact Or.inr (Or.inr (h2 q.1 q.2))
    · omega
/-- what a call of the History leaves fits beside the whole -/
theorem backH (w0 : Bool) (ff : Nat → Int32) (w1 : Bool) (gg : Nat → Int32) (z : PV) {L : List (Option Value)} {S : List Value} (hf : (List.range' 34 48).all (fun k => frL k L S) = true) (o' : Nat → Option SV) (nx' kp' : Int32) (v' : SV) (hm : ∀ i, o' i = none → (pY z).1 i = none) : am_back muH (hyF w0 ff (pY z).1 (nI (pY z).2.1) (nI (pY z).2.2) (pN z)) none (hyF w0 ff o' nx' kp' v') L S (ppH w0 ff w1 gg z) := by
  refine ⟨fun j c h => hyF_keep hm j c h, fun i j c d hi hj e => ?_, fun j h => ?_⟩
  · exact (am_okmu_inj (okH (p := am_pat (hyF w0 ff o' nx' kp' v')) (patH_len ..))).2 i j _ _ (am_pat_some hi) (am_pat_some hj) e
  · obtain ⟨h1, h2, h3⟩ := hyF_new h
    have em : muH j = j + 30 := muH_mid j h2 h1
    refine ⟨ppH_mid w0 ff w1 gg z j h1 h2 h3, by omega, ?_, ?_⟩
    · rw [em]
      refine free_of (List.all_eq_true.mp hf (j + 30) (List.mem_range'_1.mpr ⟨by omega, by omega⟩)) (frH_pp w0 ff w1 gg z (j + 30) (by omega) (fun i hi q1 q2 => ?_) (by omega) (by omega))
      rw [show i = (j - 4) / 8 by omega]
      exact h3
    · intro t ht e
      rcases ht with ht | ⟨i, c, hi, ht⟩
      · exact absurd ht (List.not_mem_nil)
      · have h4 := hyF_ref i c t hi ht
        rcases Nat.lt_trichotomy t j with q | q | q
        · exact absurd e (muH_inj t j q (by omega) h4.1)
        · exact q
        · exact absurd e.symm (muH_inj j t q h4.2 (by omega))
/-- the next place of the ring; the history behind a record; the latest place -/
def nx1 (m : Nat) : Nat := if m < 5 then m + 1 else 0
def lat (m : Nat) : Nat := if m = 0 then 5 else m - 1
def rcY (y : HYt) (v : SV) : HYt := (fun i => if i = y.2.1 then some v else y.1 i, nx1 y.2.1, kp1 y.2.2)
def rcZ (z : PV) : PV := sY z (rcY (pY z) (pN z))
def tbZ (z : PV) (u : SV) : PV := sN (sY z ((pY z).1, lat (pY z).2.1, (pY z).2.2 - 1)) u
theorem am_eq_sp {M : am_M} {as : List Value} {h h' k k' : am_H} (sp : am_Sp M as h (am_vp k)) (e : h' = h) (e' : k' = k) : am_Sp M as h' (am_vp k') := by
  subst e
  subst e'
  exact sp
theorem sX1_recordF (w : Bool) (ff : Nat → Int32) (y : HYt) (hn : y.2.1 < 6) (hk : y.2.2 ≤ 6) (v : SV) : am_Sp mX1_record [.ref 2, .ref 52] (hyF w ff y.1 (nI y.2.1) (nI y.2.2) v) (am_vp (hyF w ff (rcY y v).1 (nI (rcY y v).2.1) (nI (rcY y v).2.2) v)) := by
  obtain ⟨o, nx, m⟩ := y
  rcases (show nx = 0 ∨ nx = 1 ∨ nx = 2 ∨ nx = 3 ∨ nx = 4 ∨ nx = 5 by have : nx < 6 := hn; omega) with rfl | rfl | rfl | rfl | rfl | rfl
  · cases e : o 0 with
    | none =>
      have h := sX1_record_0n w ff (o 1) (o 2) (o 3) (o 4) (o 5) m hk v
      exact am_eq_sp h (by show hy6 w ff (o 0) (o 1) (o 2) (o 3) (o 4) (o 5) _ _ v = _; rw [e]) (by rfl)
    | some u =>
      have h := sX1_record_0s w ff (o 1) (o 2) (o 3) (o 4) (o 5) u m hk v
      exact am_eq_sp h (by show hy6 w ff (o 0) (o 1) (o 2) (o 3) (o 4) (o 5) _ _ v = _; rw [e]) (by rfl)
  · cases e : o 1 with
    | none =>
      have h := sX1_record_1n w ff (o 0) (o 2) (o 3) (o 4) (o 5) m hk v
      exact am_eq_sp h (by show hy6 w ff (o 0) (o 1) (o 2) (o 3) (o 4) (o 5) _ _ v = _; rw [e]) (by rfl)
    | some u =>
      have h := sX1_record_1s w ff (o 0) (o 2) (o 3) (o 4) (o 5) u m hk v
      exact am_eq_sp h (by show hy6 w ff (o 0) (o 1) (o 2) (o 3) (o 4) (o 5) _ _ v = _; rw [e]) (by rfl)
  · cases e : o 2 with
    | none =>
      have h := sX1_record_2n w ff (o 0) (o 1) (o 3) (o 4) (o 5) m hk v
      exact am_eq_sp h (by show hy6 w ff (o 0) (o 1) (o 2) (o 3) (o 4) (o 5) _ _ v = _; rw [e]) (by rfl)
    | some u =>
      have h := sX1_record_2s w ff (o 0) (o 1) (o 3) (o 4) (o 5) u m hk v
      exact am_eq_sp h (by show hy6 w ff (o 0) (o 1) (o 2) (o 3) (o 4) (o 5) _ _ v = _; rw [e]) (by rfl)
  · cases e : o 3 with
    | none =>
      have h := sX1_record_3n w ff (o 0) (o 1) (o 2) (o 4) (o 5) m hk v
      exact am_eq_sp h (by show hy6 w ff (o 0) (o 1) (o 2) (o 3) (o 4) (o 5) _ _ v = _; rw [e]) (by rfl)
    | some u =>
      have h := sX1_record_3s w ff (o 0) (o 1) (o 2) (o 4) (o 5) u m hk v
      exact am_eq_sp h (by show hy6 w ff (o 0) (o 1) (o 2) (o 3) (o 4) (o 5) _ _ v = _; rw [e]) (by rfl)
  · cases e : o 4 with
    | none =>
      have h := sX1_record_4n w ff (o 0) (o 1) (o 2) (o 3) (o 5) m hk v
      exact am_eq_sp h (by show hy6 w ff (o 0) (o 1) (o 2) (o 3) (o 4) (o 5) _ _ v = _; rw [e]) (by rfl)
    | some u =>
      have h := sX1_record_4s w ff (o 0) (o 1) (o 2) (o 3) (o 5) u m hk v
      exact am_eq_sp h (by show hy6 w ff (o 0) (o 1) (o 2) (o 3) (o 4) (o 5) _ _ v = _; rw [e]) (by rfl)
  · cases e : o 5 with
    | none =>
      have h := sX1_record_5n w ff (o 0) (o 1) (o 2) (o 3) (o 4) m hk v
      rw [← nI_0] at h
      exact am_eq_sp h (by show hy6 w ff (o 0) (o 1) (o 2) (o 3) (o 4) (o 5) _ _ v = _; rw [e]) (by rfl)
    | some u =>
      have h := sX1_record_5s w ff (o 0) (o 1) (o 2) (o 3) (o 4) u m hk v
      rw [← nI_0] at h
      exact am_eq_sp h (by show hy6 w ff (o 0) (o 1) (o 2) (o 3) (o 4) (o 5) _ _ v = _; rw [e]) (by rfl)
theorem sX1_takeBackF (w : Bool) (ff : Nat → Int32) (y : HYt) (hn : y.2.1 < 6) (hk : y.2.2 ≤ 6) (h1 : 1 ≤ y.2.2) (u : SV) (hu : y.1 (lat y.2.1) = some u) (v : SV) : am_Sp mX1_takeBack [.ref 2, .ref 52] (hyF w ff y.1 (nI y.2.1) (nI y.2.2) v) (am_vp (hyF w ff y.1 (nI (lat y.2.1)) (nI (y.2.2 - 1)) u)) := by
  obtain ⟨o, nx, m⟩ := y
  obtain ⟨m, rfl⟩ : ∃ k, m = k + 1 := ⟨m - 1, by have : 1 ≤ m := h1; omega⟩
  rcases (show nx = 0 ∨ nx = 1 ∨ nx = 2 ∨ nx = 3 ∨ nx = 4 ∨ nx = 5 by have : nx < 6 := hn; omega) with rfl | rfl | rfl | rfl | rfl | rfl
  · have h := sX1_takeBack_0 w ff (o 0) (o 1) (o 2) (o 3) (o 4) u m (by have : m + 1 ≤ 6 := hk; omega) v
    exact am_eq_sp h (by show hy6 w ff (o 0) (o 1) (o 2) (o 3) (o 4) (o 5) _ _ v = _; rw [show o 5 = some u from hu]) (by show hy6 w ff (o 0) (o 1) (o 2) (o 3) (o 4) (o 5) _ _ u = _; rw [show o 5 = some u from hu]; rfl)
  · have h := sX1_takeBack_1 w ff (o 1) (o 2) (o 3) (o 4) (o 5) u m (by have : m + 1 ≤ 6 := hk; omega) v
    exact am_eq_sp h (by show hy6 w ff (o 0) (o 1) (o 2) (o 3) (o 4) (o 5) _ _ v = _; rw [show o 0 = some u from hu]) (by show hy6 w ff (o 0) (o 1) (o 2) (o 3) (o 4) (o 5) _ _ u = _; rw [show o 0 = some u from hu]; rfl)
  · have h := sX1_takeBack_2 w ff (o 0) (o 2) (o 3) (o 4) (o 5) u m (by have : m + 1 ≤ 6 := hk; omega) v
    exact am_eq_sp h (by show hy6 w ff (o 0) (o 1) (o 2) (o 3) (o 4) (o 5) _ _ v = _; rw [show o 1 = some u from hu]) (by show hy6 w ff (o 0) (o 1) (o 2) (o 3) (o 4) (o 5) _ _ u = _; rw [show o 1 = some u from hu]; rfl)
  · have h := sX1_takeBack_3 w ff (o 0) (o 1) (o 3) (o 4) (o 5) u m (by have : m + 1 ≤ 6 := hk; omega) v
    exact am_eq_sp h (by show hy6 w ff (o 0) (o 1) (o 2) (o 3) (o 4) (o 5) _ _ v = _; rw [show o 2 = some u from hu]) (by show hy6 w ff (o 0) (o 1) (o 2) (o 3) (o 4) (o 5) _ _ u = _; rw [show o 2 = some u from hu]; rfl)
  · have h := sX1_takeBack_4 w ff (o 0) (o 1) (o 2) (o 4) (o 5) u m (by have : m + 1 ≤ 6 := hk; omega) v
    exact am_eq_sp h (by show hy6 w ff (o 0) (o 1) (o 2) (o 3) (o 4) (o 5) _ _ v = _; rw [show o 3 = some u from hu]) (by show hy6 w ff (o 0) (o 1) (o 2) (o 3) (o 4) (o 5) _ _ u = _; rw [show o 3 = some u from hu]; rfl)
  · have h := sX1_takeBack_5 w ff (o 0) (o 1) (o 2) (o 3) (o 5) u m (by have : m + 1 ≤ 6 := hk; omega) v
    exact am_eq_sp h (by show hy6 w ff (o 0) (o 1) (o 2) (o 3) (o 4) (o 5) _ _ v = _; rw [show o 4 = some u from hu]) (by show hy6 w ff (o 0) (o 1) (o 2) (o 3) (o 4) (o 5) _ _ u = _; rw [show o 4 = some u from hu]; rfl)
theorem ar_rec {M : am_M} {h0 : am_H} {P : Option Value → am_H → Prop} {kc ks pc idx : Nat} {L : List (Option Value)} {S : List Value} {w0 : Bool} {ff : Nat → Int32} {w1 : Bool} {gg : Nat → Int32} {z : PV} (d : decode (am_b M) pc = .ok (.invokevirtual idx, 3)) (lk : Cond.methodLink (am_y M).cls idx (am_y mX1_record) ∈ am_ws ∧ Cond.instanceMethod (am_y mX1_record) ∈ am_ws ∧ Cond.selects (am_y mX1_record).cls (am_y mX1_record) (am_y mX1_record) ∈ am_ws) (hlv : (am_lv mX1_record + 1).ble (am_lv M) = true) (hcat : ((S.map Value.category).sum).ble 8 = true) (hc : (kc + am_nc mX1_record).ble (am_nc M) = true) (hs : (ks + am_ns mX1_record).ble (am_ns M) = true) (hf : (List.range' 34 48).all (fun k => frL k L S) = true) (hn : (pY z).2.1 < 6) (hk : (pY z).2.2 ≤ 6) (k : am_RW M h0 P (kc + am_nc mX1_record) (ks + am_ns mX1_record) (pc + 3) L S (ppH w0 ff w1 gg (rcZ z))) : am_RW M h0 P kc ks pc L (.ref 3 :: .ref 31 :: S) (ppH w0 ff w1 gg z) := by
  have hpl := plH w0 ff w1 gg z
  have hp0 : am_pat (hyF w0 ff (pY z).1 (nI (pY z).2.1) (nI (pY z).2.2) (pN z)) = _ := rfl
  refine ar_call (μ := muH) (S := S) (ar_rV (as := [.ref 52]) d cal_X1_record lk hlv (sX1_recordF w0 ff (pY z) hn hk (pN z)) rfl rfl rfl rfl hcat (okH (patH_len ..)) hp0 hpl) (Nat.le_of_ble_eq_true hc) (Nat.le_of_ble_eq_true hs) (am_subp (p0 := am_pat (hyF w0 ff (pY z).1 (nI (pY z).2.1) (nI (pY z).2.2) (pN z))) hpl) (fun r h1 hp => ?_)
  obtain ⟨rfl, rfl⟩ := hp
  refine ⟨backH w0 ff w1 gg z hf _ _ _ _ (fun i e => ?_), ?_⟩
  · change (if i = (pY z).2.1 then some (pN z) else (pY z).1 i) = none at e
    by_cases q : i = (pY z).2.1
    · rw [if_pos q] at e; cases e
    · rw [if_neg q] at e; exact e
  · rw [mP_H w0 ff w1 gg z (rcY (pY z) (pN z)).1 (rcY (pY z) (pN z)).2.1 (rcY (pY z) (pN z)).2.2 (pN z) (fun i e => by
      change (if i = (pY z).2.1 then some (pN z) else (pY z).1 i) = none at e
      by_cases q : i = (pY z).2.1
      · rw [if_pos q] at e; cases e
      · rw [if_neg q] at e; exact e)]
    exact k
theorem ar_tb {M : am_M} {h0 : am_H} {P : Option Value → am_H → Prop} {kc ks pc idx : Nat} {L : List (Option Value)} {S : List Value} {w0 : Bool} {ff : Nat → Int32} {w1 : Bool} {gg : Nat → Int32} {z : PV} (d : decode (am_b M) pc = .ok (.invokevirtual idx, 3)) (lk : Cond.methodLink (am_y M).cls idx (am_y mX1_takeBack) ∈ am_ws ∧ Cond.instanceMethod (am_y mX1_takeBack) ∈ am_ws ∧ Cond.selects (am_y mX1_takeBack).cls (am_y mX1_takeBack) (am_y mX1_takeBack) ∈ am_ws) (hlv : (am_lv mX1_takeBack + 1).ble (am_lv M) = true) (hcat : ((S.map Value.category).sum).ble 8 = true) (hc : (kc + am_nc mX1_takeBack).ble (am_nc M) = true) (hs : (ks + am_ns mX1_takeBack).ble (am_ns M) = true) (hf : (List.range' 34 48).all (fun k => frL k L S) = true) (hn : (pY z).2.1 < 6) (hk : (pY z).2.2 ≤ 6) (h1 : 1 ≤ (pY z).2.2) (u : SV) (hu : (pY z).1 (lat (pY z).2.1) = some u) (k : am_RW M h0 P (kc + am_nc mX1_takeBack) (ks + am_ns mX1_takeBack) (pc + 3) L S (ppH w0 ff w1 gg (tbZ z u))) : am_RW M h0 P kc ks pc L (.ref 3 :: .ref 31 :: S) (ppH w0 ff w1 gg z) := by
  have hpl := plH w0 ff w1 gg z
  have hp0 : am_pat (hyF w0 ff (pY z).1 (nI (pY z).2.1) (nI (pY z).2.2) (pN z)) = _ := rfl
  refine ar_call (μ := muH) (S := S) (ar_rV (as := [.ref 52]) d cal_X1_takeBack lk hlv (sX1_takeBackF w0 ff (pY z) hn hk h1 u hu (pN z)) rfl rfl rfl rfl hcat (okH (patH_len ..)) hp0 hpl) (Nat.le_of_ble_eq_true hc) (Nat.le_of_ble_eq_true hs) (am_subp (p0 := am_pat (hyF w0 ff (pY z).1 (nI (pY z).2.1) (nI (pY z).2.2) (pN z))) hpl) (fun r h1 hp => ?_)
  obtain ⟨rfl, rfl⟩ := hp
  refine ⟨backH w0 ff w1 gg z hf _ _ _ _ (fun i e => e), ?_⟩
  rw [mP_H w0 ff w1 gg z (pY z).1 (lat (pY z).2.1) ((pY z).2.2 - 1) u (fun i e => e)]
  exact k
