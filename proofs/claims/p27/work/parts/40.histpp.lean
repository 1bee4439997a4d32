/-! the History beside the whole -/
abbrev muH : Nat → Nat := am_mu [0, 1, 31, 32, 34, 35, 36, 37, 38, 39, 40, 41, 42, 43, 44, 45, 46, 47, 48, 49, 50, 51, 52, 53, 54, 55, 56, 57, 58, 59, 60, 61, 62, 63, 64, 65, 66, 67, 68, 69, 70, 71, 72, 73, 74, 75, 76, 77, 78, 79, 80, 81, 3, 4, 5, 6, 7, 8, 9, 10]
theorem muH_inj : ∀ a b, a < b → b < 60 → 2 ≤ a → muH a ≠ muH b := by
  have h : ∀ b, b < 60 → ∀ a, a < b → 2 ≤ a → muH a ≠ muH b := by decide +kernel
  exact fun a b h1 h2 h3 => h b h2 a h1 h3
theorem hyT_none (w0 : Bool) (ff : Nat → Int32) (w1 : Bool) (gg : Nat → Int32) (z : PV) (o : Nat → Option SV) (nx kp : Nat) (v : SV) (hh : ∀ k, o k = none → (pY z).1 k = none) : ∀ i, ((some (am_oj 0 [.ref 3, .int (nI nx), .int (nI kp)]) :: some (.inr (.inr (2, [(o 0).map (fun _ => 4), (o 1).map (fun _ => 12), (o 2).map (fun _ => 20), (o 3).map (fun _ => 28), (o 4).map (fun _ => 36), (o 5).map (fun _ => 44)]))) :: (slB 4 (o 0) ++ (slB 12 (o 1) ++ (slB 20 (o 2) ++ (slB 28 (o 3) ++ (slB 36 (o 4) ++ (slB 44 (o 5) ++ stB 52 v))))))) : am_H)[i]? = some none → (ppH w0 ff w1 gg z)[muH (2 + i)]? = some none
  | 0, e => by cases e
  | 1, e => by cases e
  | 2, e => by
    have q := Option.map_eq_none_iff.mp (Option.some.inj e)
    show some (Option.map _ ((pY z).1 0)) = some none
    rw [hh 0 q]
    rfl
  | 3, e => by
    have q := Option.map_eq_none_iff.mp (Option.some.inj e)
    show some (Option.map _ ((pY z).1 0)) = some none
    rw [hh 0 q]
    rfl
  | 4, e => by
    have q := Option.map_eq_none_iff.mp (Option.some.inj e)
    show some (Option.map _ ((pY z).1 0)) = some none
    rw [hh 0 q]
    rfl
  | 5, e => by
    have q := Option.map_eq_none_iff.mp (Option.some.inj e)
    show some (Option.map _ ((pY z).1 0)) = some none
    rw [hh 0 q]
    rfl
  | 6, e => by
    have q := Option.map_eq_none_iff.mp (Option.some.inj e)
    show some (Option.map _ ((pY z).1 0)) = some none
    rw [hh 0 q]
    rfl
  | 7, e => by
    have q := Option.map_eq_none_iff.mp (Option.some.inj e)
    show some (Option.map _ ((pY z).1 0)) = some none
    rw [hh 0 q]
    rfl
  | 8, e => by
    have q := Option.map_eq_none_iff.mp (Option.some.inj e)
    show some (Option.map _ ((pY z).1 0)) = some none
    rw [hh 0 q]
    rfl
  | 9, e => by
    have q := Option.map_eq_none_iff.mp (Option.some.inj e)
    show some (Option.map _ ((pY z).1 0)) = some none
    rw [hh 0 q]
    rfl
  | 10, e => by
    have q := Option.map_eq_none_iff.mp (Option.some.inj e)
    show some (Option.map _ ((pY z).1 1)) = some none
    rw [hh 1 q]
    rfl
  | 11, e => by
    have q := Option.map_eq_none_iff.mp (Option.some.inj e)
    show some (Option.map _ ((pY z).1 1)) = some none
    rw [hh 1 q]
    rfl
  | 12, e => by
    have q := Option.map_eq_none_iff.mp (Option.some.inj e)
    show some (Option.map _ ((pY z).1 1)) = some none
    rw [hh 1 q]
    rfl
  | 13, e => by
    have q := Option.map_eq_none_iff.mp (Option.some.inj e)
    show some (Option.map _ ((pY z).1 1)) = some none
    rw [hh 1 q]
    rfl
  | 14, e => by
    have q := Option.map_eq_none_iff.mp (Option.some.inj e)
    show some (Option.map _ ((pY z).1 1)) = some none
    rw [hh 1 q]
    rfl
  | 15, e => by
    have q := Option.map_eq_none_iff.mp (Option.some.inj e)
    show some (Option.map _ ((pY z).1 1)) = some none
    rw [hh 1 q]
    rfl
  | 16, e => by
    have q := Option.map_eq_none_iff.mp (Option.some.inj e)
    show some (Option.map _ ((pY z).1 1)) = some none
    rw [hh 1 q]
    rfl
  | 17, e => by
    have q := Option.map_eq_none_iff.mp (Option.some.inj e)
    show some (Option.map _ ((pY z).1 1)) = some none
    rw [hh 1 q]
    rfl
  | 18, e => by
    have q := Option.map_eq_none_iff.mp (Option.some.inj e)
    show some (Option.map _ ((pY z).1 2)) = some none
    rw [hh 2 q]
    rfl
  | 19, e => by
    have q := Option.map_eq_none_iff.mp (Option.some.inj e)
    show some (Option.map _ ((pY z).1 2)) = some none
    rw [hh 2 q]
    rfl
  | 20, e => by
    have q := Option.map_eq_none_iff.mp (Option.some.inj e)
    show some (Option.map _ ((pY z).1 2)) = some none
    rw [hh 2 q]
    rfl
  | 21, e => by
    have q := Option.map_eq_none_iff.mp (Option.some.inj e)
    show some (Option.map _ ((pY z).1 2)) = some none
    rw [hh 2 q]
    rfl
  | 22, e => by
    have q := Option.map_eq_none_iff.mp (Option.some.inj e)
    show some (Option.map _ ((pY z).1 2)) = some none
    rw [hh 2 q]
    rfl
  | 23, e => by
    have q := Option.map_eq_none_iff.mp (Option.some.inj e)
    show some (Option.map _ ((pY z).1 2)) = some none
    rw [hh 2 q]
    rfl
  | 24, e => by
    have q := Option.map_eq_none_iff.mp (Option.some.inj e)
    show some (Option.map _ ((pY z).1 2)) = some none
    rw [hh 2 q]
    rfl
  | 25, e => by
    have q := Option.map_eq_none_iff.mp (Option.some.inj e)
    show some (Option.map _ ((pY z).1 2)) = some none
    rw [hh 2 q]
    rfl
  | 26, e => by
    have q := Option.map_eq_none_iff.mp (Option.some.inj e)
    show some (Option.map _ ((pY z).1 3)) = some none
    rw [hh 3 q]
    rfl
  | 27, e => by
    have q := Option.map_eq_none_iff.mp (Option.some.inj e)
    show some (Option.map _ ((pY z).1 3)) = some none
    rw [hh 3 q]
    rfl
  | 28, e => by
    have q := Option.map_eq_none_iff.mp (Option.some.inj e)
    show some (Option.map _ ((pY z).1 3)) = some none
    rw [hh 3 q]
    rfl
  | 29, e => by
    have q := Option.map_eq_none_iff.mp (Option.some.inj e)
    show some (Option.map _ ((pY z).1 3)) = some none
    rw [hh 3 q]
    rfl
  | 30, e => by
    have q := Option.map_eq_none_iff.mp (Option.some.inj e)
    show some (Option.map _ ((pY z).1 3)) = some none
    rw [hh 3 q]
    rfl
  | 31, e => by
    have q := Option.map_eq_none_iff.mp (Option.some.inj e)
    show some (Option.map _ ((pY z).1 3)) = some none
    rw [hh 3 q]
    rfl
  | 32, e => by
    have q := Option.map_eq_none_iff.mp (Option.some.inj e)
    show some (Option.map _ ((pY z).1 3)) = some none
    rw [hh 3 q]
    rfl
  | 33, e => by
    have q := Option.map_eq_none_iff.mp (Option.some.inj e)
    show some (Option.map _ ((pY z).1 3)) = some none
    rw [hh 3 q]
    rfl
  | 34, e => by
    have q := Option.map_eq_none_iff.mp (Option.some.inj e)
    show some (Option.map _ ((pY z).1 4)) = some none
    rw [hh 4 q]
    rfl
  | 35, e => by
    have q := Option.map_eq_none_iff.mp (Option.some.inj e)
    show some (Option.map _ ((pY z).1 4)) = some none
    rw [hh 4 q]
    rfl
  | 36, e => by
    have q := Option.map_eq_none_iff.mp (Option.some.inj e)
    show some (Option.map _ ((pY z).1 4)) = some none
    rw [hh 4 q]
    rfl
  | 37, e => by
    have q := Option.map_eq_none_iff.mp (Option.some.inj e)
    show some (Option.map _ ((pY z).1 4)) = some none
    rw [hh 4 q]
    rfl
  | 38, e => by
    have q := Option.map_eq_none_iff.mp (Option.some.inj e)
    show some (Option.map _ ((pY z).1 4)) = some none
    rw [hh 4 q]
    rfl
  | 39, e => by
    have q := Option.map_eq_none_iff.mp (Option.some.inj e)
    show some (Option.map _ ((pY z).1 4)) = some none
    rw [hh 4 q]
    rfl
  | 40, e => by
    have q := Option.map_eq_none_iff.mp (Option.some.inj e)
    show some (Option.map _ ((pY z).1 4)) = some none
    rw [hh 4 q]
    rfl
  | 41, e => by
    have q := Option.map_eq_none_iff.mp (Option.some.inj e)
    show some (Option.map _ ((pY z).1 4)) = some none
    rw [hh 4 q]
    rfl
  | 42, e => by
    have q := Option.map_eq_none_iff.mp (Option.some.inj e)
    show some (Option.map _ ((pY z).1 5)) = some none
    rw [hh 5 q]
    rfl
  | 43, e => by
    have q := Option.map_eq_none_iff.mp (Option.some.inj e)
    show some (Option.map _ ((pY z).1 5)) = some none
    rw [hh 5 q]
    rfl
  | 44, e => by
    have q := Option.map_eq_none_iff.mp (Option.some.inj e)
    show some (Option.map _ ((pY z).1 5)) = some none
    rw [hh 5 q]
    rfl
  | 45, e => by
    have q := Option.map_eq_none_iff.mp (Option.some.inj e)
    show some (Option.map _ ((pY z).1 5)) = some none
    rw [hh 5 q]
    rfl
  | 46, e => by
    have q := Option.map_eq_none_iff.mp (Option.some.inj e)
    show some (Option.map _ ((pY z).1 5)) = some none
    rw [hh 5 q]
    rfl
  | 47, e => by
    have q := Option.map_eq_none_iff.mp (Option.some.inj e)
    show some (Option.map _ ((pY z).1 5)) = some none
    rw [hh 5 q]
    rfl
  | 48, e => by
    have q := Option.map_eq_none_iff.mp (Option.some.inj e)
    show some (Option.map _ ((pY z).1 5)) = some none
    rw [hh 5 q]
    rfl
  | 49, e => by
    have q := Option.map_eq_none_iff.mp (Option.some.inj e)
    show some (Option.map _ ((pY z).1 5)) = some none
    rw [hh 5 q]
    rfl
  | 50, e => by cases e
  | 51, e => by cases e
  | 52, e => by cases e
  | 53, e => by cases e
  | 54, e => by cases e
  | 55, e => by cases e
  | 56, e => by cases e
  | 57, e => by cases e
  | n + 58, e => by cases e
theorem mP_H (w0 : Bool) (ff : Nat → Int32) (w1 : Bool) (gg : Nat → Int32) (z : PV) (o : Nat → Option SV) (nx kp : Nat) (v : SV) (hh : ∀ k, o k = none → (pY z).1 k = none) : am_mrg muH 0 (hy6 w0 ff (o 0) (o 1) (o 2) (o 3) (o 4) (o 5) (nI nx) (nI kp) v) (ppH w0 ff w1 gg z) = ppH w0 ff w1 gg (sN (sY z (o, nx, kp)) v) := by
  show am_mrg muH 2 (some (am_oj 0 [.ref 3, .int (nI nx), .int (nI kp)]) :: some (.inr (.inr (2, [(o 0).map (fun _ => 4), (o 1).map (fun _ => 12), (o 2).map (fun _ => 20), (o 3).map (fun _ => 28), (o 4).map (fun _ => 36), (o 5).map (fun _ => 44)]))) :: (slB 4 (o 0) ++ (slB 12 (o 1) ++ (slB 20 (o 2) ++ (slB 28 (o 3) ++ (slB 36 (o 4) ++ (slB 44 (o 5) ++ stB 52 v))))))) (ppH w0 ff w1 gg z) = _
  rw [am_ms_of (μ := muH) (some (am_oj 0 [.ref 3, .int (nI nx), .int (nI kp)]) :: some (.inr (.inr (2, [(o 0).map (fun _ => 4), (o 1).map (fun _ => 12), (o 2).map (fun _ => 20), (o 3).map (fun _ => 28), (o 4).map (fun _ => 36), (o 5).map (fun _ => 44)]))) :: (slB 4 (o 0) ++ (slB 12 (o 1) ++ (slB 20 (o 2) ++ (slB 28 (o 3) ++ (slB 36 (o 4) ++ (slB 44 (o 5) ++ stB 52 v))))))) 2 (ppH w0 ff w1 gg z) (fun a b h1 h2 h3 => muH_inj a b h1 h2 h3) (hyT_none w0 ff w1 gg z o nx kp v hh)]
  show ((((((((((((((((((((((((((((((((((((((((((((((((((((((((((ppH w0 ff w1 gg z).set 31 (Option.map (am_rc muH) (some (am_oj 0 [.ref 3, .int (nI nx), .int (nI kp)])))).set 32 (some (.inr (.inr (2, [Option.map muH (Option.map (fun _ => 4) (o 0)), Option.map muH (Option.map (fun _ => 12) (o 1)), Option.map muH (Option.map (fun _ => 20) (o 2)), Option.map muH (Option.map (fun _ => 28) (o 3)), Option.map muH (Option.map (fun _ => 36) (o 4)), Option.map muH (Option.map (fun _ => 44) (o 5))]))))).set 34 (Option.map (am_rc muH) (Option.map (fun v => stO 5 v) (o 0)))).set 35 (Option.map (am_rc muH) (Option.map (fun v => am_ia 6 (vS v)) (o 0)))).set 36 (Option.map (am_rc muH) (Option.map (fun v => am_ia 8 (vH v)) (o 0)))).set 37 (Option.map (am_rc muH) (Option.map (fun v => am_ia 8 (vP v)) (o 0)))).set 38 (Option.map (am_rc muH) (Option.map (fun v => am_ia 8 (vT v)) (o 0)))).set 39 (Option.map (am_rc muH) (Option.map (fun v => am_ia 8 (vF v)) (o 0)))).set 40 (Option.map (am_rc muH) (Option.map (fun v => am_ia 8 (vI v)) (o 0)))).set 41 (Option.map (am_rc muH) (Option.map (fun v => am_ia 8 (vL v)) (o 0)))).set 42 (Option.map (am_rc muH) (Option.map (fun v => stO 13 v) (o 1)))).set 43 (Option.map (am_rc muH) (Option.map (fun v => am_ia 6 (vS v)) (o 1)))).set 44 (Option.map (am_rc muH) (Option.map (fun v => am_ia 8 (vH v)) (o 1)))).set 45 (Option.map (am_rc muH) (Option.map (fun v => am_ia 8 (vP v)) (o 1)))).set 46 (Option.map (am_rc muH) (Option.map (fun v => am_ia 8 (vT v)) (o 1)))).set 47 (Option.map (am_rc muH) (Option.map (fun v => am_ia 8 (vF v)) (o 1)))).set 48 (Option.map (am_rc muH) (Option.map (fun v => am_ia 8 (vI v)) (o 1)))).set 49 (Option.map (am_rc muH) (Option.map (fun v => am_ia 8 (vL v)) (o 1)))).set 50 (Option.map (am_rc muH) (Option.map (fun v => stO 21 v) (o 2)))).set 51 (Option.map (am_rc muH) (Option.map (fun v => am_ia 6 (vS v)) (o 2)))).set 52 (Option.map (am_rc muH) (Option.map (fun v => am_ia 8 (vH v)) (o 2)))).set 53 (Option.map (am_rc muH) (Option.map (fun v => am_ia 8 (vP v)) (o 2)))).set 54 (Option.map (am_rc muH) (Option.map (fun v => am_ia 8 (vT v)) (o 2)))).set 55 (Option.map (am_rc muH) (Option.map (fun v => am_ia 8 (vF v)) (o 2)))).set 56 (Option.map (am_rc muH) (Option.map (fun v => am_ia 8 (vI v)) (o 2)))).set 57 (Option.map (am_rc muH) (Option.map (fun v => am_ia 8 (vL v)) (o 2)))).set 58 (Option.map (am_rc muH) (Option.map (fun v => stO 29 v) (o 3)))).set 59 (Option.map (am_rc muH) (Option.map (fun v => am_ia 6 (vS v)) (o 3)))).set 60 (Option.map (am_rc muH) (Option.map (fun v => am_ia 8 (vH v)) (o 3)))).set 61 (Option.map (am_rc muH) (Option.map (fun v => am_ia 8 (vP v)) (o 3)))).set 62 (Option.map (am_rc muH) (Option.map (fun v => am_ia 8 (vT v)) (o 3)))).set 63 (Option.map (am_rc muH) (Option.map (fun v => am_ia 8 (vF v)) (o 3)))).set 64 (Option.map (am_rc muH) (Option.map (fun v => am_ia 8 (vI v)) (o 3)))).set 65 (Option.map (am_rc muH) (Option.map (fun v => am_ia 8 (vL v)) (o 3)))).set 66 (Option.map (am_rc muH) (Option.map (fun v => stO 37 v) (o 4)))).set 67 (Option.map (am_rc muH) (Option.map (fun v => am_ia 6 (vS v)) (o 4)))).set 68 (Option.map (am_rc muH) (Option.map (fun v => am_ia 8 (vH v)) (o 4)))).set 69 (Option.map (am_rc muH) (Option.map (fun v => am_ia 8 (vP v)) (o 4)))).set 70 (Option.map (am_rc muH) (Option.map (fun v => am_ia 8 (vT v)) (o 4)))).set 71 (Option.map (am_rc muH) (Option.map (fun v => am_ia 8 (vF v)) (o 4)))).set 72 (Option.map (am_rc muH) (Option.map (fun v => am_ia 8 (vI v)) (o 4)))).set 73 (Option.map (am_rc muH) (Option.map (fun v => am_ia 8 (vL v)) (o 4)))).set 74 (Option.map (am_rc muH) (Option.map (fun v => stO 45 v) (o 5)))).set 75 (Option.map (am_rc muH) (Option.map (fun v => am_ia 6 (vS v)) (o 5)))).set 76 (Option.map (am_rc muH) (Option.map (fun v => am_ia 8 (vH v)) (o 5)))).set 77 (Option.map (am_rc muH) (Option.map (fun v => am_ia 8 (vP v)) (o 5)))).set 78 (Option.map (am_rc muH) (Option.map (fun v => am_ia 8 (vT v)) (o 5)))).set 79 (Option.map (am_rc muH) (Option.map (fun v => am_ia 8 (vF v)) (o 5)))).set 80 (Option.map (am_rc muH) (Option.map (fun v => am_ia 8 (vI v)) (o 5)))).set 81 (Option.map (am_rc muH) (Option.map (fun v => am_ia 8 (vL v)) (o 5)))).set 3 (some (stO 4 (v)))).set 4 (some (am_ia 6 (vS (v))))).set 5 (some (am_ia 8 (vH (v))))).set 6 (some (am_ia 8 (vP (v))))).set 7 (some (am_ia 8 (vT (v))))).set 8 (some (am_ia 8 (vF (v))))).set 9 (some (am_ia 8 (vI (v))))).set 10 (some (am_ia 8 (vL (v)))) = _
  simp only [Option.map_map, ppH, stB, vwT, vwB, smB, pdB, hyA, slA, slB, List.cons_append, List.nil_append, List.set_cons_zero, List.set_cons_succ, pN_sN, pN_sU, pN_sW, pN_sD, pN_sY, pN_sL, pU_sN, pU_sU, pU_sW, pU_sD, pU_sY, pU_sL, pW_sN, pW_sU, pW_sW, pW_sD, pW_sY, pW_sL, pD_sN, pD_sU, pD_sW, pD_sD, pD_sY, pD_sL, pY_sN, pY_sU, pY_sW, pY_sD, pY_sY, pY_sL, pL_sN, pL_sU, pL_sW, pL_sD, pL_sY, pL_sL]
  rfl
