/-! the class History -/
/-- the eight cells of a place that may hold a State -/
def slB (a : Nat) (x : Option SV) : am_H := [x.map (fun v => stO (a + 1) v), x.map (fun v => am_ia 6 (vS v)), x.map (fun v => am_ia 8 (vH v)), x.map (fun v => am_ia 8 (vP v)), x.map (fun v => am_ia 8 (vT v)), x.map (fun v => am_ia 8 (vF v)), x.map (fun v => am_ia 8 (vI v)), x.map (fun v => am_ia 8 (vL v))]
def hy6 (w : Bool) (ff : Nat → Int32) (o0 o1 o2 o3 o4 o5 : Option SV) (nx kp : Int32) (v : SV) : am_H := some (fsC w ff) :: none :: some (am_oj 0 [.ref 3, .int nx, .int kp]) :: some (.inr (.inr (2, [o0.map (fun _ => 4), o1.map (fun _ => 12), o2.map (fun _ => 20), o3.map (fun _ => 28), o4.map (fun _ => 36), o5.map (fun _ => 44)]))) :: (slB 4 o0 ++ (slB 12 o1 ++ (slB 20 o2 ++ (slB 28 o3 ++ (slB 36 o4 ++ (slB 44 o5 ++ stB 52 v))))))
def kp1 (m : Nat) : Nat := if m < 6 then m + 1 else 6
theorem len6 (a b c d e f : Option Nat) : ([a, b, c, d, e, f] : List (Option Nat)).length = 6 := rfl
theorem kp1_e {m : Nat} (hm : m ≤ 6) : (if nI 6 < nI (m + 1) then nI 6 else nI (m + 1)) = nI (kp1 m) := by
  have : ∀ m, m ≤ 6 → (if nI 6 < nI (m + 1) then nI 6 else nI (m + 1)) = nI (kp1 m) := by decide +kernel
  exact this m hm
theorem okcf_0 : am_okmu [0, 1, 4, 5, 6, 7, 8, 9, 10, 11, 52, 53, 54, 55, 56, 57, 58, 59] [none, none, some true, some true, some true, some true, some true, some true, some true, some true, some true, some true, some true, some true, some true, some true, some true, some true] = true := by decide +kernel
theorem okcf_1 : am_okmu [0, 1, 12, 13, 14, 15, 16, 17, 18, 19, 52, 53, 54, 55, 56, 57, 58, 59] [none, none, some true, some true, some true, some true, some true, some true, some true, some true, some true, some true, some true, some true, some true, some true, some true, some true] = true := by decide +kernel
theorem okcf_2 : am_okmu [0, 1, 20, 21, 22, 23, 24, 25, 26, 27, 52, 53, 54, 55, 56, 57, 58, 59] [none, none, some true, some true, some true, some true, some true, some true, some true, some true, some true, some true, some true, some true, some true, some true, some true, some true] = true := by decide +kernel
theorem okcf_3 : am_okmu [0, 1, 28, 29, 30, 31, 32, 33, 34, 35, 52, 53, 54, 55, 56, 57, 58, 59] [none, none, some true, some true, some true, some true, some true, some true, some true, some true, some true, some true, some true, some true, some true, some true, some true, some true] = true := by decide +kernel
theorem okcf_4 : am_okmu [0, 1, 36, 37, 38, 39, 40, 41, 42, 43, 52, 53, 54, 55, 56, 57, 58, 59] [none, none, some true, some true, some true, some true, some true, some true, some true, some true, some true, some true, some true, some true, some true, some true, some true, some true] = true := by decide +kernel
theorem okcf_5 : am_okmu [0, 1, 44, 45, 46, 47, 48, 49, 50, 51, 52, 53, 54, 55, 56, 57, 58, 59] [none, none, some true, some true, some true, some true, some true, some true, some true, some true, some true, some true, some true, some true, some true, some true, some true, some true] = true := by decide +kernel
theorem mrgst2 (μ : Nat → Nat) (v w : SV) (h : am_H) : am_mrg μ 0 (st2 v w) h = ((((((((((((((((h).set (μ 2) (some (am_rc μ (stO 3 v)))).set (μ 3) (some (am_ia 6 (vS v)))).set (μ 4) (some (am_ia 8 (vH v)))).set (μ 5) (some (am_ia 8 (vP v)))).set (μ 6) (some (am_ia 8 (vT v)))).set (μ 7) (some (am_ia 8 (vF v)))).set (μ 8) (some (am_ia 8 (vI v)))).set (μ 9) (some (am_ia 8 (vL v)))).set (μ 10) (some (am_rc μ (stO 11 w)))).set (μ 11) (some (am_ia 6 (vS w)))).set (μ 12) (some (am_ia 8 (vH w)))).set (μ 13) (some (am_ia 8 (vP w)))).set (μ 14) (some (am_ia 8 (vT w)))).set (μ 15) (some (am_ia 8 (vF w)))).set (μ 16) (some (am_ia 8 (vI w)))).set (μ 17) (some (am_ia 8 (vL w))) := rfl
theorem mrgS8 (μ : Nat → Nat) (w : Bool) (ff : Nat → Int32) (v : SV) (h : am_H) : am_mrg μ 0 (okS w ff v) h = (((((((((h).set (μ 0) (some (am_rc μ (fsC w ff)))).set (μ 2) (some (am_rc μ (stO 3 v)))).set (μ 3) (some (am_ia 6 (vS v)))).set (μ 4) (some (am_ia 8 (vH v)))).set (μ 5) (some (am_ia 8 (vP v)))).set (μ 6) (some (am_ia 8 (vT v)))).set (μ 7) (some (am_ia 8 (vF v)))).set (μ 8) (some (am_ia 8 (vI v)))).set (μ 9) (some (am_ia 8 (vL v))) := rfl
theorem mrgin_0 (w : Bool) (ff : Nat → Int32) (o1 o2 o3 o4 o5 : Option SV) (u v : SV) (nx kp : Int32) (c : am_C) : (am_mrg (am_mu [0, 1, 4, 5, 6, 7, 8, 9, 10, 11]) 0 (okS w ff u) ((hy6 w ff (none : Option SV) o1 o2 o3 o4 o5 nx kp v).set 4 (some c))).set 3 (some (.inr (.inr (2, ([Option.map (fun _ => 4) (none : Option SV), Option.map (fun _ => 12) o1, Option.map (fun _ => 20) o2, Option.map (fun _ => 28) o3, Option.map (fun _ => 36) o4, Option.map (fun _ => 44) o5] : List (Option Nat)).set 0 (some 4))))) = hy6 w ff (some u) o1 o2 o3 o4 o5 nx kp v := by
  rw [mrgS8]
  show (((((((((((hy6 w ff (none : Option SV) o1 o2 o3 o4 o5 nx kp v).set 4 (some c)).set 0 (some (fsC w ff))).set 4 (some (stO 5 u))).set 5 (some (am_ia 6 (vS u)))).set 6 (some (am_ia 8 (vH u)))).set 7 (some (am_ia 8 (vP u)))).set 8 (some (am_ia 8 (vT u)))).set 9 (some (am_ia 8 (vF u)))).set 10 (some (am_ia 8 (vI u)))).set 11 (some (am_ia 8 (vL u)))).set 3 (some (.inr (.inr (2, ([Option.map (fun _ => 4) (none : Option SV), Option.map (fun _ => 12) o1, Option.map (fun _ => 20) o2, Option.map (fun _ => 28) o3, Option.map (fun _ => 36) o4, Option.map (fun _ => 44) o5] : List (Option Nat)).set 0 (some 4))))) = _
  simp only [hy6, slB, stB, List.cons_append, List.nil_append, Option.map_some, Option.map_none, List.set_cons_zero, List.set_cons_succ]
theorem mrgin_1 (w : Bool) (ff : Nat → Int32) (o0 o2 o3 o4 o5 : Option SV) (u v : SV) (nx kp : Int32) (c : am_C) : (am_mrg (am_mu [0, 1, 12, 13, 14, 15, 16, 17, 18, 19]) 0 (okS w ff u) ((hy6 w ff o0 (none : Option SV) o2 o3 o4 o5 nx kp v).set 12 (some c))).set 3 (some (.inr (.inr (2, ([Option.map (fun _ => 4) o0, Option.map (fun _ => 12) (none : Option SV), Option.map (fun _ => 20) o2, Option.map (fun _ => 28) o3, Option.map (fun _ => 36) o4, Option.map (fun _ => 44) o5] : List (Option Nat)).set 1 (some 12))))) = hy6 w ff o0 (some u) o2 o3 o4 o5 nx kp v := by
  rw [mrgS8]
  show (((((((((((hy6 w ff o0 (none : Option SV) o2 o3 o4 o5 nx kp v).set 12 (some c)).set 0 (some (fsC w ff))).set 12 (some (stO 13 u))).set 13 (some (am_ia 6 (vS u)))).set 14 (some (am_ia 8 (vH u)))).set 15 (some (am_ia 8 (vP u)))).set 16 (some (am_ia 8 (vT u)))).set 17 (some (am_ia 8 (vF u)))).set 18 (some (am_ia 8 (vI u)))).set 19 (some (am_ia 8 (vL u)))).set 3 (some (.inr (.inr (2, ([Option.map (fun _ => 4) o0, Option.map (fun _ => 12) (none : Option SV), Option.map (fun _ => 20) o2, Option.map (fun _ => 28) o3, Option.map (fun _ => 36) o4, Option.map (fun _ => 44) o5] : List (Option Nat)).set 1 (some 12))))) = _
  simp only [hy6, slB, stB, List.cons_append, List.nil_append, Option.map_some, Option.map_none, List.set_cons_zero, List.set_cons_succ]
theorem mrgin_2 (w : Bool) (ff : Nat → Int32) (o0 o1 o3 o4 o5 : Option SV) (u v : SV) (nx kp : Int32) (c : am_C) : (am_mrg (am_mu [0, 1, 20, 21, 22, 23, 24, 25, 26, 27]) 0 (okS w ff u) ((hy6 w ff o0 o1 (none : Option SV) o3 o4 o5 nx kp v).set 20 (some c))).set 3 (some (.inr (.inr (2, ([Option.map (fun _ => 4) o0, Option.map (fun _ => 12) o1, Option.map (fun _ => 20) (none : Option SV), Option.map (fun _ => 28) o3, Option.map (fun _ => 36) o4, Option.map (fun _ => 44) o5] : List (Option Nat)).set 2 (some 20))))) = hy6 w ff o0 o1 (some u) o3 o4 o5 nx kp v := by
  rw [mrgS8]
  show (((((((((((hy6 w ff o0 o1 (none : Option SV) o3 o4 o5 nx kp v).set 20 (some c)).set 0 (some (fsC w ff))).set 20 (some (stO 21 u))).set 21 (some (am_ia 6 (vS u)))).set 22 (some (am_ia 8 (vH u)))).set 23 (some (am_ia 8 (vP u)))).set 24 (some (am_ia 8 (vT u)))).set 25 (some (am_ia 8 (vF u)))).set 26 (some (am_ia 8 (vI u)))).set 27 (some (am_ia 8 (vL u)))).set 3 (some (.inr (.inr (2, ([Option.map (fun _ => 4) o0, Option.map (fun _ => 12) o1, Option.map (fun _ => 20) (none : Option SV), Option.map (fun _ => 28) o3, Option.map (fun _ => 36) o4, Option.map (fun _ => 44) o5] : List (Option Nat)).set 2 (some 20))))) = _
  simp only [hy6, slB, stB, List.cons_append, List.nil_append, Option.map_some, Option.map_none, List.set_cons_zero, List.set_cons_succ]
theorem mrgin_3 (w : Bool) (ff : Nat → Int32) (o0 o1 o2 o4 o5 : Option SV) (u v : SV) (nx kp : Int32) (c : am_C) : (am_mrg (am_mu [0, 1, 28, 29, 30, 31, 32, 33, 34, 35]) 0 (okS w ff u) ((hy6 w ff o0 o1 o2 (none : Option SV) o4 o5 nx kp v).set 28 (some c))).set 3 (some (.inr (.inr (2, ([Option.map (fun _ => 4) o0, Option.map (fun _ => 12) o1, Option.map (fun _ => 20) o2, Option.map (fun _ => 28) (none : Option SV), Option.map (fun _ => 36) o4, Option.map (fun _ => 44) o5] : List (Option Nat)).set 3 (some 28))))) = hy6 w ff o0 o1 o2 (some u) o4 o5 nx kp v := by
  rw [mrgS8]
  show (((((((((((hy6 w ff o0 o1 o2 (none : Option SV) o4 o5 nx kp v).set 28 (some c)).set 0 (some (fsC w ff))).set 28 (some (stO 29 u))).set 29 (some (am_ia 6 (vS u)))).set 30 (some (am_ia 8 (vH u)))).set 31 (some (am_ia 8 (vP u)))).set 32 (some (am_ia 8 (vT u)))).set 33 (some (am_ia 8 (vF u)))).set 34 (some (am_ia 8 (vI u)))).set 35 (some (am_ia 8 (vL u)))).set 3 (some (.inr (.inr (2, ([Option.map (fun _ => 4) o0, Option.map (fun _ => 12) o1, Option.map (fun _ => 20) o2, Option.map (fun _ => 28) (none : Option SV), Option.map (fun _ => 36) o4, Option.map (fun _ => 44) o5] : List (Option Nat)).set 3 (some 28))))) = _
  simp only [hy6, slB, stB, List.cons_append, List.nil_append, Option.map_some, Option.map_none, List.set_cons_zero, List.set_cons_succ]
theorem mrgin_4 (w : Bool) (ff : Nat → Int32) (o0 o1 o2 o3 o5 : Option SV) (u v : SV) (nx kp : Int32) (c : am_C) : (am_mrg (am_mu [0, 1, 36, 37, 38, 39, 40, 41, 42, 43]) 0 (okS w ff u) ((hy6 w ff o0 o1 o2 o3 (none : Option SV) o5 nx kp v).set 36 (some c))).set 3 (some (.inr (.inr (2, ([Option.map (fun _ => 4) o0, Option.map (fun _ => 12) o1, Option.map (fun _ => 20) o2, Option.map (fun _ => 28) o3, Option.map (fun _ => 36) (none : Option SV), Option.map (fun _ => 44) o5] : List (Option Nat)).set 4 (some 36))))) = hy6 w ff o0 o1 o2 o3 (some u) o5 nx kp v := by
  rw [mrgS8]
  show (((((((((((hy6 w ff o0 o1 o2 o3 (none : Option SV) o5 nx kp v).set 36 (some c)).set 0 (some (fsC w ff))).set 36 (some (stO 37 u))).set 37 (some (am_ia 6 (vS u)))).set 38 (some (am_ia 8 (vH u)))).set 39 (some (am_ia 8 (vP u)))).set 40 (some (am_ia 8 (vT u)))).set 41 (some (am_ia 8 (vF u)))).set 42 (some (am_ia 8 (vI u)))).set 43 (some (am_ia 8 (vL u)))).set 3 (some (.inr (.inr (2, ([Option.map (fun _ => 4) o0, Option.map (fun _ => 12) o1, Option.map (fun _ => 20) o2, Option.map (fun _ => 28) o3, Option.map (fun _ => 36) (none : Option SV), Option.map (fun _ => 44) o5] : List (Option Nat)).set 4 (some 36))))) = _
  simp only [hy6, slB, stB, List.cons_append, List.nil_append, Option.map_some, Option.map_none, List.set_cons_zero, List.set_cons_succ]
theorem mrgin_5 (w : Bool) (ff : Nat → Int32) (o0 o1 o2 o3 o4 : Option SV) (u v : SV) (nx kp : Int32) (c : am_C) : (am_mrg (am_mu [0, 1, 44, 45, 46, 47, 48, 49, 50, 51]) 0 (okS w ff u) ((hy6 w ff o0 o1 o2 o3 o4 (none : Option SV) nx kp v).set 44 (some c))).set 3 (some (.inr (.inr (2, ([Option.map (fun _ => 4) o0, Option.map (fun _ => 12) o1, Option.map (fun _ => 20) o2, Option.map (fun _ => 28) o3, Option.map (fun _ => 36) o4, Option.map (fun _ => 44) (none : Option SV)] : List (Option Nat)).set 5 (some 44))))) = hy6 w ff o0 o1 o2 o3 o4 (some u) nx kp v := by
  rw [mrgS8]
  show (((((((((((hy6 w ff o0 o1 o2 o3 o4 (none : Option SV) nx kp v).set 44 (some c)).set 0 (some (fsC w ff))).set 44 (some (stO 45 u))).set 45 (some (am_ia 6 (vS u)))).set 46 (some (am_ia 8 (vH u)))).set 47 (some (am_ia 8 (vP u)))).set 48 (some (am_ia 8 (vT u)))).set 49 (some (am_ia 8 (vF u)))).set 50 (some (am_ia 8 (vI u)))).set 51 (some (am_ia 8 (vL u)))).set 3 (some (.inr (.inr (2, ([Option.map (fun _ => 4) o0, Option.map (fun _ => 12) o1, Option.map (fun _ => 20) o2, Option.map (fun _ => 28) o3, Option.map (fun _ => 36) o4, Option.map (fun _ => 44) (none : Option SV)] : List (Option Nat)).set 5 (some 44))))) = _
  simp only [hy6, slB, stB, List.cons_append, List.nil_append, Option.map_some, Option.map_none, List.set_cons_zero, List.set_cons_succ]
theorem mrgh_0 (w : Bool) (ff : Nat → Int32) (o1 o2 o3 o4 o5 : Option SV) (u v : SV) (nx kp : Int32) : am_mrg (am_mu [0, 1, 4, 5, 6, 7, 8, 9, 10, 11, 52, 53, 54, 55, 56, 57, 58, 59]) 0 (st2 v v) (hy6 w ff (some u) o1 o2 o3 o4 o5 nx kp v) = hy6 w ff (some v) o1 o2 o3 o4 o5 nx kp v := by
  rw [mrgst2]
  show ((((((((((((((((hy6 w ff (some u) o1 o2 o3 o4 o5 nx kp v).set 4 (some (stO 5 v))).set 5 (some (am_ia 6 (vS v)))).set 6 (some (am_ia 8 (vH v)))).set 7 (some (am_ia 8 (vP v)))).set 8 (some (am_ia 8 (vT v)))).set 9 (some (am_ia 8 (vF v)))).set 10 (some (am_ia 8 (vI v)))).set 11 (some (am_ia 8 (vL v)))).set 52 (some (stO 53 v))).set 53 (some (am_ia 6 (vS v)))).set 54 (some (am_ia 8 (vH v)))).set 55 (some (am_ia 8 (vP v)))).set 56 (some (am_ia 8 (vT v)))).set 57 (some (am_ia 8 (vF v)))).set 58 (some (am_ia 8 (vI v)))).set 59 (some (am_ia 8 (vL v))) = _
  simp only [hy6, slB, stB, List.cons_append, List.nil_append, Option.map_some, List.set_cons_zero, List.set_cons_succ]
theorem mrgh_1 (w : Bool) (ff : Nat → Int32) (o0 o2 o3 o4 o5 : Option SV) (u v : SV) (nx kp : Int32) : am_mrg (am_mu [0, 1, 12, 13, 14, 15, 16, 17, 18, 19, 52, 53, 54, 55, 56, 57, 58, 59]) 0 (st2 v v) (hy6 w ff o0 (some u) o2 o3 o4 o5 nx kp v) = hy6 w ff o0 (some v) o2 o3 o4 o5 nx kp v := by
  rw [mrgst2]
  show ((((((((((((((((hy6 w ff o0 (some u) o2 o3 o4 o5 nx kp v).set 12 (some (stO 13 v))).set 13 (some (am_ia 6 (vS v)))).set 14 (some (am_ia 8 (vH v)))).set 15 (some (am_ia 8 (vP v)))).set 16 (some (am_ia 8 (vT v)))).set 17 (some (am_ia 8 (vF v)))).set 18 (some (am_ia 8 (vI v)))).set 19 (some (am_ia 8 (vL v)))).set 52 (some (stO 53 v))).set 53 (some (am_ia 6 (vS v)))).set 54 (some (am_ia 8 (vH v)))).set 55 (some (am_ia 8 (vP v)))).set 56 (some (am_ia 8 (vT v)))).set 57 (some (am_ia 8 (vF v)))).set 58 (some (am_ia 8 (vI v)))).set 59 (some (am_ia 8 (vL v))) = _
  simp only [hy6, slB, stB, List.cons_append, List.nil_append, Option.map_some, List.set_cons_zero, List.set_cons_succ]
theorem mrgh_2 (w : Bool) (ff : Nat → Int32) (o0 o1 o3 o4 o5 : Option SV) (u v : SV) (nx kp : Int32) : am_mrg (am_mu [0, 1, 20, 21, 22, 23, 24, 25, 26, 27, 52, 53, 54, 55, 56, 57, 58, 59]) 0 (st2 v v) (hy6 w ff o0 o1 (some u) o3 o4 o5 nx kp v) = hy6 w ff o0 o1 (some v) o3 o4 o5 nx kp v := by
  rw [mrgst2]
  show ((((((((((((((((hy6 w ff o0 o1 (some u) o3 o4 o5 nx kp v).set 20 (some (stO 21 v))).set 21 (some (am_ia 6 (vS v)))).set 22 (some (am_ia 8 (vH v)))).set 23 (some (am_ia 8 (vP v)))).set 24 (some (am_ia 8 (vT v)))).set 25 (some (am_ia 8 (vF v)))).set 26 (some (am_ia 8 (vI v)))).set 27 (some (am_ia 8 (vL v)))).set 52 (some (stO 53 v))).set 53 (some (am_ia 6 (vS v)))).set 54 (some (am_ia 8 (vH v)))).set 55 (some (am_ia 8 (vP v)))).set 56 (some (am_ia 8 (vT v)))).set 57 (some (am_ia 8 (vF v)))).set 58 (some (am_ia 8 (vI v)))).set 59 (some (am_ia 8 (vL v))) = _
  simp only [hy6, slB, stB, List.cons_append, List.nil_append, Option.map_some, List.set_cons_zero, List.set_cons_succ]
theorem mrgh_3 (w : Bool) (ff : Nat → Int32) (o0 o1 o2 o4 o5 : Option SV) (u v : SV) (nx kp : Int32) : am_mrg (am_mu [0, 1, 28, 29, 30, 31, 32, 33, 34, 35, 52, 53, 54, 55, 56, 57, 58, 59]) 0 (st2 v v) (hy6 w ff o0 o1 o2 (some u) o4 o5 nx kp v) = hy6 w ff o0 o1 o2 (some v) o4 o5 nx kp v := by
  rw [mrgst2]
  show ((((((((((((((((hy6 w ff o0 o1 o2 (some u) o4 o5 nx kp v).set 28 (some (stO 29 v))).set 29 (some (am_ia 6 (vS v)))).set 30 (some (am_ia 8 (vH v)))).set 31 (some (am_ia 8 (vP v)))).set 32 (some (am_ia 8 (vT v)))).set 33 (some (am_ia 8 (vF v)))).set 34 (some (am_ia 8 (vI v)))).set 35 (some (am_ia 8 (vL v)))).set 52 (some (stO 53 v))).set 53 (some (am_ia 6 (vS v)))).set 54 (some (am_ia 8 (vH v)))).set 55 (some (am_ia 8 (vP v)))).set 56 (some (am_ia 8 (vT v)))).set 57 (some (am_ia 8 (vF v)))).set 58 (some (am_ia 8 (vI v)))).set 59 (some (am_ia 8 (vL v))) = _
  simp only [hy6, slB, stB, List.cons_append, List.nil_append, Option.map_some, List.set_cons_zero, List.set_cons_succ]
theorem mrgh_4 (w : Bool) (ff : Nat → Int32) (o0 o1 o2 o3 o5 : Option SV) (u v : SV) (nx kp : Int32) : am_mrg (am_mu [0, 1, 36, 37, 38, 39, 40, 41, 42, 43, 52, 53, 54, 55, 56, 57, 58, 59]) 0 (st2 v v) (hy6 w ff o0 o1 o2 o3 (some u) o5 nx kp v) = hy6 w ff o0 o1 o2 o3 (some v) o5 nx kp v := by
  rw [mrgst2]
  show ((((((((((((((((hy6 w ff o0 o1 o2 o3 (some u) o5 nx kp v).set 36 (some (stO 37 v))).set 37 (some (am_ia 6 (vS v)))).set 38 (some (am_ia 8 (vH v)))).set 39 (some (am_ia 8 (vP v)))).set 40 (some (am_ia 8 (vT v)))).set 41 (some (am_ia 8 (vF v)))).set 42 (some (am_ia 8 (vI v)))).set 43 (some (am_ia 8 (vL v)))).set 52 (some (stO 53 v))).set 53 (some (am_ia 6 (vS v)))).set 54 (some (am_ia 8 (vH v)))).set 55 (some (am_ia 8 (vP v)))).set 56 (some (am_ia 8 (vT v)))).set 57 (some (am_ia 8 (vF v)))).set 58 (some (am_ia 8 (vI v)))).set 59 (some (am_ia 8 (vL v))) = _
  simp only [hy6, slB, stB, List.cons_append, List.nil_append, Option.map_some, List.set_cons_zero, List.set_cons_succ]
theorem mrgh_5 (w : Bool) (ff : Nat → Int32) (o0 o1 o2 o3 o4 : Option SV) (u v : SV) (nx kp : Int32) : am_mrg (am_mu [0, 1, 44, 45, 46, 47, 48, 49, 50, 51, 52, 53, 54, 55, 56, 57, 58, 59]) 0 (st2 v v) (hy6 w ff o0 o1 o2 o3 o4 (some u) nx kp v) = hy6 w ff o0 o1 o2 o3 o4 (some v) nx kp v := by
  rw [mrgst2]
  show ((((((((((((((((hy6 w ff o0 o1 o2 o3 o4 (some u) nx kp v).set 44 (some (stO 45 v))).set 45 (some (am_ia 6 (vS v)))).set 46 (some (am_ia 8 (vH v)))).set 47 (some (am_ia 8 (vP v)))).set 48 (some (am_ia 8 (vT v)))).set 49 (some (am_ia 8 (vF v)))).set 50 (some (am_ia 8 (vI v)))).set 51 (some (am_ia 8 (vL v)))).set 52 (some (stO 53 v))).set 53 (some (am_ia 6 (vS v)))).set 54 (some (am_ia 8 (vH v)))).set 55 (some (am_ia 8 (vP v)))).set 56 (some (am_ia 8 (vT v)))).set 57 (some (am_ia 8 (vF v)))).set 58 (some (am_ia 8 (vI v)))).set 59 (some (am_ia 8 (vL v))) = _
  simp only [hy6, slB, stB, List.cons_append, List.nil_append, Option.map_some, List.set_cons_zero, List.set_cons_succ]
theorem okin0_0 (w : Bool) : am_okmu [0, 1, 4, 5, 6, 7, 8, 9, 10, 11] [some w, none, some true, none, none, none, none, none, none, none] = true := by cases w <;> decide +kernel
theorem okin1_0 (w : Bool) : am_okmu [0, 1, 4, 5, 6, 7, 8, 9, 10, 11] [some w, none, some true, some true, some true, some true, some true, some true, some true, some true] = true := by cases w <;> decide +kernel
set_option maxHeartbeats 4000000 in
set_option maxRecDepth 100000 in
theorem sX1_record_0n (w : Bool) (ff : Nat → Int32) (o1 o2 o3 o4 o5 : Option SV) (m : Nat) (hm : m ≤ 6) (v : SV) : am_Sp mX1_record [.ref 2, .ref 52] (hy6 w ff none o1 o2 o3 o4 o5 (nI 0) (nI m) v) (am_vp (hy6 w ff (some v) o1 o2 o3 o4 o5 (nI 1) (nI (kp1 m)) v)) := by
  refine am_intro (by decide) (Nat.le_of_ble_eq_true rfl) ?_
  refine ar_aload_n (i := 0) (pc := 0) dX1_record_0 rfl rfl ?_
  refine ar_getf (pc := 1) dX1_record_1 fX1_17 rfl rfl ?_
  refine ar_if_lt (pc := 4) (tgt := 19) dX1_record_4 (by decide) (fun c4 => False.elim (by (simp (disch := omega) only [Int32.lt_iff_toInt_lt, Int32.le_iff_toInt_le, ← Int32.toInt_inj, ti_m6, ti_m1, ti_0, ti_1, ti_2, ti_3, ti_4, ti_5, ti_6, ti_7, ti_8, ti_9, ti_12, ti_100, ti_9999, ti_60, nI_toInt] at c4) <;> omega)) (fun c4 => ?_)
  refine ar_aload_n (i := 0) (pc := 7) dX1_record_7 rfl rfl ?_
  refine ar_getf (pc := 8) dX1_record_8 fX1_17 rfl rfl ?_
  refine ar_aload_n (i := 0) (pc := 11) dX1_record_11 rfl rfl ?_
  refine ar_getf (pc := 12) dX1_record_12 fX1_11 rfl rfl ?_
  refine ar_alenq (pc := 15) dX1_record_15 rfl ?_
  rw [len6]
  refine ar_icmp_lt (pc := 16) (tgt := 20) dX1_record_16 (by decide) (fun c16 => ?_) (fun c16 => False.elim (by (simp (disch := omega) only [Int32.lt_iff_toInt_lt, Int32.le_iff_toInt_le, ← Int32.toInt_inj, ti_m6, ti_m1, ti_0, ti_1, ti_2, ti_3, ti_4, ti_5, ti_6, ti_7, ti_8, ti_9, ti_12, ti_100, ti_9999, ti_60, nI_toInt] at c16) <;> omega))
  refine ar_aload_n (i := 0) (pc := 20) dX1_record_20 rfl rfl ?_
  refine ar_getf (pc := 21) dX1_record_21 fX1_11 rfl rfl ?_
  refine ar_aload_n (i := 0) (pc := 24) dX1_record_24 rfl rfl ?_
  refine ar_getf (pc := 25) dX1_record_25 fX1_17 rfl rfl ?_
  refine ar_aald (pc := 28) dX1_record_28 rfl rfl rfl ?_
  refine ar_ifnonnullN (pc := 29) dX1_record_29 ?_
  refine ar_aload_n (i := 0) (pc := 32) dX1_record_32 rfl rfl ?_
  refine ar_getf (pc := 33) dX1_record_33 fX1_11 rfl rfl ?_
  refine ar_aload_n (i := 0) (pc := 36) dX1_record_36 rfl rfl ?_
  refine ar_getf (pc := 37) dX1_record_37 fX1_17 rfl rfl ?_
  refine ar_new (pc := 40) (k := 4) dX1_record_40 wX1_9 rfl (by decide) (by cases o1 <;> cases o2 <;> cases o3 <;> cases o4 <;> cases o5 <;> rfl) (Nat.le_of_ble_eq_true rfl) (Nat.le_of_ble_eq_true rfl) ?_
  refine ar_dup (pc := 43) dX1_record_43 rfl ?_
  refine ar_nc (pc := 44) (l := [0, 1, 4, 5, 6, 7, 8, 9, 10, 11]) (p0 := [some w, none, some true, none, none, none, none, none, none, none]) (p1 := [some w, none, some true, some true, some true, some true, some true, some true, some true, some true]) (ar_rI dX1_record_44 cal_X3_init rfl rfl kX1_21 rfl (sX3_init w ff) rfl rfl rfl (okin0_0 w) rfl rfl) (okin1_0 w) (by cases w <;> rfl) rfl rfl rfl (by cases o1 <;> cases o2 <;> cases o3 <;> cases o4 <;> cases o5 <;> rfl) rfl rfl (fun r h1 hp => ?_)
  obtain ⟨rfl, rfl⟩ := hp
  refine ⟨⟨rfl, rfl⟩, ?_⟩
  refine ar_aast (pc := 47) dX1_record_47 rfl rfl (Nat.le_of_ble_eq_true rfl) rfl ?_
  refine ar_hp (mrgin_0 w ff o1 o2 o3 o4 o5 (v0 ff) v _ _ _) ?_
  refine ar_aload_n (i := 0) (pc := 48) dX1_record_48 rfl rfl ?_
  refine ar_getf (pc := 49) dX1_record_49 fX1_11 rfl rfl ?_
  refine ar_aload_n (i := 0) (pc := 52) dX1_record_52 rfl rfl ?_
  refine ar_getf (pc := 53) dX1_record_53 fX1_17 rfl rfl ?_
  refine ar_aald (pc := 56) dX1_record_56 rfl rfl rfl ?_
  refine ar_aload_n (i := 1) (pc := 57) dX1_record_57 rfl rfl ?_
  refine ar_mc (pc := 58) (l := [0, 1, 4, 5, 6, 7, 8, 9, 10, 11, 52, 53, 54, 55, 56, 57, 58, 59]) (ar_rV dX1_record_58 cal_X3_copyFrom kX1_22 rfl (sX3_copyFrom (v0 ff) v) rfl rfl rfl rfl rfl okcf_0 rfl rfl) okcf_0 rfl rfl rfl rfl (fun r h1 hp => ?_)
  obtain ⟨rfl, rfl⟩ := hp
  refine ⟨rfl, ?_⟩
  rw [mrgh_0]
  refine ar_aload_n (i := 0) (pc := 61) dX1_record_61 rfl rfl ?_
  refine ar_aload_n (i := 0) (pc := 62) dX1_record_62 rfl rfl ?_
  refine ar_getf (pc := 63) dX1_record_63 fX1_17 rfl rfl ?_
  refine ar_iconst (pc := 66) dX1_record_66 q_iconst_1 ?_
  refine ar_iadd (pc := 67) dX1_record_67 ?_
  rw [nI_1]
  refine ar_aload_n (i := 0) (pc := 68) dX1_record_68 rfl rfl ?_
  refine ar_getf (pc := 69) dX1_record_69 fX1_11 rfl rfl ?_
  refine ar_alenq (pc := 72) dX1_record_72 rfl ?_
  rw [len6]
  refine ar_icmp_ge (pc := 73) (tgt := 85) dX1_record_73 (by decide) (fun c73 => False.elim (by (simp (disch := omega) only [Int32.lt_iff_toInt_lt, Int32.le_iff_toInt_le, ← Int32.toInt_inj, ti_m6, ti_m1, ti_0, ti_1, ti_2, ti_3, ti_4, ti_5, ti_6, ti_7, ti_8, ti_9, ti_12, ti_100, ti_9999, ti_60, nI_toInt] at c73) <;> omega)) (fun c73 => ?_)
  refine ar_aload_n (i := 0) (pc := 76) dX1_record_76 rfl rfl ?_
  refine ar_getf (pc := 77) dX1_record_77 fX1_17 rfl rfl ?_
  refine ar_iconst (pc := 80) dX1_record_80 q_iconst_1 ?_
  refine ar_iadd (pc := 81) dX1_record_81 ?_
  rw [nI_1]
  refine ar_goto (tgt := 86) (pc := 82) dX1_record_82 (by decide) ?_
  refine ar_putf (pc := 86) dX1_record_86 fX1_17 rfl (Nat.le_of_ble_eq_true rfl) (fun _ => ⟨rfl, rfl⟩) ?_
  refine ar_hp (h' := hy6 w ff (some v) o1 o2 o3 o4 o5 (nI 1) (nI m) v) rfl ?_
  refine ar_aload_n (i := 0) (pc := 89) dX1_record_89 rfl rfl ?_
  refine ar_aload_n (i := 0) (pc := 90) dX1_record_90 rfl rfl ?_
  refine ar_getf (pc := 91) dX1_record_91 fX1_26 rfl rfl ?_
  refine ar_iconst (pc := 94) dX1_record_94 q_iconst_1 ?_
  refine ar_iadd (pc := 95) dX1_record_95 ?_
  rw [nI_1]
  refine ar_aload_n (i := 0) (pc := 96) dX1_record_96 rfl rfl ?_
  refine ar_getf (pc := 97) dX1_record_97 fX1_11 rfl rfl ?_
  refine ar_alenq (pc := 100) dX1_record_100 rfl ?_
  rw [len6]
  refine ar_min (pc := 101) dX1_record_101 kX1_29 rfl rfl rfl rfl ?_
  rw [kp1_e hm]
  refine ar_putf (pc := 104) dX1_record_104 fX1_26 rfl (Nat.le_of_ble_eq_true rfl) (fun _ => ⟨rfl, rfl⟩) ?_
  exact ar_vret (pc := 107) dX1_record_107 rfl rfl rfl ⟨rfl, rfl⟩

set_option maxHeartbeats 4000000 in
set_option maxRecDepth 100000 in
theorem sX1_record_0s (w : Bool) (ff : Nat → Int32) (o1 o2 o3 o4 o5 : Option SV) (u : SV) (m : Nat) (hm : m ≤ 6) (v : SV) : am_Sp mX1_record [.ref 2, .ref 52] (hy6 w ff (some u) o1 o2 o3 o4 o5 (nI 0) (nI m) v) (am_vp (hy6 w ff (some v) o1 o2 o3 o4 o5 (nI 1) (nI (kp1 m)) v)) := by
  refine am_intro (by decide) (Nat.le_of_ble_eq_true rfl) ?_
  refine ar_aload_n (i := 0) (pc := 0) dX1_record_0 rfl rfl ?_
  refine ar_getf (pc := 1) dX1_record_1 fX1_17 rfl rfl ?_
  refine ar_if_lt (pc := 4) (tgt := 19) dX1_record_4 (by decide) (fun c4 => False.elim (by (simp (disch := omega) only [Int32.lt_iff_toInt_lt, Int32.le_iff_toInt_le, ← Int32.toInt_inj, ti_m6, ti_m1, ti_0, ti_1, ti_2, ti_3, ti_4, ti_5, ti_6, ti_7, ti_8, ti_9, ti_12, ti_100, ti_9999, ti_60, nI_toInt] at c4) <;> omega)) (fun c4 => ?_)
  refine ar_aload_n (i := 0) (pc := 7) dX1_record_7 rfl rfl ?_
  refine ar_getf (pc := 8) dX1_record_8 fX1_17 rfl rfl ?_
  refine ar_aload_n (i := 0) (pc := 11) dX1_record_11 rfl rfl ?_
  refine ar_getf (pc := 12) dX1_record_12 fX1_11 rfl rfl ?_
  refine ar_alenq (pc := 15) dX1_record_15 rfl ?_
  rw [len6]
  refine ar_icmp_lt (pc := 16) (tgt := 20) dX1_record_16 (by decide) (fun c16 => ?_) (fun c16 => False.elim (by (simp (disch := omega) only [Int32.lt_iff_toInt_lt, Int32.le_iff_toInt_le, ← Int32.toInt_inj, ti_m6, ti_m1, ti_0, ti_1, ti_2, ti_3, ti_4, ti_5, ti_6, ti_7, ti_8, ti_9, ti_12, ti_100, ti_9999, ti_60, nI_toInt] at c16) <;> omega))
  refine ar_aload_n (i := 0) (pc := 20) dX1_record_20 rfl rfl ?_
  refine ar_getf (pc := 21) dX1_record_21 fX1_11 rfl rfl ?_
  refine ar_aload_n (i := 0) (pc := 24) dX1_record_24 rfl rfl ?_
  refine ar_getf (pc := 25) dX1_record_25 fX1_17 rfl rfl ?_
  refine ar_aald (pc := 28) dX1_record_28 rfl rfl rfl ?_
  refine ar_ifnonnull (pc := 29) (tgt := 48) dX1_record_29 (by decide) ?_
  skip
  refine ar_aload_n (i := 0) (pc := 48) dX1_record_48 rfl rfl ?_
  refine ar_getf (pc := 49) dX1_record_49 fX1_11 rfl rfl ?_
  refine ar_aload_n (i := 0) (pc := 52) dX1_record_52 rfl rfl ?_
  refine ar_getf (pc := 53) dX1_record_53 fX1_17 rfl rfl ?_
  refine ar_aald (pc := 56) dX1_record_56 rfl rfl rfl ?_
  refine ar_aload_n (i := 1) (pc := 57) dX1_record_57 rfl rfl ?_
  refine ar_mc (pc := 58) (l := [0, 1, 4, 5, 6, 7, 8, 9, 10, 11, 52, 53, 54, 55, 56, 57, 58, 59]) (ar_rV dX1_record_58 cal_X3_copyFrom kX1_22 rfl (sX3_copyFrom u v) rfl rfl rfl rfl rfl okcf_0 rfl rfl) okcf_0 rfl rfl rfl rfl (fun r h1 hp => ?_)
  obtain ⟨rfl, rfl⟩ := hp
  refine ⟨rfl, ?_⟩
  rw [mrgh_0]
  refine ar_aload_n (i := 0) (pc := 61) dX1_record_61 rfl rfl ?_
  refine ar_aload_n (i := 0) (pc := 62) dX1_record_62 rfl rfl ?_
  refine ar_getf (pc := 63) dX1_record_63 fX1_17 rfl rfl ?_
  refine ar_iconst (pc := 66) dX1_record_66 q_iconst_1 ?_
  refine ar_iadd (pc := 67) dX1_record_67 ?_
  rw [nI_1]
  refine ar_aload_n (i := 0) (pc := 68) dX1_record_68 rfl rfl ?_
  refine ar_getf (pc := 69) dX1_record_69 fX1_11 rfl rfl ?_
  refine ar_alenq (pc := 72) dX1_record_72 rfl ?_
  rw [len6]
  refine ar_icmp_ge (pc := 73) (tgt := 85) dX1_record_73 (by decide) (fun c73 => False.elim (by (simp (disch := omega) only [Int32.lt_iff_toInt_lt, Int32.le_iff_toInt_le, ← Int32.toInt_inj, ti_m6, ti_m1, ti_0, ti_1, ti_2, ti_3, ti_4, ti_5, ti_6, ti_7, ti_8, ti_9, ti_12, ti_100, ti_9999, ti_60, nI_toInt] at c73) <;> omega)) (fun c73 => ?_)
  refine ar_aload_n (i := 0) (pc := 76) dX1_record_76 rfl rfl ?_
  refine ar_getf (pc := 77) dX1_record_77 fX1_17 rfl rfl ?_
  refine ar_iconst (pc := 80) dX1_record_80 q_iconst_1 ?_
  refine ar_iadd (pc := 81) dX1_record_81 ?_
  rw [nI_1]
  refine ar_goto (tgt := 86) (pc := 82) dX1_record_82 (by decide) ?_
  refine ar_putf (pc := 86) dX1_record_86 fX1_17 rfl (Nat.le_of_ble_eq_true rfl) (fun _ => ⟨rfl, rfl⟩) ?_
  refine ar_hp (h' := hy6 w ff (some v) o1 o2 o3 o4 o5 (nI 1) (nI m) v) rfl ?_
  refine ar_aload_n (i := 0) (pc := 89) dX1_record_89 rfl rfl ?_
  refine ar_aload_n (i := 0) (pc := 90) dX1_record_90 rfl rfl ?_
  refine ar_getf (pc := 91) dX1_record_91 fX1_26 rfl rfl ?_
  refine ar_iconst (pc := 94) dX1_record_94 q_iconst_1 ?_
  refine ar_iadd (pc := 95) dX1_record_95 ?_
  rw [nI_1]
  refine ar_aload_n (i := 0) (pc := 96) dX1_record_96 rfl rfl ?_
  refine ar_getf (pc := 97) dX1_record_97 fX1_11 rfl rfl ?_
  refine ar_alenq (pc := 100) dX1_record_100 rfl ?_
  rw [len6]
  refine ar_min (pc := 101) dX1_record_101 kX1_29 rfl rfl rfl rfl ?_
  rw [kp1_e hm]
  refine ar_putf (pc := 104) dX1_record_104 fX1_26 rfl (Nat.le_of_ble_eq_true rfl) (fun _ => ⟨rfl, rfl⟩) ?_
  exact ar_vret (pc := 107) dX1_record_107 rfl rfl rfl ⟨rfl, rfl⟩

theorem okin0_1 (w : Bool) : am_okmu [0, 1, 12, 13, 14, 15, 16, 17, 18, 19] [some w, none, some true, none, none, none, none, none, none, none] = true := by cases w <;> decide +kernel
theorem okin1_1 (w : Bool) : am_okmu [0, 1, 12, 13, 14, 15, 16, 17, 18, 19] [some w, none, some true, some true, some true, some true, some true, some true, some true, some true] = true := by cases w <;> decide +kernel
set_option maxHeartbeats 4000000 in
set_option maxRecDepth 100000 in
theorem sX1_record_1n (w : Bool) (ff : Nat → Int32) (o0 o2 o3 o4 o5 : Option SV) (m : Nat) (hm : m ≤ 6) (v : SV) : am_Sp mX1_record [.ref 2, .ref 52] (hy6 w ff o0 none o2 o3 o4 o5 (nI 1) (nI m) v) (am_vp (hy6 w ff o0 (some v) o2 o3 o4 o5 (nI 2) (nI (kp1 m)) v)) := by
  refine am_intro (by decide) (Nat.le_of_ble_eq_true rfl) ?_
  refine ar_aload_n (i := 0) (pc := 0) dX1_record_0 rfl rfl ?_
  refine ar_getf (pc := 1) dX1_record_1 fX1_17 rfl rfl ?_
  refine ar_if_lt (pc := 4) (tgt := 19) dX1_record_4 (by decide) (fun c4 => False.elim (by (simp (disch := omega) only [Int32.lt_iff_toInt_lt, Int32.le_iff_toInt_le, ← Int32.toInt_inj, ti_m6, ti_m1, ti_0, ti_1, ti_2, ti_3, ti_4, ti_5, ti_6, ti_7, ti_8, ti_9, ti_12, ti_100, ti_9999, ti_60, nI_toInt] at c4) <;> omega)) (fun c4 => ?_)
  refine ar_aload_n (i := 0) (pc := 7) dX1_record_7 rfl rfl ?_
  refine ar_getf (pc := 8) dX1_record_8 fX1_17 rfl rfl ?_
  refine ar_aload_n (i := 0) (pc := 11) dX1_record_11 rfl rfl ?_
  refine ar_getf (pc := 12) dX1_record_12 fX1_11 rfl rfl ?_
  refine ar_alenq (pc := 15) dX1_record_15 rfl ?_
  rw [len6]
  refine ar_icmp_lt (pc := 16) (tgt := 20) dX1_record_16 (by decide) (fun c16 => ?_) (fun c16 => False.elim (by (simp (disch := omega) only [Int32.lt_iff_toInt_lt, Int32.le_iff_toInt_le, ← Int32.toInt_inj, ti_m6, ti_m1, ti_0, ti_1, ti_2, ti_3, ti_4, ti_5, ti_6, ti_7, ti_8, ti_9, ti_12, ti_100, ti_9999, ti_60, nI_toInt] at c16) <;> omega))
  refine ar_aload_n (i := 0) (pc := 20) dX1_record_20 rfl rfl ?_
  refine ar_getf (pc := 21) dX1_record_21 fX1_11 rfl rfl ?_
  refine ar_aload_n (i := 0) (pc := 24) dX1_record_24 rfl rfl ?_
  refine ar_getf (pc := 25) dX1_record_25 fX1_17 rfl rfl ?_
  refine ar_aald (pc := 28) dX1_record_28 rfl rfl rfl ?_
  refine ar_ifnonnullN (pc := 29) dX1_record_29 ?_
  refine ar_aload_n (i := 0) (pc := 32) dX1_record_32 rfl rfl ?_
  refine ar_getf (pc := 33) dX1_record_33 fX1_11 rfl rfl ?_
  refine ar_aload_n (i := 0) (pc := 36) dX1_record_36 rfl rfl ?_
  refine ar_getf (pc := 37) dX1_record_37 fX1_17 rfl rfl ?_
  refine ar_new (pc := 40) (k := 12) dX1_record_40 wX1_9 rfl (by decide) (by cases o0 <;> cases o2 <;> cases o3 <;> cases o4 <;> cases o5 <;> rfl) (Nat.le_of_ble_eq_true rfl) (Nat.le_of_ble_eq_true rfl) ?_
  refine ar_dup (pc := 43) dX1_record_43 rfl ?_
  refine ar_nc (pc := 44) (l := [0, 1, 12, 13, 14, 15, 16, 17, 18, 19]) (p0 := [some w, none, some true, none, none, none, none, none, none, none]) (p1 := [some w, none, some true, some true, some true, some true, some true, some true, some true, some true]) (ar_rI dX1_record_44 cal_X3_init rfl rfl kX1_21 rfl (sX3_init w ff) rfl rfl rfl (okin0_1 w) rfl rfl) (okin1_1 w) (by cases w <;> rfl) rfl rfl rfl (by cases o0 <;> cases o2 <;> cases o3 <;> cases o4 <;> cases o5 <;> rfl) rfl rfl (fun r h1 hp => ?_)
  obtain ⟨rfl, rfl⟩ := hp
  refine ⟨⟨rfl, rfl⟩, ?_⟩
  refine ar_aast (pc := 47) dX1_record_47 rfl rfl (Nat.le_of_ble_eq_true rfl) rfl ?_
  refine ar_hp (mrgin_1 w ff o0 o2 o3 o4 o5 (v0 ff) v _ _ _) ?_
  refine ar_aload_n (i := 0) (pc := 48) dX1_record_48 rfl rfl ?_
  refine ar_getf (pc := 49) dX1_record_49 fX1_11 rfl rfl ?_
  refine ar_aload_n (i := 0) (pc := 52) dX1_record_52 rfl rfl ?_
  refine ar_getf (pc := 53) dX1_record_53 fX1_17 rfl rfl ?_
  refine ar_aald (pc := 56) dX1_record_56 rfl rfl rfl ?_
  refine ar_aload_n (i := 1) (pc := 57) dX1_record_57 rfl rfl ?_
  refine ar_mc (pc := 58) (l := [0, 1, 12, 13, 14, 15, 16, 17, 18, 19, 52, 53, 54, 55, 56, 57, 58, 59]) (ar_rV dX1_record_58 cal_X3_copyFrom kX1_22 rfl (sX3_copyFrom (v0 ff) v) rfl rfl rfl rfl rfl okcf_1 rfl rfl) okcf_1 rfl rfl rfl rfl (fun r h1 hp => ?_)
  obtain ⟨rfl, rfl⟩ := hp
  refine ⟨rfl, ?_⟩
  rw [mrgh_1]
  refine ar_aload_n (i := 0) (pc := 61) dX1_record_61 rfl rfl ?_
  refine ar_aload_n (i := 0) (pc := 62) dX1_record_62 rfl rfl ?_
  refine ar_getf (pc := 63) dX1_record_63 fX1_17 rfl rfl ?_
  refine ar_iconst (pc := 66) dX1_record_66 q_iconst_1 ?_
  refine ar_iadd (pc := 67) dX1_record_67 ?_
  rw [nI_1]
  refine ar_aload_n (i := 0) (pc := 68) dX1_record_68 rfl rfl ?_
  refine ar_getf (pc := 69) dX1_record_69 fX1_11 rfl rfl ?_
  refine ar_alenq (pc := 72) dX1_record_72 rfl ?_
  rw [len6]
  refine ar_icmp_ge (pc := 73) (tgt := 85) dX1_record_73 (by decide) (fun c73 => False.elim (by (simp (disch := omega) only [Int32.lt_iff_toInt_lt, Int32.le_iff_toInt_le, ← Int32.toInt_inj, ti_m6, ti_m1, ti_0, ti_1, ti_2, ti_3, ti_4, ti_5, ti_6, ti_7, ti_8, ti_9, ti_12, ti_100, ti_9999, ti_60, nI_toInt] at c73) <;> omega)) (fun c73 => ?_)
  refine ar_aload_n (i := 0) (pc := 76) dX1_record_76 rfl rfl ?_
  refine ar_getf (pc := 77) dX1_record_77 fX1_17 rfl rfl ?_
  refine ar_iconst (pc := 80) dX1_record_80 q_iconst_1 ?_
  refine ar_iadd (pc := 81) dX1_record_81 ?_
  rw [nI_1]
  refine ar_goto (tgt := 86) (pc := 82) dX1_record_82 (by decide) ?_
  refine ar_putf (pc := 86) dX1_record_86 fX1_17 rfl (Nat.le_of_ble_eq_true rfl) (fun _ => ⟨rfl, rfl⟩) ?_
  refine ar_hp (h' := hy6 w ff o0 (some v) o2 o3 o4 o5 (nI 2) (nI m) v) rfl ?_
  refine ar_aload_n (i := 0) (pc := 89) dX1_record_89 rfl rfl ?_
  refine ar_aload_n (i := 0) (pc := 90) dX1_record_90 rfl rfl ?_
  refine ar_getf (pc := 91) dX1_record_91 fX1_26 rfl rfl ?_
  refine ar_iconst (pc := 94) dX1_record_94 q_iconst_1 ?_
  refine ar_iadd (pc := 95) dX1_record_95 ?_
  rw [nI_1]
  refine ar_aload_n (i := 0) (pc := 96) dX1_record_96 rfl rfl ?_
  refine ar_getf (pc := 97) dX1_record_97 fX1_11 rfl rfl ?_
  refine ar_alenq (pc := 100) dX1_record_100 rfl ?_
  rw [len6]
  refine ar_min (pc := 101) dX1_record_101 kX1_29 rfl rfl rfl rfl ?_
  rw [kp1_e hm]
  refine ar_putf (pc := 104) dX1_record_104 fX1_26 rfl (Nat.le_of_ble_eq_true rfl) (fun _ => ⟨rfl, rfl⟩) ?_
  exact ar_vret (pc := 107) dX1_record_107 rfl rfl rfl ⟨rfl, rfl⟩

set_option maxHeartbeats 4000000 in
set_option maxRecDepth 100000 in
theorem sX1_record_1s (w : Bool) (ff : Nat → Int32) (o0 o2 o3 o4 o5 : Option SV) (u : SV) (m : Nat) (hm : m ≤ 6) (v : SV) : am_Sp mX1_record [.ref 2, .ref 52] (hy6 w ff o0 (some u) o2 o3 o4 o5 (nI 1) (nI m) v) (am_vp (hy6 w ff o0 (some v) o2 o3 o4 o5 (nI 2) (nI (kp1 m)) v)) := by
  refine am_intro (by decide) (Nat.le_of_ble_eq_true rfl) ?_
  refine ar_aload_n (i := 0) (pc := 0) dX1_record_0 rfl rfl ?_
  refine ar_getf (pc := 1) dX1_record_1 fX1_17 rfl rfl ?_
  refine ar_if_lt (pc := 4) (tgt := 19) dX1_record_4 (by decide) (fun c4 => False.elim (by (simp (disch := omega) only [Int32.lt_iff_toInt_lt, Int32.le_iff_toInt_le, ← Int32.toInt_inj, ti_m6, ti_m1, ti_0, ti_1, ti_2, ti_3, ti_4, ti_5, ti_6, ti_7, ti_8, ti_9, ti_12, ti_100, ti_9999, ti_60, nI_toInt] at c4) <;> omega)) (fun c4 => ?_)
  refine ar_aload_n (i := 0) (pc := 7) dX1_record_7 rfl rfl ?_
  refine ar_getf (pc := 8) dX1_record_8 fX1_17 rfl rfl ?_
  refine ar_aload_n (i := 0) (pc := 11) dX1_record_11 rfl rfl ?_
  refine ar_getf (pc := 12) dX1_record_12 fX1_11 rfl rfl ?_
  refine ar_alenq (pc := 15) dX1_record_15 rfl ?_
  rw [len6]
  refine ar_icmp_lt (pc := 16) (tgt := 20) dX1_record_16 (by decide) (fun c16 => ?_) (fun c16 => False.elim (by (simp (disch := omega) only [Int32.lt_iff_toInt_lt, Int32.le_iff_toInt_le, ← Int32.toInt_inj, ti_m6, ti_m1, ti_0, ti_1, ti_2, ti_3, ti_4, ti_5, ti_6, ti_7, ti_8, ti_9, ti_12, ti_100, ti_9999, ti_60, nI_toInt] at c16) <;> omega))
  refine ar_aload_n (i := 0) (pc := 20) dX1_record_20 rfl rfl ?_
  refine ar_getf (pc := 21) dX1_record_21 fX1_11 rfl rfl ?_
  refine ar_aload_n (i := 0) (pc := 24) dX1_record_24 rfl rfl ?_
  refine ar_getf (pc := 25) dX1_record_25 fX1_17 rfl rfl ?_
  refine ar_aald (pc := 28) dX1_record_28 rfl rfl rfl ?_
  refine ar_ifnonnull (pc := 29) (tgt := 48) dX1_record_29 (by decide) ?_
  skip
  refine ar_aload_n (i := 0) (pc := 48) dX1_record_48 rfl rfl ?_
  refine ar_getf (pc := 49) dX1_record_49 fX1_11 rfl rfl ?_
  refine ar_aload_n (i := 0) (pc := 52) dX1_record_52 rfl rfl ?_
  refine ar_getf (pc := 53) dX1_record_53 fX1_17 rfl rfl ?_
  refine ar_aald (pc := 56) dX1_record_56 rfl rfl rfl ?_
  refine ar_aload_n (i := 1) (pc := 57) dX1_record_57 rfl rfl ?_
  refine ar_mc (pc := 58) (l := [0, 1, 12, 13, 14, 15, 16, 17, 18, 19, 52, 53, 54, 55, 56, 57, 58, 59]) (ar_rV dX1_record_58 cal_X3_copyFrom kX1_22 rfl (sX3_copyFrom u v) rfl rfl rfl rfl rfl okcf_1 rfl rfl) okcf_1 rfl rfl rfl rfl (fun r h1 hp => ?_)
  obtain ⟨rfl, rfl⟩ := hp
  refine ⟨rfl, ?_⟩
  rw [mrgh_1]
  refine ar_aload_n (i := 0) (pc := 61) dX1_record_61 rfl rfl ?_
  refine ar_aload_n (i := 0) (pc := 62) dX1_record_62 rfl rfl ?_
  refine ar_getf (pc := 63) dX1_record_63 fX1_17 rfl rfl ?_
  refine ar_iconst (pc := 66) dX1_record_66 q_iconst_1 ?_
  refine ar_iadd (pc := 67) dX1_record_67 ?_
  rw [nI_1]
  refine ar_aload_n (i := 0) (pc := 68) dX1_record_68 rfl rfl ?_
  refine ar_getf (pc := 69) dX1_record_69 fX1_11 rfl rfl ?_
  refine ar_alenq (pc := 72) dX1_record_72 rfl ?_
  rw [len6]
  refine ar_icmp_ge (pc := 73) (tgt := 85) dX1_record_73 (by decide) (fun c73 => False.elim (by (simp (disch := omega) only [Int32.lt_iff_toInt_lt, Int32.le_iff_toInt_le, ← Int32.toInt_inj, ti_m6, ti_m1, ti_0, ti_1, ti_2, ti_3, ti_4, ti_5, ti_6, ti_7, ti_8, ti_9, ti_12, ti_100, ti_9999, ti_60, nI_toInt] at c73) <;> omega)) (fun c73 => ?_)
  refine ar_aload_n (i := 0) (pc := 76) dX1_record_76 rfl rfl ?_
  refine ar_getf (pc := 77) dX1_record_77 fX1_17 rfl rfl ?_
  refine ar_iconst (pc := 80) dX1_record_80 q_iconst_1 ?_
  refine ar_iadd (pc := 81) dX1_record_81 ?_
  rw [nI_1]
  refine ar_goto (tgt := 86) (pc := 82) dX1_record_82 (by decide) ?_
  refine ar_putf (pc := 86) dX1_record_86 fX1_17 rfl (Nat.le_of_ble_eq_true rfl) (fun _ => ⟨rfl, rfl⟩) ?_
  refine ar_hp (h' := hy6 w ff o0 (some v) o2 o3 o4 o5 (nI 2) (nI m) v) rfl ?_
  refine ar_aload_n (i := 0) (pc := 89) dX1_record_89 rfl rfl ?_
  refine ar_aload_n (i := 0) (pc := 90) dX1_record_90 rfl rfl ?_
  refine ar_getf (pc := 91) dX1_record_91 fX1_26 rfl rfl ?_
  refine ar_iconst (pc := 94) dX1_record_94 q_iconst_1 ?_
  refine ar_iadd (pc := 95) dX1_record_95 ?_
  rw [nI_1]
  refine ar_aload_n (i := 0) (pc := 96) dX1_record_96 rfl rfl ?_
  refine ar_getf (pc := 97) dX1_record_97 fX1_11 rfl rfl ?_
  refine ar_alenq (pc := 100) dX1_record_100 rfl ?_
  rw [len6]
  refine ar_min (pc := 101) dX1_record_101 kX1_29 rfl rfl rfl rfl ?_
  rw [kp1_e hm]
  refine ar_putf (pc := 104) dX1_record_104 fX1_26 rfl (Nat.le_of_ble_eq_true rfl) (fun _ => ⟨rfl, rfl⟩) ?_
  exact ar_vret (pc := 107) dX1_record_107 rfl rfl rfl ⟨rfl, rfl⟩

theorem okin0_2 (w : Bool) : am_okmu [0, 1, 20, 21, 22, 23, 24, 25, 26, 27] [some w, none, some true, none, none, none, none, none, none, none] = true := by cases w <;> decide +kernel
theorem okin1_2 (w : Bool) : am_okmu [0, 1, 20, 21, 22, 23, 24, 25, 26, 27] [some w, none, some true, some true, some true, some true, some true, some true, some true, some true] = true := by cases w <;> decide +kernel
set_option maxHeartbeats 4000000 in
set_option maxRecDepth 100000 in
theorem sX1_record_2n (w : Bool) (ff : Nat → Int32) (o0 o1 o3 o4 o5 : Option SV) (m : Nat) (hm : m ≤ 6) (v : SV) : am_Sp mX1_record [.ref 2, .ref 52] (hy6 w ff o0 o1 none o3 o4 o5 (nI 2) (nI m) v) (am_vp (hy6 w ff o0 o1 (some v) o3 o4 o5 (nI 3) (nI (kp1 m)) v)) := by
  refine am_intro (by decide) (Nat.le_of_ble_eq_true rfl) ?_
  refine ar_aload_n (i := 0) (pc := 0) dX1_record_0 rfl rfl ?_
  refine ar_getf (pc := 1) dX1_record_1 fX1_17 rfl rfl ?_
  refine ar_if_lt (pc := 4) (tgt := 19) dX1_record_4 (by decide) (fun c4 => False.elim (by (simp (disch := omega) only [Int32.lt_iff_toInt_lt, Int32.le_iff_toInt_le, ← Int32.toInt_inj, ti_m6, ti_m1, ti_0, ti_1, ti_2, ti_3, ti_4, ti_5, ti_6, ti_7, ti_8, ti_9, ti_12, ti_100, ti_9999, ti_60, nI_toInt] at c4) <;> omega)) (fun c4 => ?_)
  refine ar_aload_n (i := 0) (pc := 7) dX1_record_7 rfl rfl ?_
  refine ar_getf (pc := 8) dX1_record_8 fX1_17 rfl rfl ?_
  refine ar_aload_n (i := 0) (pc := 11) dX1_record_11 rfl rfl ?_
  refine ar_getf (pc := 12) dX1_record_12 fX1_11 rfl rfl ?_
  refine ar_alenq (pc := 15) dX1_record_15 rfl ?_
  rw [len6]
  refine ar_icmp_lt (pc := 16) (tgt := 20) dX1_record_16 (by decide) (fun c16 => ?_) (fun c16 => False.elim (by (simp (disch := omega) only [Int32.lt_iff_toInt_lt, Int32.le_iff_toInt_le, ← Int32.toInt_inj, ti_m6, ti_m1, ti_0, ti_1, ti_2, ti_3, ti_4, ti_5, ti_6, ti_7, ti_8, ti_9, ti_12, ti_100, ti_9999, ti_60, nI_toInt] at c16) <;> omega))
  refine ar_aload_n (i := 0) (pc := 20) dX1_record_20 rfl rfl ?_
  refine ar_getf (pc := 21) dX1_record_21 fX1_11 rfl rfl ?_
  refine ar_aload_n (i := 0) (pc := 24) dX1_record_24 rfl rfl ?_
  refine ar_getf (pc := 25) dX1_record_25 fX1_17 rfl rfl ?_
  refine ar_aald (pc := 28) dX1_record_28 rfl rfl rfl ?_
  refine ar_ifnonnullN (pc := 29) dX1_record_29 ?_
  refine ar_aload_n (i := 0) (pc := 32) dX1_record_32 rfl rfl ?_
  refine ar_getf (pc := 33) dX1_record_33 fX1_11 rfl rfl ?_
  refine ar_aload_n (i := 0) (pc := 36) dX1_record_36 rfl rfl ?_
  refine ar_getf (pc := 37) dX1_record_37 fX1_17 rfl rfl ?_
  refine ar_new (pc := 40) (k := 20) dX1_record_40 wX1_9 rfl (by decide) (by cases o0 <;> cases o1 <;> cases o3 <;> cases o4 <;> cases o5 <;> rfl) (Nat.le_of_ble_eq_true rfl) (Nat.le_of_ble_eq_true rfl) ?_
  refine ar_dup (pc := 43) dX1_record_43 rfl ?_
  refine ar_nc (pc := 44) (l := [0, 1, 20, 21, 22, 23, 24, 25, 26, 27]) (p0 := [some w, none, some true, none, none, none, none, none, none, none]) (p1 := [some w, none, some true, some true, some true, some true, some true, some true, some true, some true]) (ar_rI dX1_record_44 cal_X3_init rfl rfl kX1_21 rfl (sX3_init w ff) rfl rfl rfl (okin0_2 w) rfl rfl) (okin1_2 w) (by cases w <;> rfl) rfl rfl rfl (by cases o0 <;> cases o1 <;> cases o3 <;> cases o4 <;> cases o5 <;> rfl) rfl rfl (fun r h1 hp => ?_)
  obtain ⟨rfl, rfl⟩ := hp
  refine ⟨⟨rfl, rfl⟩, ?_⟩
  refine ar_aast (pc := 47) dX1_record_47 rfl rfl (Nat.le_of_ble_eq_true rfl) rfl ?_
  refine ar_hp (mrgin_2 w ff o0 o1 o3 o4 o5 (v0 ff) v _ _ _) ?_
  refine ar_aload_n (i := 0) (pc := 48) dX1_record_48 rfl rfl ?_
  refine ar_getf (pc := 49) dX1_record_49 fX1_11 rfl rfl ?_
  refine ar_aload_n (i := 0) (pc := 52) dX1_record_52 rfl rfl ?_
  refine ar_getf (pc := 53) dX1_record_53 fX1_17 rfl rfl ?_
  refine ar_aald (pc := 56) dX1_record_56 rfl rfl rfl ?_
  refine ar_aload_n (i := 1) (pc := 57) dX1_record_57 rfl rfl ?_
  refine ar_mc (pc := 58) (l := [0, 1, 20, 21, 22, 23, 24, 25, 26, 27, 52, 53, 54, 55, 56, 57, 58, 59]) (ar_rV dX1_record_58 cal_X3_copyFrom kX1_22 rfl (sX3_copyFrom (v0 ff) v) rfl rfl rfl rfl rfl okcf_2 rfl rfl) okcf_2 rfl rfl rfl rfl (fun r h1 hp => ?_)
  obtain ⟨rfl, rfl⟩ := hp
  refine ⟨rfl, ?_⟩
  rw [mrgh_2]
  refine ar_aload_n (i := 0) (pc := 61) dX1_record_61 rfl rfl ?_
  refine ar_aload_n (i := 0) (pc := 62) dX1_record_62 rfl rfl ?_
  refine ar_getf (pc := 63) dX1_record_63 fX1_17 rfl rfl ?_
  refine ar_iconst (pc := 66) dX1_record_66 q_iconst_1 ?_
  refine ar_iadd (pc := 67) dX1_record_67 ?_
  rw [nI_1]
  refine ar_aload_n (i := 0) (pc := 68) dX1_record_68 rfl rfl ?_
  refine ar_getf (pc := 69) dX1_record_69 fX1_11 rfl rfl ?_
  refine ar_alenq (pc := 72) dX1_record_72 rfl ?_
  rw [len6]
  refine ar_icmp_ge (pc := 73) (tgt := 85) dX1_record_73 (by decide) (fun c73 => False.elim (by (simp (disch := omega) only [Int32.lt_iff_toInt_lt, Int32.le_iff_toInt_le, ← Int32.toInt_inj, ti_m6, ti_m1, ti_0, ti_1, ti_2, ti_3, ti_4, ti_5, ti_6, ti_7, ti_8, ti_9, ti_12, ti_100, ti_9999, ti_60, nI_toInt] at c73) <;> omega)) (fun c73 => ?_)
  refine ar_aload_n (i := 0) (pc := 76) dX1_record_76 rfl rfl ?_
  refine ar_getf (pc := 77) dX1_record_77 fX1_17 rfl rfl ?_
  refine ar_iconst (pc := 80) dX1_record_80 q_iconst_1 ?_
  refine ar_iadd (pc := 81) dX1_record_81 ?_
  rw [nI_1]
  refine ar_goto (tgt := 86) (pc := 82) dX1_record_82 (by decide) ?_
  refine ar_putf (pc := 86) dX1_record_86 fX1_17 rfl (Nat.le_of_ble_eq_true rfl) (fun _ => ⟨rfl, rfl⟩) ?_
  refine ar_hp (h' := hy6 w ff o0 o1 (some v) o3 o4 o5 (nI 3) (nI m) v) rfl ?_
  refine ar_aload_n (i := 0) (pc := 89) dX1_record_89 rfl rfl ?_
  refine ar_aload_n (i := 0) (pc := 90) dX1_record_90 rfl rfl ?_
  refine ar_getf (pc := 91) dX1_record_91 fX1_26 rfl rfl ?_
  refine ar_iconst (pc := 94) dX1_record_94 q_iconst_1 ?_
  refine ar_iadd (pc := 95) dX1_record_95 ?_
  rw [nI_1]
  refine ar_aload_n (i := 0) (pc := 96) dX1_record_96 rfl rfl ?_
  refine ar_getf (pc := 97) dX1_record_97 fX1_11 rfl rfl ?_
  refine ar_alenq (pc := 100) dX1_record_100 rfl ?_
  rw [len6]
  refine ar_min (pc := 101) dX1_record_101 kX1_29 rfl rfl rfl rfl ?_
  rw [kp1_e hm]
  refine ar_putf (pc := 104) dX1_record_104 fX1_26 rfl (Nat.le_of_ble_eq_true rfl) (fun _ => ⟨rfl, rfl⟩) ?_
  exact ar_vret (pc := 107) dX1_record_107 rfl rfl rfl ⟨rfl, rfl⟩

set_option maxHeartbeats 4000000 in
set_option maxRecDepth 100000 in
theorem sX1_record_2s (w : Bool) (ff : Nat → Int32) (o0 o1 o3 o4 o5 : Option SV) (u : SV) (m : Nat) (hm : m ≤ 6) (v : SV) : am_Sp mX1_record [.ref 2, .ref 52] (hy6 w ff o0 o1 (some u) o3 o4 o5 (nI 2) (nI m) v) (am_vp (hy6 w ff o0 o1 (some v) o3 o4 o5 (nI 3) (nI (kp1 m)) v)) := by
  refine am_intro (by decide) (Nat.le_of_ble_eq_true rfl) ?_
  refine ar_aload_n (i := 0) (pc := 0) dX1_record_0 rfl rfl ?_
  refine ar_getf (pc := 1) dX1_record_1 fX1_17 rfl rfl ?_
  refine ar_if_lt (pc := 4) (tgt := 19) dX1_record_4 (by decide) (fun c4 => False.elim (by (simp (disch := omega) only [Int32.lt_iff_toInt_lt, Int32.le_iff_toInt_le, ← Int32.toInt_inj, ti_m6, ti_m1, ti_0, ti_1, ti_2, ti_3, ti_4, ti_5, ti_6, ti_7, ti_8, ti_9, ti_12, ti_100, ti_9999, ti_60, nI_toInt] at c4) <;> omega)) (fun c4 => ?_)
  refine ar_aload_n (i := 0) (pc := 7) dX1_record_7 rfl rfl ?_
  refine ar_getf (pc := 8) dX1_record_8 fX1_17 rfl rfl ?_
  refine ar_aload_n (i := 0) (pc := 11) dX1_record_11 rfl rfl ?_
  refine ar_getf (pc := 12) dX1_record_12 fX1_11 rfl rfl ?_
  refine ar_alenq (pc := 15) dX1_record_15 rfl ?_
  rw [len6]
  refine ar_icmp_lt (pc := 16) (tgt := 20) dX1_record_16 (by decide) (fun c16 => ?_) (fun c16 => False.elim (by (simp (disch := omega) only [Int32.lt_iff_toInt_lt, Int32.le_iff_toInt_le, ← Int32.toInt_inj, ti_m6, ti_m1, ti_0, ti_1, ti_2, ti_3, ti_4, ti_5, ti_6, ti_7, ti_8, ti_9, ti_12, ti_100, ti_9999, ti_60, nI_toInt] at c16) <;> omega))
  refine ar_aload_n (i := 0) (pc := 20) dX1_record_20 rfl rfl ?_
  refine ar_getf (pc := 21) dX1_record_21 fX1_11 rfl rfl ?_
  refine ar_aload_n (i := 0) (pc := 24) dX1_record_24 rfl rfl ?_
  refine ar_getf (pc := 25) dX1_record_25 fX1_17 rfl rfl ?_
  refine ar_aald (pc := 28) dX1_record_28 rfl rfl rfl ?_
  refine ar_ifnonnull (pc := 29) (tgt := 48) dX1_record_29 (by decide) ?_
  skip
  refine ar_aload_n (i := 0) (pc := 48) dX1_record_48 rfl rfl ?_
  refine ar_getf (pc := 49) dX1_record_49 fX1_11 rfl rfl ?_
  refine ar_aload_n (i := 0) (pc := 52) dX1_record_52 rfl rfl ?_
  refine ar_getf (pc := 53) dX1_record_53 fX1_17 rfl rfl ?_
  refine ar_aald (pc := 56) dX1_record_56 rfl rfl rfl ?_
  refine ar_aload_n (i := 1) (pc := 57) dX1_record_57 rfl rfl ?_
  refine ar_mc (pc := 58) (l := [0, 1, 20, 21, 22, 23, 24, 25, 26, 27, 52, 53, 54, 55, 56, 57, 58, 59]) (ar_rV dX1_record_58 cal_X3_copyFrom kX1_22 rfl (sX3_copyFrom u v) rfl rfl rfl rfl rfl okcf_2 rfl rfl) okcf_2 rfl rfl rfl rfl (fun r h1 hp => ?_)
  obtain ⟨rfl, rfl⟩ := hp
  refine ⟨rfl, ?_⟩
  rw [mrgh_2]
  refine ar_aload_n (i := 0) (pc := 61) dX1_record_61 rfl rfl ?_
  refine ar_aload_n (i := 0) (pc := 62) dX1_record_62 rfl rfl ?_
  refine ar_getf (pc := 63) dX1_record_63 fX1_17 rfl rfl ?_
  refine ar_iconst (pc := 66) dX1_record_66 q_iconst_1 ?_
  refine ar_iadd (pc := 67) dX1_record_67 ?_
  rw [nI_1]
  refine ar_aload_n (i := 0) (pc := 68) dX1_record_68 rfl rfl ?_
  refine ar_getf (pc := 69) dX1_record_69 fX1_11 rfl rfl ?_
  refine ar_alenq (pc := 72) dX1_record_72 rfl ?_
  rw [len6]
  refine ar_icmp_ge (pc := 73) (tgt := 85) dX1_record_73 (by decide) (fun c73 => False.elim (by (simp (disch := omega) only [Int32.lt_iff_toInt_lt, Int32.le_iff_toInt_le, ← Int32.toInt_inj, ti_m6, ti_m1, ti_0, ti_1, ti_2, ti_3, ti_4, ti_5, ti_6, ti_7, ti_8, ti_9, ti_12, ti_100, ti_9999, ti_60, nI_toInt] at c73) <;> omega)) (fun c73 => ?_)
  refine ar_aload_n (i := 0) (pc := 76) dX1_record_76 rfl rfl ?_
  refine ar_getf (pc := 77) dX1_record_77 fX1_17 rfl rfl ?_
  refine ar_iconst (pc := 80) dX1_record_80 q_iconst_1 ?_
  refine ar_iadd (pc := 81) dX1_record_81 ?_
  rw [nI_1]
  refine ar_goto (tgt := 86) (pc := 82) dX1_record_82 (by decide) ?_
  refine ar_putf (pc := 86) dX1_record_86 fX1_17 rfl (Nat.le_of_ble_eq_true rfl) (fun _ => ⟨rfl, rfl⟩) ?_
  refine ar_hp (h' := hy6 w ff o0 o1 (some v) o3 o4 o5 (nI 3) (nI m) v) rfl ?_
  refine ar_aload_n (i := 0) (pc := 89) dX1_record_89 rfl rfl ?_
  refine ar_aload_n (i := 0) (pc := 90) dX1_record_90 rfl rfl ?_
  refine ar_getf (pc := 91) dX1_record_91 fX1_26 rfl rfl ?_
  refine ar_iconst (pc := 94) dX1_record_94 q_iconst_1 ?_
  refine ar_iadd (pc := 95) dX1_record_95 ?_
  rw [nI_1]
  refine ar_aload_n (i := 0) (pc := 96) dX1_record_96 rfl rfl ?_
  refine ar_getf (pc := 97) dX1_record_97 fX1_11 rfl rfl ?_
  refine ar_alenq (pc := 100) dX1_record_100 rfl ?_
  rw [len6]
  refine ar_min (pc := 101) dX1_record_101 kX1_29 rfl rfl rfl rfl ?_
  rw [kp1_e hm]
  refine ar_putf (pc := 104) dX1_record_104 fX1_26 rfl (Nat.le_of_ble_eq_true rfl) (fun _ => ⟨rfl, rfl⟩) ?_
  exact ar_vret (pc := 107) dX1_record_107 rfl rfl rfl ⟨rfl, rfl⟩

theorem okin0_3 (w : Bool) : am_okmu [0, 1, 28, 29, 30, 31, 32, 33, 34, 35] [some w, none, some true, none, none, none, none, none, none, none] = true := by cases w <;> decide +kernel
theorem okin1_3 (w : Bool) : am_okmu [0, 1, 28, 29, 30, 31, 32, 33, 34, 35] [some w, none, some true, some true, some true, some true, some true, some true, some true, some true] = true := by cases w <;> decide +kernel
set_option maxHeartbeats 4000000 in
set_option maxRecDepth 100000 in
theorem sX1_record_3n (w : Bool) (ff : Nat → Int32) (o0 o1 o2 o4 o5 : Option SV) (m : Nat) (hm : m ≤ 6) (v : SV) : am_Sp mX1_record [.ref 2, .ref 52] (hy6 w ff o0 o1 o2 none o4 o5 (nI 3) (nI m) v) (am_vp (hy6 w ff o0 o1 o2 (some v) o4 o5 (nI 4) (nI (kp1 m)) v)) := by
  refine am_intro (by decide) (Nat.le_of_ble_eq_true rfl) ?_
  refine ar_aload_n (i := 0) (pc := 0) dX1_record_0 rfl rfl ?_
  refine ar_getf (pc := 1) dX1_record_1 fX1_17 rfl rfl ?_
  refine ar_if_lt (pc := 4) (tgt := 19) dX1_record_4 (by decide) (fun c4 => False.elim (by (simp (disch := omega) only [Int32.lt_iff_toInt_lt, Int32.le_iff_toInt_le, ← Int32.toInt_inj, ti_m6, ti_m1, ti_0, ti_1, ti_2, ti_3, ti_4, ti_5, ti_6, ti_7, ti_8, ti_9, ti_12, ti_100, ti_9999, ti_60, nI_toInt] at c4) <;> omega)) (fun c4 => ?_)
  refine ar_aload_n (i := 0) (pc := 7) dX1_record_7 rfl rfl ?_
  refine ar_getf (pc := 8) dX1_record_8 fX1_17 rfl rfl ?_
  refine ar_aload_n (i := 0) (pc := 11) dX1_record_11 rfl rfl ?_
  refine ar_getf (pc := 12) dX1_record_12 fX1_11 rfl rfl ?_
  refine ar_alenq (pc := 15) dX1_record_15 rfl ?_
  rw [len6]
  refine ar_icmp_lt (pc := 16) (tgt := 20) dX1_record_16 (by decide) (fun c16 => ?_) (fun c16 => False.elim (by (simp (disch := omega) only [Int32.lt_iff_toInt_lt, Int32.le_iff_toInt_le, ← Int32.toInt_inj, ti_m6, ti_m1, ti_0, ti_1, ti_2, ti_3, ti_4, ti_5, ti_6, ti_7, ti_8, ti_9, ti_12, ti_100, ti_9999, ti_60, nI_toInt] at c16) <;> omega))
  refine ar_aload_n (i := 0) (pc := 20) dX1_record_20 rfl rfl ?_
  refine ar_getf (pc := 21) dX1_record_21 fX1_11 rfl rfl ?_
  refine ar_aload_n (i := 0) (pc := 24) dX1_record_24 rfl rfl ?_
  refine ar_getf (pc := 25) dX1_record_25 fX1_17 rfl rfl ?_
  refine ar_aald (pc := 28) dX1_record_28 rfl rfl rfl ?_
  refine ar_ifnonnullN (pc := 29) dX1_record_29 ?_
  refine ar_aload_n (i := 0) (pc := 32) dX1_record_32 rfl rfl ?_
  refine ar_getf (pc := 33) dX1_record_33 fX1_11 rfl rfl ?_
  refine ar_aload_n (i := 0) (pc := 36) dX1_record_36 rfl rfl ?_
  refine ar_getf (pc := 37) dX1_record_37 fX1_17 rfl rfl ?_
  refine ar_new (pc := 40) (k := 28) dX1_record_40 wX1_9 rfl (by decide) (by cases o0 <;> cases o1 <;> cases o2 <;> cases o4 <;> cases o5 <;> rfl) (Nat.le_of_ble_eq_true rfl) (Nat.le_of_ble_eq_true rfl) ?_
  refine ar_dup (pc := 43) dX1_record_43 rfl ?_
  refine ar_nc (pc := 44) (l := [0, 1, 28, 29, 30, 31, 32, 33, 34, 35]) (p0 := [some w, none, some true, none, none, none, none, none, none, none]) (p1 := [some w, none, some true, some true, some true, some true, some true, some true, some true, some true]) (ar_rI dX1_record_44 cal_X3_init rfl rfl kX1_21 rfl (sX3_init w ff) rfl rfl rfl (okin0_3 w) rfl rfl) (okin1_3 w) (by cases w <;> rfl) rfl rfl rfl (by cases o0 <;> cases o1 <;> cases o2 <;> cases o4 <;> cases o5 <;> rfl) rfl rfl (fun r h1 hp => ?_)
  obtain ⟨rfl, rfl⟩ := hp
  refine ⟨⟨rfl, rfl⟩, ?_⟩
  refine ar_aast (pc := 47) dX1_record_47 rfl rfl (Nat.le_of_ble_eq_true rfl) rfl ?_
  refine ar_hp (mrgin_3 w ff o0 o1 o2 o4 o5 (v0 ff) v _ _ _) ?_
  refine ar_aload_n (i := 0) (pc := 48) dX1_record_48 rfl rfl ?_
  refine ar_getf (pc := 49) dX1_record_49 fX1_11 rfl rfl ?_
  refine ar_aload_n (i := 0) (pc := 52) dX1_record_52 rfl rfl ?_
  refine ar_getf (pc := 53) dX1_record_53 fX1_17 rfl rfl ?_
  refine ar_aald (pc := 56) dX1_record_56 rfl rfl rfl ?_
  refine ar_aload_n (i := 1) (pc := 57) dX1_record_57 rfl rfl ?_
  refine ar_mc (pc := 58) (l := [0, 1, 28, 29, 30, 31, 32, 33, 34, 35, 52, 53, 54, 55, 56, 57, 58, 59]) (ar_rV dX1_record_58 cal_X3_copyFrom kX1_22 rfl (sX3_copyFrom (v0 ff) v) rfl rfl rfl rfl rfl okcf_3 rfl rfl) okcf_3 rfl rfl rfl rfl (fun r h1 hp => ?_)
  obtain ⟨rfl, rfl⟩ := hp
  refine ⟨rfl, ?_⟩
  rw [mrgh_3]
  refine ar_aload_n (i := 0) (pc := 61) dX1_record_61 rfl rfl ?_
  refine ar_aload_n (i := 0) (pc := 62) dX1_record_62 rfl rfl ?_
  refine ar_getf (pc := 63) dX1_record_63 fX1_17 rfl rfl ?_
  refine ar_iconst (pc := 66) dX1_record_66 q_iconst_1 ?_
  refine ar_iadd (pc := 67) dX1_record_67 ?_
  rw [nI_1]
  refine ar_aload_n (i := 0) (pc := 68) dX1_record_68 rfl rfl ?_
  refine ar_getf (pc := 69) dX1_record_69 fX1_11 rfl rfl ?_
  refine ar_alenq (pc := 72) dX1_record_72 rfl ?_
  rw [len6]
  refine ar_icmp_ge (pc := 73) (tgt := 85) dX1_record_73 (by decide) (fun c73 => False.elim (by (simp (disch := omega) only [Int32.lt_iff_toInt_lt, Int32.le_iff_toInt_le, ← Int32.toInt_inj, ti_m6, ti_m1, ti_0, ti_1, ti_2, ti_3, ti_4, ti_5, ti_6, ti_7, ti_8, ti_9, ti_12, ti_100, ti_9999, ti_60, nI_toInt] at c73) <;> omega)) (fun c73 => ?_)
  refine ar_aload_n (i := 0) (pc := 76) dX1_record_76 rfl rfl ?_
  refine ar_getf (pc := 77) dX1_record_77 fX1_17 rfl rfl ?_
  refine ar_iconst (pc := 80) dX1_record_80 q_iconst_1 ?_
  refine ar_iadd (pc := 81) dX1_record_81 ?_
  rw [nI_1]
  refine ar_goto (tgt := 86) (pc := 82) dX1_record_82 (by decide) ?_
  refine ar_putf (pc := 86) dX1_record_86 fX1_17 rfl (Nat.le_of_ble_eq_true rfl) (fun _ => ⟨rfl, rfl⟩) ?_
  refine ar_hp (h' := hy6 w ff o0 o1 o2 (some v) o4 o5 (nI 4) (nI m) v) rfl ?_
  refine ar_aload_n (i := 0) (pc := 89) dX1_record_89 rfl rfl ?_
  refine ar_aload_n (i := 0) (pc := 90) dX1_record_90 rfl rfl ?_
  refine ar_getf (pc := 91) dX1_record_91 fX1_26 rfl rfl ?_
  refine ar_iconst (pc := 94) dX1_record_94 q_iconst_1 ?_
  refine ar_iadd (pc := 95) dX1_record_95 ?_
  rw [nI_1]
  refine ar_aload_n (i := 0) (pc := 96) dX1_record_96 rfl rfl ?_
  refine ar_getf (pc := 97) dX1_record_97 fX1_11 rfl rfl ?_
  refine ar_alenq (pc := 100) dX1_record_100 rfl ?_
  rw [len6]
  refine ar_min (pc := 101) dX1_record_101 kX1_29 rfl rfl rfl rfl ?_
  rw [kp1_e hm]
  refine ar_putf (pc := 104) dX1_record_104 fX1_26 rfl (Nat.le_of_ble_eq_true rfl) (fun _ => ⟨rfl, rfl⟩) ?_
  exact ar_vret (pc := 107) dX1_record_107 rfl rfl rfl ⟨rfl, rfl⟩

set_option maxHeartbeats 4000000 in
set_option maxRecDepth 100000 in
theorem sX1_record_3s (w : Bool) (ff : Nat → Int32) (o0 o1 o2 o4 o5 : Option SV) (u : SV) (m : Nat) (hm : m ≤ 6) (v : SV) : am_Sp mX1_record [.ref 2, .ref 52] (hy6 w ff o0 o1 o2 (some u) o4 o5 (nI 3) (nI m) v) (am_vp (hy6 w ff o0 o1 o2 (some v) o4 o5 (nI 4) (nI (kp1 m)) v)) := by
  refine am_intro (by decide) (Nat.le_of_ble_eq_true rfl) ?_
  refine ar_aload_n (i := 0) (pc := 0) dX1_record_0 rfl rfl ?_
  refine ar_getf (pc := 1) dX1_record_1 fX1_17 rfl rfl ?_
  refine ar_if_lt (pc := 4) (tgt := 19) dX1_record_4 (by decide) (fun c4 => False.elim (by (simp (disch := omega) only [Int32.lt_iff_toInt_lt, Int32.le_iff_toInt_le, ← Int32.toInt_inj, ti_m6, ti_m1, ti_0, ti_1, ti_2, ti_3, ti_4, ti_5, ti_6, ti_7, ti_8, ti_9, ti_12, ti_100, ti_9999, ti_60, nI_toInt] at c4) <;> omega)) (fun c4 => ?_)
  refine ar_aload_n (i := 0) (pc := 7) dX1_record_7 rfl rfl ?_
  refine ar_getf (pc := 8) dX1_record_8 fX1_17 rfl rfl ?_
  refine ar_aload_n (i := 0) (pc := 11) dX1_record_11 rfl rfl ?_
  refine ar_getf (pc := 12) dX1_record_12 fX1_11 rfl rfl ?_
  refine ar_alenq (pc := 15) dX1_record_15 rfl ?_
  rw [len6]
  refine ar_icmp_lt (pc := 16) (tgt := 20) dX1_record_16 (by decide) (fun c16 => ?_) (fun c16 => False.elim (by (simp (disch := omega) only [Int32.lt_iff_toInt_lt, Int32.le_iff_toInt_le, ← Int32.toInt_inj, ti_m6, ti_m1, ti_0, ti_1, ti_2, ti_3, ti_4, ti_5, ti_6, ti_7, ti_8, ti_9, ti_12, ti_100, ti_9999, ti_60, nI_toInt] at c16) <;> omega))
  refine ar_aload_n (i := 0) (pc := 20) dX1_record_20 rfl rfl ?_
  refine ar_getf (pc := 21) dX1_record_21 fX1_11 rfl rfl ?_
  refine ar_aload_n (i := 0) (pc := 24) dX1_record_24 rfl rfl ?_
  refine ar_getf (pc := 25) dX1_record_25 fX1_17 rfl rfl ?_
  refine ar_aald (pc := 28) dX1_record_28 rfl rfl rfl ?_
  refine ar_ifnonnull (pc := 29) (tgt := 48) dX1_record_29 (by decide) ?_
  skip
  refine ar_aload_n (i := 0) (pc := 48) dX1_record_48 rfl rfl ?_
  refine ar_getf (pc := 49) dX1_record_49 fX1_11 rfl rfl ?_
  refine ar_aload_n (i := 0) (pc := 52) dX1_record_52 rfl rfl ?_
  refine ar_getf (pc := 53) dX1_record_53 fX1_17 rfl rfl ?_
  refine ar_aald (pc := 56) dX1_record_56 rfl rfl rfl ?_
  refine ar_aload_n (i := 1) (pc := 57) dX1_record_57 rfl rfl ?_
  refine ar_mc (pc := 58) (l := [0, 1, 28, 29, 30, 31, 32, 33, 34, 35, 52, 53, 54, 55, 56, 57, 58, 59]) (ar_rV dX1_record_58 cal_X3_copyFrom kX1_22 rfl (sX3_copyFrom u v) rfl rfl rfl rfl rfl okcf_3 rfl rfl) okcf_3 rfl rfl rfl rfl (fun r h1 hp => ?_)
  obtain ⟨rfl, rfl⟩ := hp
  refine ⟨rfl, ?_⟩
  rw [mrgh_3]
  refine ar_aload_n (i := 0) (pc := 61) dX1_record_61 rfl rfl ?_
  refine ar_aload_n (i := 0) (pc := 62) dX1_record_62 rfl rfl ?_
  refine ar_getf (pc := 63) dX1_record_63 fX1_17 rfl rfl ?_
  refine ar_iconst (pc := 66) dX1_record_66 q_iconst_1 ?_
  refine ar_iadd (pc := 67) dX1_record_67 ?_
  rw [nI_1]
  refine ar_aload_n (i := 0) (pc := 68) dX1_record_68 rfl rfl ?_
  refine ar_getf (pc := 69) dX1_record_69 fX1_11 rfl rfl ?_
  refine ar_alenq (pc := 72) dX1_record_72 rfl ?_
  rw [len6]
  refine ar_icmp_ge (pc := 73) (tgt := 85) dX1_record_73 (by decide) (fun c73 => False.elim (by (simp (disch := omega) only [Int32.lt_iff_toInt_lt, Int32.le_iff_toInt_le, ← Int32.toInt_inj, ti_m6, ti_m1, ti_0, ti_1, ti_2, ti_3, ti_4, ti_5, ti_6, ti_7, ti_8, ti_9, ti_12, ti_100, ti_9999, ti_60, nI_toInt] at c73) <;> omega)) (fun c73 => ?_)
  refine ar_aload_n (i := 0) (pc := 76) dX1_record_76 rfl rfl ?_
  refine ar_getf (pc := 77) dX1_record_77 fX1_17 rfl rfl ?_
  refine ar_iconst (pc := 80) dX1_record_80 q_iconst_1 ?_
  refine ar_iadd (pc := 81) dX1_record_81 ?_
  rw [nI_1]
  refine ar_goto (tgt := 86) (pc := 82) dX1_record_82 (by decide) ?_
  refine ar_putf (pc := 86) dX1_record_86 fX1_17 rfl (Nat.le_of_ble_eq_true rfl) (fun _ => ⟨rfl, rfl⟩) ?_
  refine ar_hp (h' := hy6 w ff o0 o1 o2 (some v) o4 o5 (nI 4) (nI m) v) rfl ?_
  refine ar_aload_n (i := 0) (pc := 89) dX1_record_89 rfl rfl ?_
  refine ar_aload_n (i := 0) (pc := 90) dX1_record_90 rfl rfl ?_
  refine ar_getf (pc := 91) dX1_record_91 fX1_26 rfl rfl ?_
  refine ar_iconst (pc := 94) dX1_record_94 q_iconst_1 ?_
  refine ar_iadd (pc := 95) dX1_record_95 ?_
  rw [nI_1]
  refine ar_aload_n (i := 0) (pc := 96) dX1_record_96 rfl rfl ?_
  refine ar_getf (pc := 97) dX1_record_97 fX1_11 rfl rfl ?_
  refine ar_alenq (pc := 100) dX1_record_100 rfl ?_
  rw [len6]
  refine ar_min (pc := 101) dX1_record_101 kX1_29 rfl rfl rfl rfl ?_
  rw [kp1_e hm]
  refine ar_putf (pc := 104) dX1_record_104 fX1_26 rfl (Nat.le_of_ble_eq_true rfl) (fun _ => ⟨rfl, rfl⟩) ?_
  exact ar_vret (pc := 107) dX1_record_107 rfl rfl rfl ⟨rfl, rfl⟩

theorem okin0_4 (w : Bool) : am_okmu [0, 1, 36, 37, 38, 39, 40, 41, 42, 43] [some w, none, some true, none, none, none, none, none, none, none] = true := by cases w <;> decide +kernel
theorem okin1_4 (w : Bool) : am_okmu [0, 1, 36, 37, 38, 39, 40, 41, 42, 43] [some w, none, some true, some true, some true, some true, some true, some true, some true, some true] = true := by cases w <;> decide +kernel
set_option maxHeartbeats 4000000 in
set_option maxRecDepth 100000 in
theorem sX1_record_4n (w : Bool) (ff : Nat → Int32) (o0 o1 o2 o3 o5 : Option SV) (m : Nat) (hm : m ≤ 6) (v : SV) : am_Sp mX1_record [.ref 2, .ref 52] (hy6 w ff o0 o1 o2 o3 none o5 (nI 4) (nI m) v) (am_vp (hy6 w ff o0 o1 o2 o3 (some v) o5 (nI 5) (nI (kp1 m)) v)) := by
  refine am_intro (by decide) (Nat.le_of_ble_eq_true rfl) ?_
  refine ar_aload_n (i := 0) (pc := 0) dX1_record_0 rfl rfl ?_
  refine ar_getf (pc := 1) dX1_record_1 fX1_17 rfl rfl ?_
  refine ar_if_lt (pc := 4) (tgt := 19) dX1_record_4 (by decide) (fun c4 => False.elim (by (simp (disch := omega) only [Int32.lt_iff_toInt_lt, Int32.le_iff_toInt_le, ← Int32.toInt_inj, ti_m6, ti_m1, ti_0, ti_1, ti_2, ti_3, ti_4, ti_5, ti_6, ti_7, ti_8, ti_9, ti_12, ti_100, ti_9999, ti_60, nI_toInt] at c4) <;> omega)) (fun c4 => ?_)
  refine ar_aload_n (i := 0) (pc := 7) dX1_record_7 rfl rfl ?_
  refine ar_getf (pc := 8) dX1_record_8 fX1_17 rfl rfl ?_
  refine ar_aload_n (i := 0) (pc := 11) dX1_record_11 rfl rfl ?_
  refine ar_getf (pc := 12) dX1_record_12 fX1_11 rfl rfl ?_
  refine ar_alenq (pc := 15) dX1_record_15 rfl ?_
  rw [len6]
  refine ar_icmp_lt (pc := 16) (tgt := 20) dX1_record_16 (by decide) (fun c16 => ?_) (fun c16 => False.elim (by (simp (disch := omega) only [Int32.lt_iff_toInt_lt, Int32.le_iff_toInt_le, ← Int32.toInt_inj, ti_m6, ti_m1, ti_0, ti_1, ti_2, ti_3, ti_4, ti_5, ti_6, ti_7, ti_8, ti_9, ti_12, ti_100, ti_9999, ti_60, nI_toInt] at c16) <;> omega))
  refine ar_aload_n (i := 0) (pc := 20) dX1_record_20 rfl rfl ?_
  refine ar_getf (pc := 21) dX1_record_21 fX1_11 rfl rfl ?_
  refine ar_aload_n (i := 0) (pc := 24) dX1_record_24 rfl rfl ?_
  refine ar_getf (pc := 25) dX1_record_25 fX1_17 rfl rfl ?_
  refine ar_aald (pc := 28) dX1_record_28 rfl rfl rfl ?_
  refine ar_ifnonnullN (pc := 29) dX1_record_29 ?_
  refine ar_aload_n (i := 0) (pc := 32) dX1_record_32 rfl rfl ?_
  refine ar_getf (pc := 33) dX1_record_33 fX1_11 rfl rfl ?_
  refine ar_aload_n (i := 0) (pc := 36) dX1_record_36 rfl rfl ?_
  refine ar_getf (pc := 37) dX1_record_37 fX1_17 rfl rfl ?_
  refine ar_new (pc := 40) (k := 36) dX1_record_40 wX1_9 rfl (by decide) (by cases o0 <;> cases o1 <;> cases o2 <;> cases o3 <;> cases o5 <;> rfl) (Nat.le_of_ble_eq_true rfl) (Nat.le_of_ble_eq_true rfl) ?_
  refine ar_dup (pc := 43) dX1_record_43 rfl ?_
  refine ar_nc (pc := 44) (l := [0, 1, 36, 37, 38, 39, 40, 41, 42, 43]) (p0 := [some w, none, some true, none, none, none, none, none, none, none]) (p1 := [some w, none, some true, some true, some true, some true, some true, some true, some true, some true]) (ar_rI dX1_record_44 cal_X3_init rfl rfl kX1_21 rfl (sX3_init w ff) rfl rfl rfl (okin0_4 w) rfl rfl) (okin1_4 w) (by cases w <;> rfl) rfl rfl rfl (by cases o0 <;> cases o1 <;> cases o2 <;> cases o3 <;> cases o5 <;> rfl) rfl rfl (fun r h1 hp => ?_)
  obtain ⟨rfl, rfl⟩ := hp
  refine ⟨⟨rfl, rfl⟩, ?_⟩
  refine ar_aast (pc := 47) dX1_record_47 rfl rfl (Nat.le_of_ble_eq_true rfl) rfl ?_
  refine ar_hp (mrgin_4 w ff o0 o1 o2 o3 o5 (v0 ff) v _ _ _) ?_
  refine ar_aload_n (i := 0) (pc := 48) dX1_record_48 rfl rfl ?_
  refine ar_getf (pc := 49) dX1_record_49 fX1_11 rfl rfl ?_
  refine ar_aload_n (i := 0) (pc := 52) dX1_record_52 rfl rfl ?_
  refine ar_getf (pc := 53) dX1_record_53 fX1_17 rfl rfl ?_
  refine ar_aald (pc := 56) dX1_record_56 rfl rfl rfl ?_
  refine ar_aload_n (i := 1) (pc := 57) dX1_record_57 rfl rfl ?_
  refine ar_mc (pc := 58) (l := [0, 1, 36, 37, 38, 39, 40, 41, 42, 43, 52, 53, 54, 55, 56, 57, 58, 59]) (ar_rV dX1_record_58 cal_X3_copyFrom kX1_22 rfl (sX3_copyFrom (v0 ff) v) rfl rfl rfl rfl rfl okcf_4 rfl rfl) okcf_4 rfl rfl rfl rfl (fun r h1 hp => ?_)
  obtain ⟨rfl, rfl⟩ := hp
  refine ⟨rfl, ?_⟩
  rw [mrgh_4]
  refine ar_aload_n (i := 0) (pc := 61) dX1_record_61 rfl rfl ?_
  refine ar_aload_n (i := 0) (pc := 62) dX1_record_62 rfl rfl ?_
  refine ar_getf (pc := 63) dX1_record_63 fX1_17 rfl rfl ?_
  refine ar_iconst (pc := 66) dX1_record_66 q_iconst_1 ?_
  refine ar_iadd (pc := 67) dX1_record_67 ?_
  rw [nI_1]
  refine ar_aload_n (i := 0) (pc := 68) dX1_record_68 rfl rfl ?_
  refine ar_getf (pc := 69) dX1_record_69 fX1_11 rfl rfl ?_
  refine ar_alenq (pc := 72) dX1_record_72 rfl ?_
  rw [len6]
  refine ar_icmp_ge (pc := 73) (tgt := 85) dX1_record_73 (by decide) (fun c73 => False.elim (by (simp (disch := omega) only [Int32.lt_iff_toInt_lt, Int32.le_iff_toInt_le, ← Int32.toInt_inj, ti_m6, ti_m1, ti_0, ti_1, ti_2, ti_3, ti_4, ti_5, ti_6, ti_7, ti_8, ti_9, ti_12, ti_100, ti_9999, ti_60, nI_toInt] at c73) <;> omega)) (fun c73 => ?_)
  refine ar_aload_n (i := 0) (pc := 76) dX1_record_76 rfl rfl ?_
  refine ar_getf (pc := 77) dX1_record_77 fX1_17 rfl rfl ?_
  refine ar_iconst (pc := 80) dX1_record_80 q_iconst_1 ?_
  refine ar_iadd (pc := 81) dX1_record_81 ?_
  rw [nI_1]
  refine ar_goto (tgt := 86) (pc := 82) dX1_record_82 (by decide) ?_
  refine ar_putf (pc := 86) dX1_record_86 fX1_17 rfl (Nat.le_of_ble_eq_true rfl) (fun _ => ⟨rfl, rfl⟩) ?_
  refine ar_hp (h' := hy6 w ff o0 o1 o2 o3 (some v) o5 (nI 5) (nI m) v) rfl ?_
  refine ar_aload_n (i := 0) (pc := 89) dX1_record_89 rfl rfl ?_
  refine ar_aload_n (i := 0) (pc := 90) dX1_record_90 rfl rfl ?_
  refine ar_getf (pc := 91) dX1_record_91 fX1_26 rfl rfl ?_
  refine ar_iconst (pc := 94) dX1_record_94 q_iconst_1 ?_
  refine ar_iadd (pc := 95) dX1_record_95 ?_
  rw [nI_1]
  refine ar_aload_n (i := 0) (pc := 96) dX1_record_96 rfl rfl ?_
  refine ar_getf (pc := 97) dX1_record_97 fX1_11 rfl rfl ?_
  refine ar_alenq (pc := 100) dX1_record_100 rfl ?_
  rw [len6]
  refine ar_min (pc := 101) dX1_record_101 kX1_29 rfl rfl rfl rfl ?_
  rw [kp1_e hm]
  refine ar_putf (pc := 104) dX1_record_104 fX1_26 rfl (Nat.le_of_ble_eq_true rfl) (fun _ => ⟨rfl, rfl⟩) ?_
  exact ar_vret (pc := 107) dX1_record_107 rfl rfl rfl ⟨rfl, rfl⟩

set_option maxHeartbeats 4000000 in
set_option maxRecDepth 100000 in
theorem sX1_record_4s (w : Bool) (ff : Nat → Int32) (o0 o1 o2 o3 o5 : Option SV) (u : SV) (m : Nat) (hm : m ≤ 6) (v : SV) : am_Sp mX1_record [.ref 2, .ref 52] (hy6 w ff o0 o1 o2 o3 (some u) o5 (nI 4) (nI m) v) (am_vp (hy6 w ff o0 o1 o2 o3 (some v) o5 (nI 5) (nI (kp1 m)) v)) := by
  refine am_intro (by decide) (Nat.le_of_ble_eq_true rfl) ?_
  refine ar_aload_n (i := 0) (pc := 0) dX1_record_0 rfl rfl ?_
  refine ar_getf (pc := 1) dX1_record_1 fX1_17 rfl rfl ?_
  refine ar_if_lt (pc := 4) (tgt := 19) dX1_record_4 (by decide) (fun c4 => False.elim (by (simp (disch := omega) only [Int32.lt_iff_toInt_lt, Int32.le_iff_toInt_le, ← Int32.toInt_inj, ti_m6, ti_m1, ti_0, ti_1, ti_2, ti_3, ti_4, ti_5, ti_6, ti_7, ti_8, ti_9, ti_12, ti_100, ti_9999, ti_60, nI_toInt] at c4) <;> omega)) (fun c4 => ?_)
  refine ar_aload_n (i := 0) (pc := 7) dX1_record_7 rfl rfl ?_
  refine ar_getf (pc := 8) dX1_record_8 fX1_17 rfl rfl ?_
  refine ar_aload_n (i := 0) (pc := 11) dX1_record_11 rfl rfl ?_
  refine ar_getf (pc := 12) dX1_record_12 fX1_11 rfl rfl ?_
  refine ar_alenq (pc := 15) dX1_record_15 rfl ?_
  rw [len6]
  refine ar_icmp_lt (pc := 16) (tgt := 20) dX1_record_16 (by decide) (fun c16 => ?_) (fun c16 => False.elim (by (simp (disch := omega) only [Int32.lt_iff_toInt_lt, Int32.le_iff_toInt_le, ← Int32.toInt_inj, ti_m6, ti_m1, ti_0, ti_1, ti_2, ti_3, ti_4, ti_5, ti_6, ti_7, ti_8, ti_9, ti_12, ti_100, ti_9999, ti_60, nI_toInt] at c16) <;> omega))
  refine ar_aload_n (i := 0) (pc := 20) dX1_record_20 rfl rfl ?_
  refine ar_getf (pc := 21) dX1_record_21 fX1_11 rfl rfl ?_
  refine ar_aload_n (i := 0) (pc := 24) dX1_record_24 rfl rfl ?_
  refine ar_getf (pc := 25) dX1_record_25 fX1_17 rfl rfl ?_
  refine ar_aald (pc := 28) dX1_record_28 rfl rfl rfl ?_
  refine ar_ifnonnull (pc := 29) (tgt := 48) dX1_record_29 (by decide) ?_
  skip
  refine ar_aload_n (i := 0) (pc := 48) dX1_record_48 rfl rfl ?_
  refine ar_getf (pc := 49) dX1_record_49 fX1_11 rfl rfl ?_
  refine ar_aload_n (i := 0) (pc := 52) dX1_record_52 rfl rfl ?_
  refine ar_getf (pc := 53) dX1_record_53 fX1_17 rfl rfl ?_
  refine ar_aald (pc := 56) dX1_record_56 rfl rfl rfl ?_
  refine ar_aload_n (i := 1) (pc := 57) dX1_record_57 rfl rfl ?_
  refine ar_mc (pc := 58) (l := [0, 1, 36, 37, 38, 39, 40, 41, 42, 43, 52, 53, 54, 55, 56, 57, 58, 59]) (ar_rV dX1_record_58 cal_X3_copyFrom kX1_22 rfl (sX3_copyFrom u v) rfl rfl rfl rfl rfl okcf_4 rfl rfl) okcf_4 rfl rfl rfl rfl (fun r h1 hp => ?_)
  obtain ⟨rfl, rfl⟩ := hp
  refine ⟨rfl, ?_⟩
  rw [mrgh_4]
  refine ar_aload_n (i := 0) (pc := 61) dX1_record_61 rfl rfl ?_
  refine ar_aload_n (i := 0) (pc := 62) dX1_record_62 rfl rfl ?_
  refine ar_getf (pc := 63) dX1_record_63 fX1_17 rfl rfl ?_
  refine ar_iconst (pc := 66) dX1_record_66 q_iconst_1 ?_
  refine ar_iadd (pc := 67) dX1_record_67 ?_
  rw [nI_1]
  refine ar_aload_n (i := 0) (pc := 68) dX1_record_68 rfl rfl ?_
  refine ar_getf (pc := 69) dX1_record_69 fX1_11 rfl rfl ?_
  refine ar_alenq (pc := 72) dX1_record_72 rfl ?_
  rw [len6]
  refine ar_icmp_ge (pc := 73) (tgt := 85) dX1_record_73 (by decide) (fun c73 => False.elim (by (simp (disch := omega) only [Int32.lt_iff_toInt_lt, Int32.le_iff_toInt_le, ← Int32.toInt_inj, ti_m6, ti_m1, ti_0, ti_1, ti_2, ti_3, ti_4, ti_5, ti_6, ti_7, ti_8, ti_9, ti_12, ti_100, ti_9999, ti_60, nI_toInt] at c73) <;> omega)) (fun c73 => ?_)
  refine ar_aload_n (i := 0) (pc := 76) dX1_record_76 rfl rfl ?_
  refine ar_getf (pc := 77) dX1_record_77 fX1_17 rfl rfl ?_
  refine ar_iconst (pc := 80) dX1_record_80 q_iconst_1 ?_
  refine ar_iadd (pc := 81) dX1_record_81 ?_
  rw [nI_1]
  refine ar_goto (tgt := 86) (pc := 82) dX1_record_82 (by decide) ?_
  refine ar_putf (pc := 86) dX1_record_86 fX1_17 rfl (Nat.le_of_ble_eq_true rfl) (fun _ => ⟨rfl, rfl⟩) ?_
  refine ar_hp (h' := hy6 w ff o0 o1 o2 o3 (some v) o5 (nI 5) (nI m) v) rfl ?_
  refine ar_aload_n (i := 0) (pc := 89) dX1_record_89 rfl rfl ?_
  refine ar_aload_n (i := 0) (pc := 90) dX1_record_90 rfl rfl ?_
  refine ar_getf (pc := 91) dX1_record_91 fX1_26 rfl rfl ?_
  refine ar_iconst (pc := 94) dX1_record_94 q_iconst_1 ?_
  refine ar_iadd (pc := 95) dX1_record_95 ?_
  rw [nI_1]
  refine ar_aload_n (i := 0) (pc := 96) dX1_record_96 rfl rfl ?_
  refine ar_getf (pc := 97) dX1_record_97 fX1_11 rfl rfl ?_
  refine ar_alenq (pc := 100) dX1_record_100 rfl ?_
  rw [len6]
  refine ar_min (pc := 101) dX1_record_101 kX1_29 rfl rfl rfl rfl ?_
  rw [kp1_e hm]
  refine ar_putf (pc := 104) dX1_record_104 fX1_26 rfl (Nat.le_of_ble_eq_true rfl) (fun _ => ⟨rfl, rfl⟩) ?_
  exact ar_vret (pc := 107) dX1_record_107 rfl rfl rfl ⟨rfl, rfl⟩

theorem okin0_5 (w : Bool) : am_okmu [0, 1, 44, 45, 46, 47, 48, 49, 50, 51] [some w, none, some true, none, none, none, none, none, none, none] = true := by cases w <;> decide +kernel
theorem okin1_5 (w : Bool) : am_okmu [0, 1, 44, 45, 46, 47, 48, 49, 50, 51] [some w, none, some true, some true, some true, some true, some true, some true, some true, some true] = true := by cases w <;> decide +kernel
set_option maxHeartbeats 4000000 in
set_option maxRecDepth 100000 in
theorem sX1_record_5n (w : Bool) (ff : Nat → Int32) (o0 o1 o2 o3 o4 : Option SV) (m : Nat) (hm : m ≤ 6) (v : SV) : am_Sp mX1_record [.ref 2, .ref 52] (hy6 w ff o0 o1 o2 o3 o4 none (nI 5) (nI m) v) (am_vp (hy6 w ff o0 o1 o2 o3 o4 (some v) (0) (nI (kp1 m)) v)) := by
  refine am_intro (by decide) (Nat.le_of_ble_eq_true rfl) ?_
  refine ar_aload_n (i := 0) (pc := 0) dX1_record_0 rfl rfl ?_
  refine ar_getf (pc := 1) dX1_record_1 fX1_17 rfl rfl ?_
  refine ar_if_lt (pc := 4) (tgt := 19) dX1_record_4 (by decide) (fun c4 => False.elim (by (simp (disch := omega) only [Int32.lt_iff_toInt_lt, Int32.le_iff_toInt_le, ← Int32.toInt_inj, ti_m6, ti_m1, ti_0, ti_1, ti_2, ti_3, ti_4, ti_5, ti_6, ti_7, ti_8, ti_9, ti_12, ti_100, ti_9999, ti_60, nI_toInt] at c4) <;> omega)) (fun c4 => ?_)
  refine ar_aload_n (i := 0) (pc := 7) dX1_record_7 rfl rfl ?_
  refine ar_getf (pc := 8) dX1_record_8 fX1_17 rfl rfl ?_
  refine ar_aload_n (i := 0) (pc := 11) dX1_record_11 rfl rfl ?_
  refine ar_getf (pc := 12) dX1_record_12 fX1_11 rfl rfl ?_
  refine ar_alenq (pc := 15) dX1_record_15 rfl ?_
  rw [len6]
  refine ar_icmp_lt (pc := 16) (tgt := 20) dX1_record_16 (by decide) (fun c16 => ?_) (fun c16 => False.elim (by (simp (disch := omega) only [Int32.lt_iff_toInt_lt, Int32.le_iff_toInt_le, ← Int32.toInt_inj, ti_m6, ti_m1, ti_0, ti_1, ti_2, ti_3, ti_4, ti_5, ti_6, ti_7, ti_8, ti_9, ti_12, ti_100, ti_9999, ti_60, nI_toInt] at c16) <;> omega))
  refine ar_aload_n (i := 0) (pc := 20) dX1_record_20 rfl rfl ?_
  refine ar_getf (pc := 21) dX1_record_21 fX1_11 rfl rfl ?_
  refine ar_aload_n (i := 0) (pc := 24) dX1_record_24 rfl rfl ?_
  refine ar_getf (pc := 25) dX1_record_25 fX1_17 rfl rfl ?_
  refine ar_aald (pc := 28) dX1_record_28 rfl rfl rfl ?_
  refine ar_ifnonnullN (pc := 29) dX1_record_29 ?_
  refine ar_aload_n (i := 0) (pc := 32) dX1_record_32 rfl rfl ?_
  refine ar_getf (pc := 33) dX1_record_33 fX1_11 rfl rfl ?_
  refine ar_aload_n (i := 0) (pc := 36) dX1_record_36 rfl rfl ?_
  refine ar_getf (pc := 37) dX1_record_37 fX1_17 rfl rfl ?_
  refine ar_new (pc := 40) (k := 44) dX1_record_40 wX1_9 rfl (by decide) (by cases o0 <;> cases o1 <;> cases o2 <;> cases o3 <;> cases o4 <;> rfl) (Nat.le_of_ble_eq_true rfl) (Nat.le_of_ble_eq_true rfl) ?_
  refine ar_dup (pc := 43) dX1_record_43 rfl ?_
  refine ar_nc (pc := 44) (l := [0, 1, 44, 45, 46, 47, 48, 49, 50, 51]) (p0 := [some w, none, some true, none, none, none, none, none, none, none]) (p1 := [some w, none, some true, some true, some true, some true, some true, some true, some true, some true]) (ar_rI dX1_record_44 cal_X3_init rfl rfl kX1_21 rfl (sX3_init w ff) rfl rfl rfl (okin0_5 w) rfl rfl) (okin1_5 w) (by cases w <;> rfl) rfl rfl rfl (by cases o0 <;> cases o1 <;> cases o2 <;> cases o3 <;> cases o4 <;> rfl) rfl rfl (fun r h1 hp => ?_)
  obtain ⟨rfl, rfl⟩ := hp
  refine ⟨⟨rfl, rfl⟩, ?_⟩
  refine ar_aast (pc := 47) dX1_record_47 rfl rfl (Nat.le_of_ble_eq_true rfl) rfl ?_
  refine ar_hp (mrgin_5 w ff o0 o1 o2 o3 o4 (v0 ff) v _ _ _) ?_
  refine ar_aload_n (i := 0) (pc := 48) dX1_record_48 rfl rfl ?_
  refine ar_getf (pc := 49) dX1_record_49 fX1_11 rfl rfl ?_
  refine ar_aload_n (i := 0) (pc := 52) dX1_record_52 rfl rfl ?_
  refine ar_getf (pc := 53) dX1_record_53 fX1_17 rfl rfl ?_
  refine ar_aald (pc := 56) dX1_record_56 rfl rfl rfl ?_
  refine ar_aload_n (i := 1) (pc := 57) dX1_record_57 rfl rfl ?_
  refine ar_mc (pc := 58) (l := [0, 1, 44, 45, 46, 47, 48, 49, 50, 51, 52, 53, 54, 55, 56, 57, 58, 59]) (ar_rV dX1_record_58 cal_X3_copyFrom kX1_22 rfl (sX3_copyFrom (v0 ff) v) rfl rfl rfl rfl rfl okcf_5 rfl rfl) okcf_5 rfl rfl rfl rfl (fun r h1 hp => ?_)
  obtain ⟨rfl, rfl⟩ := hp
  refine ⟨rfl, ?_⟩
  rw [mrgh_5]
  refine ar_aload_n (i := 0) (pc := 61) dX1_record_61 rfl rfl ?_
  refine ar_aload_n (i := 0) (pc := 62) dX1_record_62 rfl rfl ?_
  refine ar_getf (pc := 63) dX1_record_63 fX1_17 rfl rfl ?_
  refine ar_iconst (pc := 66) dX1_record_66 q_iconst_1 ?_
  refine ar_iadd (pc := 67) dX1_record_67 ?_
  rw [nI_1]
  refine ar_aload_n (i := 0) (pc := 68) dX1_record_68 rfl rfl ?_
  refine ar_getf (pc := 69) dX1_record_69 fX1_11 rfl rfl ?_
  refine ar_alenq (pc := 72) dX1_record_72 rfl ?_
  rw [len6]
  refine ar_icmp_ge (pc := 73) (tgt := 85) dX1_record_73 (by decide) (fun c73 => ?_) (fun c73 => False.elim (by (simp (disch := omega) only [Int32.lt_iff_toInt_lt, Int32.le_iff_toInt_le, ← Int32.toInt_inj, ti_m6, ti_m1, ti_0, ti_1, ti_2, ti_3, ti_4, ti_5, ti_6, ti_7, ti_8, ti_9, ti_12, ti_100, ti_9999, ti_60, nI_toInt] at c73) <;> omega))
  refine ar_iconst (pc := 85) dX1_record_85 q_iconst_0 ?_
  refine ar_putf (pc := 86) dX1_record_86 fX1_17 rfl (Nat.le_of_ble_eq_true rfl) (fun _ => ⟨rfl, rfl⟩) ?_
  refine ar_hp (h' := hy6 w ff o0 o1 o2 o3 o4 (some v) (0) (nI m) v) rfl ?_
  refine ar_aload_n (i := 0) (pc := 89) dX1_record_89 rfl rfl ?_
  refine ar_aload_n (i := 0) (pc := 90) dX1_record_90 rfl rfl ?_
  refine ar_getf (pc := 91) dX1_record_91 fX1_26 rfl rfl ?_
  refine ar_iconst (pc := 94) dX1_record_94 q_iconst_1 ?_
  refine ar_iadd (pc := 95) dX1_record_95 ?_
  rw [nI_1]
  refine ar_aload_n (i := 0) (pc := 96) dX1_record_96 rfl rfl ?_
  refine ar_getf (pc := 97) dX1_record_97 fX1_11 rfl rfl ?_
  refine ar_alenq (pc := 100) dX1_record_100 rfl ?_
  rw [len6]
  refine ar_min (pc := 101) dX1_record_101 kX1_29 rfl rfl rfl rfl ?_
  rw [kp1_e hm]
  refine ar_putf (pc := 104) dX1_record_104 fX1_26 rfl (Nat.le_of_ble_eq_true rfl) (fun _ => ⟨rfl, rfl⟩) ?_
  exact ar_vret (pc := 107) dX1_record_107 rfl rfl rfl ⟨rfl, rfl⟩

set_option maxHeartbeats 4000000 in
set_option maxRecDepth 100000 in
theorem sX1_record_5s (w : Bool) (ff : Nat → Int32) (o0 o1 o2 o3 o4 : Option SV) (u : SV) (m : Nat) (hm : m ≤ 6) (v : SV) : am_Sp mX1_record [.ref 2, .ref 52] (hy6 w ff o0 o1 o2 o3 o4 (some u) (nI 5) (nI m) v) (am_vp (hy6 w ff o0 o1 o2 o3 o4 (some v) (0) (nI (kp1 m)) v)) := by
  refine am_intro (by decide) (Nat.le_of_ble_eq_true rfl) ?_
  refine ar_aload_n (i := 0) (pc := 0) dX1_record_0 rfl rfl ?_
  refine ar_getf (pc := 1) dX1_record_1 fX1_17 rfl rfl ?_
  refine ar_if_lt (pc := 4) (tgt := 19) dX1_record_4 (by decide) (fun c4 => False.elim (by (simp (disch := omega) only [Int32.lt_iff_toInt_lt, Int32.le_iff_toInt_le, ← Int32.toInt_inj, ti_m6, ti_m1, ti_0, ti_1, ti_2, ti_3, ti_4, ti_5, ti_6, ti_7, ti_8, ti_9, ti_12, ti_100, ti_9999, ti_60, nI_toInt] at c4) <;> omega)) (fun c4 => ?_)
  refine ar_aload_n (i := 0) (pc := 7) dX1_record_7 rfl rfl ?_
  refine ar_getf (pc := 8) dX1_record_8 fX1_17 rfl rfl ?_
  refine ar_aload_n (i := 0) (pc := 11) dX1_record_11 rfl rfl ?_
  refine ar_getf (pc := 12) dX1_record_12 fX1_11 rfl rfl ?_
  refine ar_alenq (pc := 15) dX1_record_15 rfl ?_
  rw [len6]
  refine ar_icmp_lt (pc := 16) (tgt := 20) dX1_record_16 (by decide) (fun c16 => ?_) (fun c16 => False.elim (by (simp (disch := omega) only [Int32.lt_iff_toInt_lt, Int32.le_iff_toInt_le, ← Int32.toInt_inj, ti_m6, ti_m1, ti_0, ti_1, ti_2, ti_3, ti_4, ti_5, ti_6, ti_7, ti_8, ti_9, ti_12, ti_100, ti_9999, ti_60, nI_toInt] at c16) <;> omega))
  refine ar_aload_n (i := 0) (pc := 20) dX1_record_20 rfl rfl ?_
  refine ar_getf (pc := 21) dX1_record_21 fX1_11 rfl rfl ?_
  refine ar_aload_n (i := 0) (pc := 24) dX1_record_24 rfl rfl ?_
  refine ar_getf (pc := 25) dX1_record_25 fX1_17 rfl rfl ?_
  refine ar_aald (pc := 28) dX1_record_28 rfl rfl rfl ?_
  refine ar_ifnonnull (pc := 29) (tgt := 48) dX1_record_29 (by decide) ?_
  skip
  refine ar_aload_n (i := 0) (pc := 48) dX1_record_48 rfl rfl ?_
  refine ar_getf (pc := 49) dX1_record_49 fX1_11 rfl rfl ?_
  refine ar_aload_n (i := 0) (pc := 52) dX1_record_52 rfl rfl ?_
  refine ar_getf (pc := 53) dX1_record_53 fX1_17 rfl rfl ?_
  refine ar_aald (pc := 56) dX1_record_56 rfl rfl rfl ?_
  refine ar_aload_n (i := 1) (pc := 57) dX1_record_57 rfl rfl ?_
  refine ar_mc (pc := 58) (l := [0, 1, 44, 45, 46, 47, 48, 49, 50, 51, 52, 53, 54, 55, 56, 57, 58, 59]) (ar_rV dX1_record_58 cal_X3_copyFrom kX1_22 rfl (sX3_copyFrom u v) rfl rfl rfl rfl rfl okcf_5 rfl rfl) okcf_5 rfl rfl rfl rfl (fun r h1 hp => ?_)
  obtain ⟨rfl, rfl⟩ := hp
  refine ⟨rfl, ?_⟩
  rw [mrgh_5]
  refine ar_aload_n (i := 0) (pc := 61) dX1_record_61 rfl rfl ?_
  refine ar_aload_n (i := 0) (pc := 62) dX1_record_62 rfl rfl ?_
  refine ar_getf (pc := 63) dX1_record_63 fX1_17 rfl rfl ?_
  refine ar_iconst (pc := 66) dX1_record_66 q_iconst_1 ?_
  refine ar_iadd (pc := 67) dX1_record_67 ?_
  rw [nI_1]
  refine ar_aload_n (i := 0) (pc := 68) dX1_record_68 rfl rfl ?_
  refine ar_getf (pc := 69) dX1_record_69 fX1_11 rfl rfl ?_
  refine ar_alenq (pc := 72) dX1_record_72 rfl ?_
  rw [len6]
  refine ar_icmp_ge (pc := 73) (tgt := 85) dX1_record_73 (by decide) (fun c73 => ?_) (fun c73 => False.elim (by (simp (disch := omega) only [Int32.lt_iff_toInt_lt, Int32.le_iff_toInt_le, ← Int32.toInt_inj, ti_m6, ti_m1, ti_0, ti_1, ti_2, ti_3, ti_4, ti_5, ti_6, ti_7, ti_8, ti_9, ti_12, ti_100, ti_9999, ti_60, nI_toInt] at c73) <;> omega))
  refine ar_iconst (pc := 85) dX1_record_85 q_iconst_0 ?_
  refine ar_putf (pc := 86) dX1_record_86 fX1_17 rfl (Nat.le_of_ble_eq_true rfl) (fun _ => ⟨rfl, rfl⟩) ?_
  refine ar_hp (h' := hy6 w ff o0 o1 o2 o3 o4 (some v) (0) (nI m) v) rfl ?_
  refine ar_aload_n (i := 0) (pc := 89) dX1_record_89 rfl rfl ?_
  refine ar_aload_n (i := 0) (pc := 90) dX1_record_90 rfl rfl ?_
  refine ar_getf (pc := 91) dX1_record_91 fX1_26 rfl rfl ?_
  refine ar_iconst (pc := 94) dX1_record_94 q_iconst_1 ?_
  refine ar_iadd (pc := 95) dX1_record_95 ?_
  rw [nI_1]
  refine ar_aload_n (i := 0) (pc := 96) dX1_record_96 rfl rfl ?_
  refine ar_getf (pc := 97) dX1_record_97 fX1_11 rfl rfl ?_
  refine ar_alenq (pc := 100) dX1_record_100 rfl ?_
  rw [len6]
  refine ar_min (pc := 101) dX1_record_101 kX1_29 rfl rfl rfl rfl ?_
  rw [kp1_e hm]
  refine ar_putf (pc := 104) dX1_record_104 fX1_26 rfl (Nat.le_of_ble_eq_true rfl) (fun _ => ⟨rfl, rfl⟩) ?_
  exact ar_vret (pc := 107) dX1_record_107 rfl rfl rfl ⟨rfl, rfl⟩
