/-! calls beside the whole: what they leave -/
theorem pN_sN (z : PV) (a : SV) : pN (sN z a) = a := rfl
theorem pN_sU (z : PV) (a : SV) : pN (sU z a) = pN z := rfl
theorem pN_sW (z : PV) (a : VWt) : pN (sW z a) = pN z := rfl
theorem pN_sD (z : PV) (a : PDt) : pN (sD z a) = pN z := rfl
theorem pN_sY (z : PV) (a : HYt) : pN (sY z a) = pN z := rfl
theorem pN_sL (z : PV) (a : SLt) : pN (sL z a) = pN z := rfl
theorem pU_sN (z : PV) (a : SV) : pU (sN z a) = pU z := rfl
theorem pU_sU (z : PV) (a : SV) : pU (sU z a) = a := rfl
theorem pU_sW (z : PV) (a : VWt) : pU (sW z a) = pU z := rfl
theorem pU_sD (z : PV) (a : PDt) : pU (sD z a) = pU z := rfl
theorem pU_sY (z : PV) (a : HYt) : pU (sY z a) = pU z := rfl
theorem pU_sL (z : PV) (a : SLt) : pU (sL z a) = pU z := rfl
theorem pW_sN (z : PV) (a : SV) : pW (sN z a) = pW z := rfl
theorem pW_sU (z : PV) (a : SV) : pW (sU z a) = pW z := rfl
theorem pW_sW (z : PV) (a : VWt) : pW (sW z a) = a := rfl
theorem pW_sD (z : PV) (a : PDt) : pW (sD z a) = pW z := rfl
theorem pW_sY (z : PV) (a : HYt) : pW (sY z a) = pW z := rfl
theorem pW_sL (z : PV) (a : SLt) : pW (sL z a) = pW z := rfl
theorem pD_sN (z : PV) (a : SV) : pD (sN z a) = pD z := rfl
theorem pD_sU (z : PV) (a : SV) : pD (sU z a) = pD z := rfl
theorem pD_sW (z : PV) (a : VWt) : pD (sW z a) = pD z := rfl
theorem pD_sD (z : PV) (a : PDt) : pD (sD z a) = a := rfl
theorem pD_sY (z : PV) (a : HYt) : pD (sY z a) = pD z := rfl
theorem pD_sL (z : PV) (a : SLt) : pD (sL z a) = pD z := rfl
theorem pY_sN (z : PV) (a : SV) : pY (sN z a) = pY z := rfl
theorem pY_sU (z : PV) (a : SV) : pY (sU z a) = pY z := rfl
theorem pY_sW (z : PV) (a : VWt) : pY (sW z a) = pY z := rfl
theorem pY_sD (z : PV) (a : PDt) : pY (sD z a) = pY z := rfl
theorem pY_sY (z : PV) (a : HYt) : pY (sY z a) = a := rfl
theorem pY_sL (z : PV) (a : SLt) : pY (sL z a) = pY z := rfl
theorem pL_sN (z : PV) (a : SV) : pL (sN z a) = pL z := rfl
theorem pL_sU (z : PV) (a : SV) : pL (sU z a) = pL z := rfl
theorem pL_sW (z : PV) (a : VWt) : pL (sW z a) = pL z := rfl
theorem pL_sD (z : PV) (a : PDt) : pL (sD z a) = pL z := rfl
theorem pL_sY (z : PV) (a : HYt) : pL (sY z a) = pL z := rfl
theorem pL_sL (z : PV) (a : SLt) : pL (sL z a) = a := rfl
theorem sN_self (z : PV) : sN z (pN z) = z := rfl
theorem sW_sW (z : PV) (a b : VWt) : sW (sW z a) b = sW z b := rfl
theorem okp_N : am_okmu [0, 1, 3, 4, 5, 6, 7, 8, 9, 10] [none, none, some true, some true, some true, some true, some true, some true, some true, some true] = true := by decide +kernel
theorem mP_N (w0 : Bool) (ff : Nat → Int32) (w1 : Bool) (gg : Nat → Int32) (z : PV) (v : SV) : am_mrg (am_mu [0, 1, 3, 4, 5, 6, 7, 8, 9, 10]) 0 (stH v) (ppH w0 ff w1 gg z) = ppH w0 ff w1 gg (sN z v) := by
  show ((((((((ppH w0 ff w1 gg z).set 3 (some (stO 4 (v)))).set 4 (some (am_ia 6 (vS (v))))).set 5 (some (am_ia 8 (vH (v))))).set 6 (some (am_ia 8 (vP (v))))).set 7 (some (am_ia 8 (vT (v))))).set 8 (some (am_ia 8 (vF (v))))).set 9 (some (am_ia 8 (vI (v))))).set 10 (some (am_ia 8 (vL (v)))) = _
  simp only [ppH, stB, vwT, vwB, smB, pdB, hyA, slA, slB, List.cons_append, List.nil_append, List.set_cons_zero, List.set_cons_succ, pN_sN, pN_sU, pN_sW, pN_sD, pN_sY, pN_sL, pU_sN, pU_sU, pU_sW, pU_sD, pU_sY, pU_sL, pW_sN, pW_sU, pW_sW, pW_sD, pW_sY, pW_sL, pD_sN, pD_sU, pD_sW, pD_sD, pD_sY, pD_sL, pY_sN, pY_sU, pY_sW, pY_sD, pY_sY, pY_sL, pL_sN, pL_sU, pL_sW, pL_sD, pL_sY, pL_sL]
theorem okp_W : am_okmu [0, 1, 19, 20, 21, 22, 23, 24, 25, 26] [none, none, some true, some true, some true, some true, some true, some true, some true, some true] = true := by decide +kernel
theorem mP_W (w0 : Bool) (ff : Nat → Int32) (w1 : Bool) (gg : Nat → Int32) (z : PV) (x : VWt) : am_mrg (am_mu [0, 1, 19, 20, 21, 22, 23, 24, 25, 26]) 0 (none :: none :: vwT 2 x) (ppH w0 ff w1 gg z) = ppH w0 ff w1 gg (sW z x) := by
  show ((((((((ppH w0 ff w1 gg z).set 19 (some (am_oj 4 [.ref 20, .ref 21, .ref 24]))).set 20 (some (am_ia 12 ((x).1)))).set 21 (some (am_oj 3 [.int 1, .ref 22, .ref 23, .int ((x).2.2.2.1), .int ((x).2.2.2.2.1)]))).set 22 (some (am_ia 12 ((x).2.1)))).set 23 (some (am_ia 12 ((x).2.2.1)))).set 24 (some (am_oj 3 [.int 0, .ref 25, .ref 26, .int ((x).2.2.2.2.2.2.2.1), .int ((x).2.2.2.2.2.2.2.2)]))).set 25 (some (am_ia 12 ((x).2.2.2.2.2.1)))).set 26 (some (am_ia 12 ((x).2.2.2.2.2.2.1))) = _
  simp only [ppH, stB, vwT, vwB, smB, pdB, hyA, slA, slB, List.cons_append, List.nil_append, List.set_cons_zero, List.set_cons_succ, pN_sN, pN_sU, pN_sW, pN_sD, pN_sY, pN_sL, pU_sN, pU_sU, pU_sW, pU_sD, pU_sY, pU_sL, pW_sN, pW_sU, pW_sW, pW_sD, pW_sY, pW_sL, pD_sN, pD_sU, pD_sW, pD_sD, pD_sY, pD_sL, pY_sN, pY_sU, pY_sW, pY_sD, pY_sY, pY_sL, pL_sN, pL_sU, pL_sW, pL_sD, pL_sY, pL_sL]
theorem okp_WN : am_okmu [0, 1, 19, 20, 21, 22, 23, 24, 25, 26, 3, 4, 5, 6, 7, 8, 9, 10] [none, none, some true, some true, some true, some true, some true, some true, some true, some true, some true, some true, some true, some true, some true, some true, some true, some true] = true := by decide +kernel
theorem mP_WN (w0 : Bool) (ff : Nat → Int32) (w1 : Bool) (gg : Nat → Int32) (z : PV) (x : VWt) (v : SV) : am_mrg (am_mu [0, 1, 19, 20, 21, 22, 23, 24, 25, 26, 3, 4, 5, 6, 7, 8, 9, 10]) 0 (none :: none :: (vwT 2 x ++ stB 10 v)) (ppH w0 ff w1 gg z) = ppH w0 ff w1 gg (sN (sW z x) v) := by
  show ((((((((((((((((ppH w0 ff w1 gg z).set 19 (some (am_oj 4 [.ref 20, .ref 21, .ref 24]))).set 20 (some (am_ia 12 ((x).1)))).set 21 (some (am_oj 3 [.int 1, .ref 22, .ref 23, .int ((x).2.2.2.1), .int ((x).2.2.2.2.1)]))).set 22 (some (am_ia 12 ((x).2.1)))).set 23 (some (am_ia 12 ((x).2.2.1)))).set 24 (some (am_oj 3 [.int 0, .ref 25, .ref 26, .int ((x).2.2.2.2.2.2.2.1), .int ((x).2.2.2.2.2.2.2.2)]))).set 25 (some (am_ia 12 ((x).2.2.2.2.2.1)))).set 26 (some (am_ia 12 ((x).2.2.2.2.2.2.1)))).set 3 (some (stO 4 (v)))).set 4 (some (am_ia 6 (vS (v))))).set 5 (some (am_ia 8 (vH (v))))).set 6 (some (am_ia 8 (vP (v))))).set 7 (some (am_ia 8 (vT (v))))).set 8 (some (am_ia 8 (vF (v))))).set 9 (some (am_ia 8 (vI (v))))).set 10 (some (am_ia 8 (vL (v)))) = _
  simp only [ppH, stB, vwT, vwB, smB, pdB, hyA, slA, slB, List.cons_append, List.nil_append, List.set_cons_zero, List.set_cons_succ, pN_sN, pN_sU, pN_sW, pN_sD, pN_sY, pN_sL, pU_sN, pU_sU, pU_sW, pU_sD, pU_sY, pU_sL, pW_sN, pW_sU, pW_sW, pW_sD, pW_sY, pW_sL, pD_sN, pD_sU, pD_sW, pD_sD, pD_sY, pD_sL, pY_sN, pY_sU, pY_sW, pY_sD, pY_sY, pY_sL, pL_sN, pL_sU, pL_sW, pL_sD, pL_sY, pL_sL]
theorem okp_WU : am_okmu [0, 1, 19, 20, 21, 22, 23, 24, 25, 26, 11, 12, 13, 14, 15, 16, 17, 18] [none, none, some true, some true, some true, some true, some true, some true, some true, some true, some true, some true, some true, some true, some true, some true, some true, some true] = true := by decide +kernel
theorem mP_WU (w0 : Bool) (ff : Nat → Int32) (w1 : Bool) (gg : Nat → Int32) (z : PV) (x : VWt) (v : SV) : am_mrg (am_mu [0, 1, 19, 20, 21, 22, 23, 24, 25, 26, 11, 12, 13, 14, 15, 16, 17, 18]) 0 (none :: none :: (vwT 2 x ++ stB 10 v)) (ppH w0 ff w1 gg z) = ppH w0 ff w1 gg (sU (sW z x) v) := by
  show ((((((((((((((((ppH w0 ff w1 gg z).set 19 (some (am_oj 4 [.ref 20, .ref 21, .ref 24]))).set 20 (some (am_ia 12 ((x).1)))).set 21 (some (am_oj 3 [.int 1, .ref 22, .ref 23, .int ((x).2.2.2.1), .int ((x).2.2.2.2.1)]))).set 22 (some (am_ia 12 ((x).2.1)))).set 23 (some (am_ia 12 ((x).2.2.1)))).set 24 (some (am_oj 3 [.int 0, .ref 25, .ref 26, .int ((x).2.2.2.2.2.2.2.1), .int ((x).2.2.2.2.2.2.2.2)]))).set 25 (some (am_ia 12 ((x).2.2.2.2.2.1)))).set 26 (some (am_ia 12 ((x).2.2.2.2.2.2.1)))).set 11 (some (stO 12 (v)))).set 12 (some (am_ia 6 (vS (v))))).set 13 (some (am_ia 8 (vH (v))))).set 14 (some (am_ia 8 (vP (v))))).set 15 (some (am_ia 8 (vT (v))))).set 16 (some (am_ia 8 (vF (v))))).set 17 (some (am_ia 8 (vI (v))))).set 18 (some (am_ia 8 (vL (v)))) = _
  simp only [ppH, stB, vwT, vwB, smB, pdB, hyA, slA, slB, List.cons_append, List.nil_append, List.set_cons_zero, List.set_cons_succ, pN_sN, pN_sU, pN_sW, pN_sD, pN_sY, pN_sL, pU_sN, pU_sU, pU_sW, pU_sD, pU_sY, pU_sL, pW_sN, pW_sU, pW_sW, pW_sD, pW_sY, pW_sL, pD_sN, pD_sU, pD_sW, pD_sD, pD_sY, pD_sL, pY_sN, pY_sU, pY_sW, pY_sD, pY_sY, pY_sL, pL_sN, pL_sU, pL_sW, pL_sD, pL_sY, pL_sL]
theorem okp_UN : am_okmu [0, 1, 11, 12, 13, 14, 15, 16, 17, 18, 3, 4, 5, 6, 7, 8, 9, 10] [none, none, some true, some true, some true, some true, some true, some true, some true, some true, some true, some true, some true, some true, some true, some true, some true, some true] = true := by decide +kernel
theorem mP_UN (w0 : Bool) (ff : Nat → Int32) (w1 : Bool) (gg : Nat → Int32) (z : PV) (u v : SV) : am_mrg (am_mu [0, 1, 11, 12, 13, 14, 15, 16, 17, 18, 3, 4, 5, 6, 7, 8, 9, 10]) 0 (st2 u v) (ppH w0 ff w1 gg z) = ppH w0 ff w1 gg (sN (sU z u) v) := by
  show ((((((((((((((((ppH w0 ff w1 gg z).set 11 (some (stO 12 (u)))).set 12 (some (am_ia 6 (vS (u))))).set 13 (some (am_ia 8 (vH (u))))).set 14 (some (am_ia 8 (vP (u))))).set 15 (some (am_ia 8 (vT (u))))).set 16 (some (am_ia 8 (vF (u))))).set 17 (some (am_ia 8 (vI (u))))).set 18 (some (am_ia 8 (vL (u))))).set 3 (some (stO 4 (v)))).set 4 (some (am_ia 6 (vS (v))))).set 5 (some (am_ia 8 (vH (v))))).set 6 (some (am_ia 8 (vP (v))))).set 7 (some (am_ia 8 (vT (v))))).set 8 (some (am_ia 8 (vF (v))))).set 9 (some (am_ia 8 (vI (v))))).set 10 (some (am_ia 8 (vL (v)))) = _
  simp only [ppH, stB, vwT, vwB, smB, pdB, hyA, slA, slB, List.cons_append, List.nil_append, List.set_cons_zero, List.set_cons_succ, pN_sN, pN_sU, pN_sW, pN_sD, pN_sY, pN_sL, pU_sN, pU_sU, pU_sW, pU_sD, pU_sY, pU_sL, pW_sN, pW_sU, pW_sW, pW_sD, pW_sY, pW_sL, pD_sN, pD_sU, pD_sW, pD_sD, pD_sY, pD_sL, pY_sN, pY_sU, pY_sW, pY_sD, pY_sY, pY_sL, pL_sN, pL_sU, pL_sW, pL_sD, pL_sY, pL_sL]
