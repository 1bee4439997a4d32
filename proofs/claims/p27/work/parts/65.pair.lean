theorem eq_Zr (z : PV) : eq_Z z z := ⟨rfl, rfl, rfl, rfl, rfl⟩
theorem cv_rp {M : am_M} {as : List Value} {h : am_H} {x : Int32} {w0 w1 : Bool} {ff gg : Nat → Int32} {z1 : PV} (sp : am_Sp M as h (am_rp x (ppH w0 ff w1 gg z1))) : am_Sp M as h (zz_P x w0 ff w1 gg z1) := am_wk sp fun r h1 hp => ⟨hp.1, z1, hp.2, eq_Zr z1⟩
theorem cv_rpE {M : am_M} {as : List Value} {h : am_H} {x : Int32} {w0 w1 : Bool} {ff gg : Nat → Int32} {z1 z2 : PV} (e : eq_Z z2 z1) (sp : am_Sp M as h (am_rp x (ppH w0 ff w1 gg z2))) : am_Sp M as h (zz_P x w0 ff w1 gg z1) := am_wk sp fun r h1 hp => ⟨hp.1, z2, hp.2, e⟩
theorem eq_ZW (z : PV) (x : VWt) : eq_Z (sW z x) z := ⟨rfl, rfl, rfl, rfl, rfl⟩
theorem cv_rpW {M : am_M} {as : List Value} {h : am_H} {x : Int32} {w0 w1 : Bool} {ff gg : Nat → Int32} {z1 : PV} (sp : am_Sp M as h (rpW x w0 ff w1 gg z1)) : am_Sp M as h (zz_P x w0 ff w1 gg z1) := am_wk sp fun r h1 hp => ⟨hp.1, hp.2.elim fun x' e => ⟨_, e, eq_ZW z1 x'⟩⟩
theorem cv_rpU {M : am_M} {as : List Value} {h : am_H} {x : Int32} {w0 w1 : Bool} {ff gg : Nat → Int32} {z1 : PV} (sp : am_Sp M as h (rpU x w0 ff w1 gg z1)) : am_Sp M as h (zz_P x w0 ff w1 gg z1) := am_wk sp fun r h1 hp => ⟨hp.1, hp.2.elim fun u hx => hx.elim fun x' e => ⟨_, e, ⟨rfl, rfl, rfl, rfl, rfl⟩⟩⟩
theorem if_IP {p : Prop} {r : Option Value} (h : (p ∧ r = some (.int 1)) ∨ (¬ p ∧ r = some (.int 0))) : r = some (.int (if_I p)) := by
  rcases h with ⟨a, b⟩ | ⟨a, b⟩
  · rw [if_1 a]; exact b
  · rw [if_0 a]; exact b
theorem cv_bp {M : am_M} {as : List Value} {h : am_H} {p : Prop} {w0 w1 : Bool} {ff gg : Nat → Int32} {z1 : PV} (sp : am_Sp M as h (am_bp p (ppH w0 ff w1 gg z1))) : am_Sp M as h (zz_P (if_I p) w0 ff w1 gg z1) := am_wk sp fun r h1 hp => ⟨if_IP hp.1, z1, hp.2, eq_Zr z1⟩
theorem cv_bpW {M : am_M} {as : List Value} {h : am_H} {p : Prop} {w0 w1 : Bool} {ff gg : Nat → Int32} {z1 : PV} (sp : am_Sp M as h (bpW p w0 ff w1 gg z1)) : am_Sp M as h (zz_P (if_I p) w0 ff w1 gg z1) := am_wk sp fun r h1 hp => ⟨if_IP hp.1, hp.2.elim fun x' e => ⟨_, e, eq_ZW z1 x'⟩⟩
theorem pmZ_rc {z z1 : PV} (h1 : (pY z1).1 = (rcY (pY z) (pN z)).1) (h2 : pL z1 = pL z) : pmZ z z1 := by
  unfold pmZ
  rw [h1, h2]
  refine ⟨fun i _ h => ?_, fun h => h, fun h => h⟩
  have h' : (if i = (pY z).2.1 then some (pN z) else (pY z).1 i) = none := h
  split at h'
  · cases h'
  · exact h'
theorem pmZ_y {z z1 : PV} (h1 : (pY z1).1 = (pY z).1) (h2 : pL z1 = pL z) : pmZ z z1 := by
  unfold pmZ
  rw [h1, h2]
  exact ⟨fun _ _ h => h, fun h => h, fun h => h⟩
theorem pmZ_sn (z : PV) (x : VWt) (v : SV) : pmZ z (sN (sW (rcZ z) x) v) := pmZ_rc rfl rfl
theorem na_of {a : Int32} {N : Nat} (h0 : 0 ≤ a.toInt) (h1 : a.toInt < N) : ∃ k, k < N ∧ a = nI k := ⟨ix a, by unfold ix; omega, ix_eq h0⟩
def g0_D (gg : Nat → Int32) : Prop := ∀ k, k < 6 → gg k = mo_I k
