/-! class and reference side by side; remembers, copies, forgets, comes -/
def se_D (v : SV) : Prop := ∀ k, k < 6 → 0 ≤ (vS v k).toInt ∧ (vS v k).toInt ≤ (if k < 2 then 999 else if k = 4 then 5 else 100)
/-- what a State is that is kept: n booths -/
def ok_D (v : SV) (n : Nat) : Prop := vBo v = nI n ∧ vv_D v n ∧ (vDa v).toInt ≤ 9999 ∧ se_D v ∧ (0 ≤ (vRo v).toInt ∧ (vRo v).toInt < 4096) ∧ (∀ k, k < 8 → vL v k = -6 ∨ ∃ b, b < n ∧ vL v k = nI b) ∧ ∀ k, k < 8 → vP v k = -6 ∨ inP (vP v k)
/-- the class's objects that say the same -/
def eq_Z (z z1 : PV) : Prop := pN z = pN z1 ∧ pY z = pY z1 ∧ pL z = pL z1 ∧ (pD z).1 = (pD z1).1 ∧ (pD z).2.1 = (pD z1).2.1
/-- what a call of the class leaves; what one of the reference leaves -/
def zz_P (x : Int32) (w0 : Bool) (ff : Nat → Int32) (w1 : Bool) (gg : Nat → Int32) (z1 : PV) : Option Value → am_H → Prop := fun r h1 => r = some (.int x) ∧ ∃ z, h1 = ppH w0 ff w1 gg z ∧ eq_Z z z1
theorem am_wk {M : am_M} {as : List Value} {h : am_H} {P Q : Option Value → am_H → Prop} (sp : am_Sp M as h P) (hPQ : ∀ r h1, P r h1 → Q r h1) : am_Sp M as h Q := by
  intro l D ad sz p e ha hf hc s m args below h1 h2 h3 h4
  obtain ⟨n, o, a1, a2, a3, ⟨⟨r, k1, ad1, hp, e1⟩, f⟩, a5⟩ := sp l D ad sz p e ha hf hc s m args below h1 h2 h3 h4
  exact ⟨n, o, a1, a2, a3, ⟨⟨r, k1, ad1, hPQ _ _ hp, e1⟩, f⟩, a5⟩
