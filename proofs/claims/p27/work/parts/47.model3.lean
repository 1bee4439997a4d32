/-! the reference: crowds, free pitches, draws -/
theorem upd_back {f : Nat → Int32} {i : Nat} {x : Int32} : upd (upd f i x) i (f i) = f := by
  funext j
  by_cases e : j = i
  · subst e; rw [pk_us]
  · rw [pk_un e, pk_un e]
/-- who stop at the booth b, from one side -/
def sb_V (l : Int32) (w : SV) (n b : Nat) : Int32 := stpV (arF l (tpV w n) (vS w (if l = 0 then 1 else 0)) (vS w 2)) (taF l (tpV w n) (vS w (if l = 0 then 1 else 0)) (vS w 2)) (vS w 2) (vP w b) (vH w b)
def rs_V (w : SV) (n : Nat) : Int32 := paF 1 (tpV w n) (vS w 0) (vS w 2) + paF 0 (tpV w n) (vS w 1) (vS w 2)
/-- the crowd of the booth b, were it at the pitch j -/
def ca_V (w : SV) (n b j : Nat) : Int32 := crA w (tpV (uP w (upd (vP w) b (nI j))) n) (nI j) (vH w b)
def fr_K (w : SV) (j m : Nat) : Prop := ∀ i, i < m → vP w i ≠ -6 → vS w 4 < nI (dst (ix (vP w i)) j) ∧ 0 < nI (dst (ix (vP w i)) j)
theorem fr_s1 {o j : Nat} (ho : o < 12) (hj : j < 12) (h : ¬ nI j ≤ nI o) : nI j - nI o = nI (dst o j) := by
  have h2 : ¬ j ≤ o := fun z => h ((nI_leI (by omega) (by omega)).mpr z)
  rw [pk_sub (by omega), dst, if_pos (by omega)]
theorem fr_s2 {o j : Nat} (ho : o < 12) (hj : j < 12) (h : nI j ≤ nI o) : nI o - nI j = nI (dst o j) := by
  have h2 : j ≤ o := (nI_leI (by omega) (by omega)).mp h
  rw [pk_sub (by omega), dst, if_neg (by omega)]
theorem fr_y {w : SV} {j k : Nat} (h : fr_K w j k) (h2 : vP w k ≠ -6 → vS w 4 < nI (dst (ix (vP w k)) j) ∧ 0 < nI (dst (ix (vP w k)) j)) : fr_K w j (k + 1) := fun i hi hn => by
  by_cases e : i = k
  · subst e; exact h2 hn
  · exact h i (by omega) hn
theorem fr_n1 {w : SV} {j k : Nat} (h : ¬ fr_K w j k) : ¬ fr_K w j (k + 1) := fun z => h fun i hi => z i (by omega)
theorem fr_n2 {w : SV} {j k : Nat} (h1 : vP w k ≠ -6) (h2 : ¬ (vS w 4 < nI (dst (ix (vP w k)) j) ∧ 0 < nI (dst (ix (vP w k)) j))) : ¬ fr_K w j (k + 1) := fun z => h2 (z k (by omega) h1)
def lc_N (a : Nat) : Nat := (a * 1103515245 + 12345) % 2147483648
theorem lc_lt (a : Nat) : lc_N a < 2147483648 := Nat.mod_lt _ (by decide)
theorem lc_e {a : Nat} (h : a < 2147483648) : lcg (lN a) = lN (lc_N a) := by
  unfold lcg lc_N
  rw [show (1103515245 : Int64) = lN 1103515245 by decide +kernel, show (12345 : Int64) = lN 12345 by decide +kernel, show (2147483648 : Int64) = lN 2147483648 by decide +kernel, lN_mul, lN_add]
  exact pk_lRem (by omega) (by omega) (by omega)
theorem dr_e {a m : Nat} (h : a < 2147483648) (h0 : 0 < m) (hm : m < 2147483648) : drw (lN a) m = nI (lc_N a / 65536 % m) := by
  unfold drw
  have := lc_lt a
  rw [lc_e h, nI_l (by omega), show (65536 : Int64) = lN 65536 by decide +kernel, pk_lDiv (by omega) (by omega) (by omega), pk_lRem (by omega) h0 (by omega), lN_i]
/-- the number drawn with stays in its range -/
def xr_D (x : Int64) : Prop := ∃ a, a < 2147483648 ∧ x = lN a
theorem xr_l {x : Int64} (h : xr_D x) : xr_D (lcg x) := by
  obtain ⟨a, ha, rfl⟩ := h
  exact ⟨lc_N a, lc_lt a, lc_e ha⟩
theorem dr_lt {x : Int64} (h : xr_D x) {m : Nat} (h0 : 0 < m) (hm : m < 2147483648) : ∃ o, o < m ∧ drw x m = nI o := by
  obtain ⟨a, ha, rfl⟩ := h
  exact ⟨_, Nat.mod_lt _ h0, dr_e ha h0 hm⟩
