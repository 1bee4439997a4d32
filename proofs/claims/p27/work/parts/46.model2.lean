/-! the reference: who stops where -/
/-- no two that stand share a pitch; all stand at pitches -/
def di_D (w : SV) (n : Nat) : Prop := ∀ j k, j < n → k < n → vP w j ≠ -6 → vP w j = vP w k → j = k
def pl_D (w : SV) (n : Nat) : Prop := ∀ k, k < n → vP w k = -6 ∨ inP (vP w k)
/-- the tops without the booth x -/
def to_K (w : SV) (n x m : Nat) (tp : Nat → Int32) : Prop := ∀ q, q < 12 → (∀ k, k < m → k < n → k ≠ x → vP w k = nI q → tp q = vH w k) ∧ ((∀ k, k < m → k < n → k ≠ x → vP w k ≠ nI q) → tp q = 0)
abbrev to_T (w : SV) (n x : Nat) (tp : Nat → Int32) : Prop := to_K w n x 8 tp
def tpV (w : SV) (n q : Nat) : Int32 := match ffi (atQ w n (nI q)) 8 0 with
  | none => 0
  | some k => vH w k
theorem nI_m6 {q : Nat} (h : q < 100) : nI q ≠ -6 := by
  intro z
  have := congrArg Int32.toInt z
  rw [ti_m6, nI_toInt (by omega)] at this
  omega
theorem atQ_t {w : SV} {n q k : Nat} (hq : q < 12) (h1 : k < n) (h2 : vP w k = nI q) : atQ w n (nI q) k = true := decide_eq_true ⟨⟨h1, fun z => nI_m6 (q := q) (by omega) (h2.symm.trans z)⟩, h2⟩
theorem atQ_s {w : SV} {n q k : Nat} (h : atQ w n (nI q) k = true) : k < n ∧ vP w k = nI q := by
  have := of_decide_eq_true h
  exact ⟨this.1.1, this.2⟩
theorem tp_some {w : SV} {n q k : Nat} (D : di_D w n) (h8 : n ≤ 8) (hq : q < 12) (h1 : k < n) (h2 : vP w k = nI q) : ffi (atQ w n (nI q)) 8 0 = some k := by
  cases e : ffi (atQ w n (nI q)) 8 0 with
  | none =>
    have := ffi_none 8 0 e k (by omega) (by omega)
    rw [atQ_t hq h1 h2] at this
    cases this
  | some j =>
    obtain ⟨-, h3, h4, -⟩ := ffi_spec 8 0 j e
    obtain ⟨h5, h6⟩ := atQ_s h4
    rw [D j k h5 h1 (fun z => nI_m6 (q := q) (by omega) (h6.symm.trans z)) (h6.trans h2.symm)]
theorem to_tpV {w : SV} {n : Nat} (D : di_D w n) (h8 : n ≤ 8) : to_T w n 8 (tpV w n) := by
  intro q hq
  refine ⟨fun k _ h1 _ h2 => ?_, fun h => ?_⟩
  · unfold tpV
    rw [tp_some D h8 hq h1 h2]
  · unfold tpV
    cases e : ffi (atQ w n (nI q)) 8 0 with
    | none => rfl
    | some j =>
      obtain ⟨-, h3, h4, -⟩ := ffi_spec 8 0 j e
      obtain ⟨h5, h6⟩ := atQ_s h4
      exact absurd h6 (h j (by omega) h5 (by omega))
theorem to_lk {w : SV} {n x : Nat} {wx : Int32} (D : di_D w n) (hx : ∀ k, k < 8 → (nI k = wx ↔ k = x)) : ∀ m, m ≤ 8 → to_K w n x m (lkT w n wx m)
  | 0, _ => fun q hq => ⟨fun k h => absurd h (Nat.not_lt_zero k), fun _ => rfl⟩
  | m + 1, hm => by
    have ih := to_lk D hx m (by omega)
    intro q hq
    obtain ⟨i1, i2⟩ := ih q hq
    rw [lkT]
    by_cases c : ¬ nI m = wx ∧ stP w n m
    · rw [if_pos c]
      have hmx : m ≠ x := fun z => c.1 ((hx m (by omega)).mpr z)
      unfold rsT
      by_cases ip : inP (vP w m)
      · rw [if_pos ip]
        have e : vP w m = nI (ix (vP w m)) := ix_eq ip.1
        by_cases eq : q = ix (vP w m)
        · subst eq
          refine ⟨fun k h1 h2 h3 h4 => ?_, fun h => absurd e (h m (by omega) c.2.1 hmx)⟩
          rw [pk_us]
          by_cases ek : k = m
          · rw [ek]
          · exact absurd (D k m h2 c.2.1 (fun z => c.2.2 ((e.trans h4.symm).trans z)) (h4.trans e.symm)) ek
        · have ne : vP w m ≠ nI q := fun z => eq ((nI_eq (by omega) (by have := ip; unfold ix; omega)).mp (z.symm.trans e))
          rw [pk_un eq]
          refine ⟨fun k h1 h2 h3 h4 => ?_, fun h => i2 fun k h1 h2 h3 => h k (by omega) h2 h3⟩
          by_cases ek : k = m
          · subst ek; exact absurd h4 ne
          · exact i1 k (by omega) h2 h3 h4
      · rw [if_neg ip]
        have ne : vP w m ≠ nI q := fun z => ip (by rw [z]; exact in_p hq)
        refine ⟨fun k h1 h2 h3 h4 => ?_, fun h => i2 fun k h1 h2 h3 => h k (by omega) h2 h3⟩
        by_cases ek : k = m
        · subst ek; exact absurd h4 ne
        · exact i1 k (by omega) h2 h3 h4
    · rw [if_neg c]
      have no : m < n → m ≠ x → vP w m = nI q → False := fun a1 a2 a3 => c ⟨fun z => a2 ((hx m (by omega)).mp z), a1, fun z => nI_m6 (q := q) (by omega) (a3.symm.trans z)⟩
      refine ⟨fun k h1 h2 h3 h4 => ?_, fun h => i2 fun k h1 h2 h3 => h k (by omega) h2 h3⟩
      by_cases ek : k = m
      · subst ek; exact (no h2 h3 h4).elim
      · exact i1 k (by omega) h2 h3 h4
theorem to_lkT {w : SV} {n b : Nat} (D : di_D w n) (hb : b < 8) : to_T w n b (lkT w n (nI b) 8) :=
  to_lk D (fun k hk => nI_eq (by omega) (by omega)) 8 (Nat.le_refl 8)
theorem to_lk6 {w : SV} {n : Nat} (D : di_D w n) : to_T w n 8 (lkT w n (-6) 8) :=
  to_lk D (fun k hk => ⟨fun z => absurd z (nI_m6 (by omega)), fun z => by omega⟩) 8 (Nat.le_refl 8)
theorem to_uniq {w : SV} {n x : Nat} {t t' : Nat → Int32} (h8 : n ≤ 8) (h : to_T w n x t) (h' : to_T w n x t') {q : Nat} (hq : q < 12) : t q = t' q := by
  by_cases c : ∃ k, k < n ∧ k ≠ x ∧ vP w k = nI q
  · obtain ⟨k, c1, c2, c3⟩ := c
    rw [(h q hq).1 k (by omega) c1 c2 c3, (h' q hq).1 k (by omega) c1 c2 c3]
  · rw [(h q hq).2 fun k _ c1 c2 c3 => c ⟨k, c1, c2, c3⟩, (h' q hq).2 fun k _ c1 c2 c3 => c ⟨k, c1, c2, c3⟩]
/-- the same tops but at the pitch of a booth that is put there -/
theorem to_move {w : SV} {n b j : Nat} {t t' : Nat → Int32} (h8 : n ≤ 8) (hb : b < n) (h : to_T w n b t) (h' : to_T (uP w (upd (vP w) b (nI j))) n 8 t') (hj : j < 12) {q : Nat} (hq : q < 12) (hne : q ≠ j) : t q = t' q := by
  by_cases c : ∃ k, k < n ∧ k ≠ b ∧ vP w k = nI q
  · obtain ⟨k, c1, c2, c3⟩ := c
    rw [(h q hq).1 k (by omega) c1 c2 c3, (h' q hq).1 k (by omega) c1 (by omega) ((pk_un c2).trans c3)]
    rfl
  · rw [(h q hq).2 fun k _ c1 c2 c3 => c ⟨k, c1, c2, c3⟩, (h' q hq).2 fun k _ c1 c2 c3 => ?_]
    by_cases e : k = b
    · subst e
      have c3 : upd (vP w) k (nI j) k = nI q := c3
      rw [pk_us] at c3
      exact hne ((nI_eq (by omega) (by omega)).mp c3).symm
    · have c3 : upd (vP w) b (nI j) k = nI q := c3
      rw [pk_un e] at c3
      exact c ⟨k, c1, e, c3⟩
theorem wk_cong {t t' : Nat → Int32} {w s : Int32} : ∀ k, (∀ j, j < k → t j = t' j) → wk t w s k = wk t' w s k
  | 0, _ => rfl
  | k + 1, h => by
    have ih := wk_cong (w := w) (s := s) k (fun j hj => h j (by omega))
    rw [wk, wk, ih, h k (by omega)]
theorem wk_nn {t : Nat → Int32} {w s : Int32} : ∀ k, 0 ≤ (wk t w s k).2
  | 0 => Int32.le_refl 0
  | k + 1 => by
    rw [wk]
    by_cases c : (wk t w s k).2 < t k
    · rw [if_pos c]
      exact Int32.le_of_lt (Int32.lt_of_le_of_lt (wk_nn k) c)
    · rw [if_neg c]
      exact wk_nn k
theorem stpV_cong {l : Int32} {t t' : Nat → Int32} {w s p h : Int32} (e : ∀ q, q < 12 → nI q ≠ p → t q = t' q) : stpV (arF l t w s) (taF l t w s) s p h = stpV (arF l t' w s) (taF l t' w s) s p h := by
  unfold stpV
  by_cases c : inP p
  · have ep : p = nI (ix p) := ix_eq c.1
    have lp : ix p < 12 := by have := c; unfold ix; omega
    have hw : wkt l t w s (pi l (ix p)) = wkt l t' w s (pi l (ix p)) := by
      refine wk_cong _ (fun j hj => e _ (pi_lt (by have := pi_lt (l := l) lp; omega)) (fun z => ?_))
      rw [ep] at z
      have z2 := (nI_eq (by have := pi_lt (l := l) (k := j) (by have := pi_lt (l := l) lp; omega); omega) (by omega)).mp z
      have := pi_pi (l := l) (k := j) (by have := pi_lt (l := l) lp; omega)
      rw [z2] at this
      omega
    unfold arF taF
    rw [hw]
  · rw [if_neg (fun z => c z.1), if_neg (fun z => c z.1)]
theorem crA_cong {v : SV} {t t' : Nat → Int32} {p h : Int32} (e : ∀ q, q < 12 → nI q ≠ p → t q = t' q) : crA v t p h = crA v t' p h := by
  unfold crA
  rw [stpV_cong e, stpV_cong e]
theorem paF_cong {l : Int32} {t t' : Nat → Int32} {w s : Int32} (e : ∀ q, q < 12 → t q = t' q) : paF l t w s = paF l t' w s := by
  unfold paF
  rw [show wkt l t w s 12 = wkt l t' w s 12 from wk_cong 12 (fun j hj => e _ (pi_lt hj))]
theorem wk_y {t : Nat → Int32} {w s : Int32} {k : Nat} {r h x : Int32} (e1 : r = (wk t w s k).1) (e2 : h = (wk t w s k).2) (ex : x = t k) (c : h < x) : r - r * s / 100 = (wk t w s (k + 1)).1 ∧ x = (wk t w s (k + 1)).2 := by
  subst e1
  subst e2
  subst ex
  rw [wk, if_pos c]
  exact ⟨rfl, rfl⟩
theorem wk_n {t : Nat → Int32} {w s : Int32} {k : Nat} {r h x : Int32} (e1 : r = (wk t w s k).1) (e2 : h = (wk t w s k).2) (ex : x = t k) (c : ¬ h < x) : r = (wk t w s (k + 1)).1 ∧ h = (wk t w s (k + 1)).2 := by
  subst e1
  subst e2
  subst ex
  rw [wk, if_neg c]
  exact ⟨rfl, rfl⟩
