/-! the law, purely: sums; who stops along the way; who is hidden -/
def su_I (f : Nat → Int32) : Nat → Int32
  | 0 => 0
  | k + 1 => su_I f k + f k
def su_N (f : Nat → Nat) : Nat → Nat
  | 0 => 0
  | k + 1 => su_N f k + f k
theorem su_IN {f : Nat → Int32} {g : Nat → Nat} : ∀ n, (∀ k, k < n → f k = nI (g k)) → su_I f n = nI (su_N g n)
  | 0, _ => nI_0.symm
  | n + 1, h => by rw [su_I, su_N, su_IN n (fun k hk => h k (by omega)), h n (by omega), nI_add]
theorem su_Ic {f g : Nat → Int32} : ∀ n, (∀ k, k < n → f k = g k) → su_I f n = su_I g n
  | 0, _ => rfl
  | n + 1, h => by rw [su_I, su_I, su_Ic n (fun k hk => h k (by omega)), h n (by omega)]
theorem su_Nc {f g : Nat → Nat} : ∀ n, (∀ k, k < n → f k = g k) → su_N f n = su_N g n
  | 0, _ => rfl
  | n + 1, h => by rw [su_N, su_N, su_Nc n (fun k hk => h k (by omega)), h n (by omega)]
theorem su_Nl {f g : Nat → Nat} : ∀ n, (∀ k, k < n → f k ≤ g k) → su_N f n ≤ su_N g n
  | 0, _ => Nat.le_refl 0
  | n + 1, h => by
    have a := su_Nl n (fun k hk => h k (by omega))
    have b := h n (by omega)
    rw [su_N, su_N]
    omega
theorem su_Na (f g : Nat → Nat) : ∀ n, su_N (fun k => f k + g k) n = su_N f n + su_N g n
  | 0 => rfl
  | n + 1 => by
    rw [su_N, su_N, su_N, su_Na f g n]
    omega
theorem su_N0 {f : Nat → Nat} : ∀ n, (∀ k, k < n → f k = 0) → su_N f n = 0
  | 0, _ => rfl
  | n + 1, h => by rw [su_N, su_N0 n (fun k hk => h k (by omega)), h n (by omega)]
theorem su_N1 {f : Nat → Nat} {j : Nat} : ∀ n, j < n → (∀ k, k < n → k ≠ j → f k = 0) → su_N f n = f j
  | 0, h, _ => absurd h (Nat.not_lt_zero j)
  | n + 1, h, h0 => by
    rw [su_N]
    by_cases e : n = j
    · subst e
      rw [su_N0 n (fun k hk => h0 k (by omega) (by omega)), Nat.zero_add]
    · rw [su_N1 n (by omega) (fun k hk => h0 k (by omega)), h0 n (by omega) e, Nat.add_zero]
theorem su_Ns (f : Nat → Nat → Nat) (b : Nat) : ∀ a, su_N (fun i => su_N (f i) b) a = su_N (fun j => su_N (fun i => f i j) a) b
  | 0 => (su_N0 b (fun _ _ => rfl)).symm
  | a + 1 => by
    rw [su_N, su_Ns f b a, ← su_Na]
    rfl
theorem su_Nb {f : Nat → Nat} {c : Nat} : ∀ n, (∀ k, k < n → f k ≤ c) → su_N f n ≤ n * c
  | 0, _ => Nat.zero_le _
  | n + 1, h => by
    have a := su_Nb n (fun k hk => h k (by omega))
    have b := h n (by omega)
    rw [su_N, Nat.succ_mul]
    omega
theorem su_Nk {f : Nat → Nat} {j : Nat} : ∀ n, j < n → f j ≤ su_N f n
  | 0, h => absurd h (Nat.not_lt_zero j)
  | n + 1, h => by
    rw [su_N]
    by_cases e : n = j
    · subst e; omega
    · have := su_Nk (f := f) n (show j < n by omega)
      omega
theorem su_Ne {f : Nat → Nat} {n : Nat} : ∀ m, (∀ k, n ≤ k → k < n + m → f k = 0) → su_N f (n + m) = su_N f n
  | 0, _ => rfl
  | m + 1, h => by rw [← su_Ne m (fun k h1 h2 => h k h1 (by omega)), show n + (m + 1) = n + m + 1 by omega, su_N, h (n + m) (by omega) (by omega), Nat.add_zero]
/-- one is taken out -/
theorem su_Nr {t : Nat → Nat} {j : Nat} : ∀ m, (m ≤ j → su_N (fun k => if k < j then t k else t (k + 1)) m = su_N t m) ∧ (j ≤ m → su_N (fun k => if k < j then t k else t (k + 1)) m + t j = su_N t (m + 1))
  | 0 => ⟨fun _ => rfl, fun h => by
      have : j = 0 := by omega
      subst this
      rw [su_N, su_N, su_N]⟩
  | m + 1 => by
    obtain ⟨i1, i2⟩ := su_Nr (t := t) (j := j) m
    refine ⟨fun h => ?_, fun h => ?_⟩
    · rw [su_N, su_N, i1 (by omega), if_pos (by omega)]
    · by_cases e : j = m + 1
      · rw [su_N, i1 (by omega), if_pos (by omega), su_N, su_N, e]
      · have := i2 (by omega)
        rw [su_N, if_neg (by omega), su_N]
        omega
theorem ia_4 (a b c d : Int32) : a + b + (c + d) = a + c + (b + d) := by
  rw [Int32.add_assoc, ← Int32.add_assoc b c d, Int32.add_comm b c, Int32.add_assoc c b d, ← Int32.add_assoc a c]
theorem ia_s (w r d : Int32) : w - r + d = w - (r - d) := by
  rw [Int32.sub_eq_add_neg w (r - d), Int32.neg_sub, Int32.sub_eq_add_neg, Int32.sub_eq_add_neg d r, Int32.add_assoc, Int32.add_comm (-r) d]
theorem ia_t (a b r s : Int32) : a - r + (b - s) = a + b - (r + s) := by
  rw [Int32.sub_eq_add_neg, Int32.sub_eq_add_neg, Int32.sub_eq_add_neg, Int32.neg_add, Int32.sub_eq_add_neg, ia_4]
theorem su_Ia (f g : Nat → Int32) : ∀ n, su_I (fun k => f k + g k) n = su_I f n + su_I g n
  | 0 => rfl
  | n + 1 => by
    rw [su_I, su_I, su_I, su_Ia f g n, ia_4]
theorem su_I0 {f : Nat → Int32} : ∀ n, (∀ k, k < n → f k = 0) → su_I f n = 0
  | 0, _ => rfl
  | n + 1, h => by rw [su_I, su_I0 n (fun k hk => h k (by omega)), h n (by omega), Int32.add_zero]
theorem su_I1 {f : Nat → Int32} {j : Nat} : ∀ n, j < n → (∀ k, k < n → k ≠ j → f k = 0) → su_I f n = f j
  | 0, h, _ => absurd h (Nat.not_lt_zero j)
  | n + 1, h, h0 => by
    rw [su_I]
    by_cases e : n = j
    · subst e
      rw [su_I0 n (fun k hk => h0 k (by omega) (by omega)), Int32.zero_add]
    · rw [su_I1 n (by omega) (fun k hk => h0 k (by omega)), h0 n (by omega) e, Int32.add_zero]
theorem su_Is (f : Nat → Nat → Int32) (b : Nat) : ∀ a, su_I (fun i => su_I (f i) b) a = su_I (fun j => su_I (fun i => f i j) a) b
  | 0 => (su_I0 b (fun _ _ => rfl)).symm
  | a + 1 => by
    rw [su_I, su_Is f b a, ← su_Ia]
    rfl
/-! who stops -/
abbrev tp_L (v : SV) (n : Nat) : Nat → Int32 := lkT v n (-6) 8
abbrev wl_L (l : Int32) (v : SV) (n : Nat) : Nat → Int32 × Int32 := wkt l (tp_L v n) (vS v (if l = 0 then 1 else 0)) (vS v 2)
/-- how many stop at the step i -/
def dd_I (l : Int32) (v : SV) (n i : Nat) : Int32 := if (wl_L l v n i).2 < tp_L v n (pi l i) then (wl_L l v n i).1 * vS v 2 / 100 else 0
theorem wl_0 (l : Int32) (v : SV) (n : Nat) : wl_L l v n 0 = (vS v (if l = 0 then 1 else 0), 0) := rfl
theorem wl_s1 (l : Int32) (v : SV) (n i : Nat) : (wl_L l v n (i + 1)).1 = (wl_L l v n i).1 - dd_I l v n i := by
  show (wk (fun k => tp_L v n (pi l k)) _ _ (i + 1)).1 = _
  rw [wk, dd_I]
  by_cases c : (wl_L l v n i).2 < tp_L v n (pi l i)
  · rw [if_pos c, if_pos c]
  · rw [if_neg c, if_neg c, Int32.sub_zero]
theorem wl_s2 (l : Int32) (v : SV) (n i : Nat) : (wl_L l v n (i + 1)).2 = if (wl_L l v n i).2 < tp_L v n (pi l i) then tp_L v n (pi l i) else (wl_L l v n i).2 := by
  show (wk (fun k => tp_L v n (pi l k)) _ _ (i + 1)).2 = _
  rw [wk]
  by_cases c : (wl_L l v n i).2 < tp_L v n (pi l i)
  · rw [if_pos c, if_pos c]
  · rw [if_neg c, if_neg c]
theorem wl_n (l : Int32) (v : SV) (n i : Nat) : 0 ≤ (wl_L l v n i).2 := wk_nn _
theorem dd_tel (l : Int32) (v : SV) (n : Nat) : ∀ k, su_I (dd_I l v n) k = vS v (if l = 0 then 1 else 0) - (wl_L l v n k).1
  | 0 => by rw [wl_0, su_I, Int32.sub_self]
  | k + 1 => by rw [su_I, dd_tel l v n k, wl_s1, ia_s]
theorem dd_no {l : Int32} {v : SV} {n i : Nat} (h : tp_L v n (pi l i) = 0) : dd_I l v n i = 0 := by
  rw [dd_I, h, if_neg (Int32.not_lt.mpr (wl_n l v n i))]
theorem pi_12 {l : Int32} {p : Nat} (h : p < 12) : pi l p < 12 := pi_lt h
theorem ip_pi {l x : Int32} (h : inP x) : ∃ i, i < 12 ∧ x = nI (pi l i) := by
  have e := ix_eq h.1
  have h12 : ix x < 12 := by unfold ix; have := h.1; have := h.2; omega
  exact ⟨pi l (ix x), pi_lt h12, by rw [pi_pi h12]; exact e⟩
theorem pi_in {l : Int32} {i k : Nat} (hi : i < 12) (hk : k < 12) (h : nI (pi l i) = nI (pi l k)) : i = k := by
  have a := pi_lt (l := l) hi
  have b := pi_lt (l := l) hk
  have := (nI_eq (show pi l i < 2 ^ 31 by omega) (show pi l k < 2 ^ 31 by omega)).mp h
  rw [← pi_pi (l := l) hi, ← pi_pi (l := l) hk, this]
theorem tp_at {v : SV} {n b q : Nat} (h8 : n ≤ 8) (D : di_D v n) (hq : q < 12) (hb : b < n) (e : vP v b = nI q) : tp_L v n q = vH v b := ((to_lk6 D) q hq).1 b (by omega) hb (by omega) e
theorem tp_no {v : SV} {n q : Nat} (D : di_D v n) (hq : q < 12) (h : ∀ b, b < n → vP v b ≠ nI q) : tp_L v n q = 0 := ((to_lk6 D) q hq).2 fun k _ h2 _ => h k h2
theorem sf_dd {l : Int32} {v : SV} {n b i : Nat} (h8 : n ≤ 8) (D : di_D v n) (hb : b < n) (hi : i < 12) (e : vP v b = nI (pi l i)) : sfV l v n b = dd_I l v n i := by
  have hp := pi_lt (l := l) hi
  have ex : ix (vP v b) = pi l i := by rw [e, ix_nI (by omega)]
  have ip : inP (vP v b) := by rw [e]; exact in_p hp
  unfold sfV stpV dd_I
  rw [ex, tp_at h8 D hp hb e]
  show (if inP (vP v b) ∧ (wl_L l v n (pi l (pi l i))).2 < vH v b then (wl_L l v n (pi l (pi l i))).1 * vS v 2 / 100 else 0) = _
  rw [pi_pi hi]
  by_cases c : (wl_L l v n i).2 < vH v b
  · rw [if_pos ⟨ip, c⟩, if_pos c]
  · rw [if_neg (fun z => c z.2), if_neg c]
theorem sf_6 {l : Int32} {v : SV} {n b : Nat} (e : vP v b = -6) : sfV l v n b = 0 := by
  unfold sfV
  rw [e, stp_6]
theorem sf_sum (l : Int32) {v : SV} {n : Nat} (h8 : n ≤ 8) (D : di_D v n) (pl : pl_D v n) : su_I (fun b => sfV l v n b) n = vS v (if l = 0 then 1 else 0) - (wl_L l v n 12).1 := by
  rw [← dd_tel]
  have e1 : su_I (fun b => sfV l v n b) n = su_I (fun b => su_I (fun i => if vP v b = nI (pi l i) then dd_I l v n i else 0) 12) n := by
    refine su_Ic n fun b hb => ?_
    rcases pl b hb with c | c
    · rw [sf_6 c, su_I0 12 fun i hi => ?_]
      rw [if_neg]
      rw [c]
      exact fun z => nI_m6 (by have := pi_lt (l := l) hi; omega) z.symm
    · obtain ⟨i, hi, e⟩ := ip_pi (l := l) c
      rw [sf_dd h8 D hb hi e, su_I1 12 hi fun k hk hne => ?_]
      · rw [if_pos e]
      · rw [if_neg]
        rw [e]
        exact fun z => hne (pi_in hi hk z).symm
  rw [e1, su_Is]
  refine su_Ic 12 fun i hi => ?_
  have hp := pi_lt (l := l) hi
  by_cases c : ∃ b, b < n ∧ vP v b = nI (pi l i)
  · obtain ⟨b, hb, e⟩ := c
    rw [su_I1 n hb fun k hk hne => ?_]
    · rw [if_pos e]
    · rw [if_neg]
      intro z
      exact hne (D k b hk hb (by rw [z]; exact nI_m6 (by omega)) (by rw [z, e]))
  · rw [su_I0 n fun k hk => if_neg fun z => c ⟨k, hk, z⟩, dd_no]
    exact tp_no D hp fun b hb z => c ⟨b, hb, z⟩
theorem cr_sum {v : SV} {n : Nat} (h8 : n ≤ 8) (D : di_D v n) (pl : pl_D v n) : su_I (fun b => sfV 1 v n b + sfV 0 v n b) n = vS v 0 + vS v 1 - swN v n := by
  rw [su_Ia (fun b => sfV 1 v n b) (fun b => sfV 0 v n b), sf_sum 1 h8 D pl, sf_sum 0 h8 D pl, ia_t]
  rfl
/-! who is hidden -/
theorem wk_mx {t : Nat → Int32} {w s x : Int32} (hx : 0 < x) : ∀ k, (wk t w s k).2 < x ↔ ∀ i, i < k → t i < x
  | 0 => ⟨fun _ i hi => absurd hi (Nat.not_lt_zero i), fun _ => hx⟩
  | k + 1 => by
    have ih := wk_mx (t := t) (w := w) (s := s) hx k
    rw [wk]
    by_cases c : (wk t w s k).2 < t k
    · rw [if_pos c]
      constructor
      · intro h i hi
        by_cases e : i = k
        · subst e; exact h
        · exact ih.mp (Int32.lt_of_le_of_lt (Int32.le_of_lt c) h) i (by omega)
      · intro h
        exact h k (by omega)
    · rw [if_neg c]
      constructor
      · intro h i hi
        by_cases e : i = k
        · subst e; exact Int32.lt_of_le_of_lt (Int32.not_lt.mp c) h
        · exact ih.mp h i (by omega)
      · intro h
        exact ih.mpr fun i hi => h i (by omega)
theorem he_pos {v : SV} {n b : Nat} (he : he_D v n) (hb : b < n) : 0 < vH v b := by
  rw [Int32.lt_iff_toInt_lt, ti_0]
  have := (he b hb).1
  omega
/-- seen by the greatest height on the way, and by asking each other booth -/
theorem hd_ta {l : Int32} (hl : l = 0 ∨ l = 1) {v : SV} {n j i : Nat} (h8 : n ≤ 8) (D : di_D v n) (pl : pl_D v n) (he : he_D v n) (hj : j < n) (hi : i < 12) (e : vP v j = nI (pi l i)) : (wl_L l v n i).2 < vH v j ↔ ¬ ∃ k, k < 8 ∧ k ≠ j ∧ hdP v n k j l := by
  have hp := pi_lt (l := l) hi
  have sj : stP v n j := ⟨hj, by rw [e]; exact nI_m6 (by omega)⟩
  rw [show (wl_L l v n i).2 < vH v j ↔ ∀ q, q < i → tp_L v n (pi l q) < vH v j from wk_mx (he_pos he hj) i]
  have lt_of : ∀ {a b : Nat}, a < 12 → b < 12 → nI a < nI b → a < b := fun ha hb h => (nI_ltI (by omega) (by omega)).mp h
  constructor
  · rintro h ⟨k, hk8, hkj, sk, -, h3, h4, h5⟩
    have ipk : inP (vP v k) := (pl k sk.1).resolve_left sk.2
    obtain ⟨q, hq, eq⟩ := ip_pi (l := l) ipk
    have hpq := pi_lt (l := l) hq
    have hlt : q < i := by
      rcases hl with rfl | rfl
      · have := h5 rfl
        rw [e, eq] at this
        have := lt_of hp hpq this
        unfold pi at this
        rw [if_pos rfl, if_pos rfl] at this
        omega
      · have := h4 (by decide)
        rw [e, eq] at this
        have := lt_of hpq hp this
        unfold pi at this
        rw [if_neg (by decide), if_neg (by decide)] at this
        exact this
    have := h q hlt
    rw [tp_at h8 D hpq sk.1 eq] at this
    exact absurd h3 (Int32.not_le.mpr this)
  · intro h q hq
    have hpq := pi_lt (l := l) (show q < 12 by omega)
    by_cases c : ∃ b, b < n ∧ vP v b = nI (pi l q)
    · obtain ⟨k, hk, ek⟩ := c
      rw [tp_at h8 D hpq hk ek]
      refine Int32.not_le.mp fun h3 => h ⟨k, by omega, fun z => ?_, ⟨hk, by rw [ek]; exact nI_m6 (by omega)⟩, sj, h3, fun z => ?_, fun z => ?_⟩
      · subst z
        have := pi_in (l := l) (show q < 12 by omega) hi (ek.symm.trans e)
        omega
      · have : l = 1 := hl.resolve_left z
        subst this
        rw [e, ek]
        refine nI_lt ?_ (by omega)
        unfold pi
        rw [if_neg (by decide), if_neg (by decide)]
        exact hq
      · subst z
        rw [e, ek]
        refine nI_lt ?_ (by omega)
        unfold pi
        rw [if_pos rfl, if_pos rfl]
        omega
    · rw [tp_no D hpq fun b hb z => c ⟨b, hb, z⟩]
      exact he_pos he hj
