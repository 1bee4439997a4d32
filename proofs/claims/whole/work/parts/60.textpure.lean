/-! texts, purely: parts by automaton and by look-ahead -/
def sg_V (pd : Nat → Int32) (L i : Nat) : Int32 := if i < L then pd i else -1
def dg_V (pd : Nat → Int32) (L i : Nat) : Int32 := if 48 ≤ (sg_V pd L i).toInt ∧ (sg_V pd L i).toInt ≤ 57 then sg_V pd L i - 48 else -1
/-- where the part at p ends; whether that is a fault -/
def pE_V (pd : Nat → Int32) (L p : Nat) : Nat × Bool := if dg_V pd L p < 1 then (p, true) else if sg_V pd L (p + 1) ≠ 64 then (p + 1, false) else if dg_V pd L (p + 2) < 0 then (p + 2, true) else if dg_V pd L (p + 2) = 1 ∧ (dg_V pd L (p + 3) = 0 ∨ dg_V pd L (p + 3) = 1) then (p + 4, false) else (p + 3, false)
def pO_V (pd : Nat → Int32) (L p : Nat) : Int32 := if (pE_V pd L p).1 = p + 1 then -1 else if (pE_V pd L p).1 = p + 3 then dg_V pd L (p + 2) else 10 + dg_V pd L (p + 3)
/-- the fault, d parts at most from the k-th on, which begins at p -/
def ft_V (pd : Nat → Int32) (L : Nat) : Nat → Nat → Nat → Int32
  | 0, _, _ => -6
  | d + 1, k, p => if (pE_V pd L p).2 = true then nI (pE_V pd L p).1 else if (pE_V pd L p).1 = L then -6 else if sg_V pd L (pE_V pd L p).1 ≠ 44 ∨ k = 8 then nI (pE_V pd L p).1 else ft_V pd L d (k + 1) ((pE_V pd L p).1 + 1)
/-- where the i-th part from p on begins -/
def it_V (pd : Nat → Int32) (L p : Nat) : Nat → Nat
  | 0 => p
  | i + 1 => it_V pd L ((pE_V pd L p).1 + 1) i
theorem it_s (pd : Nat → Int32) (L : Nat) : ∀ (i p : Nat), it_V pd L p (i + 1) = (pE_V pd L (it_V pd L p i)).1 + 1
  | 0, p => rfl
  | i + 1, p => by
    rw [it_V, it_s pd L i, it_V]
theorem i_sub {c : Int32} (h : 48 ≤ c.toInt ∧ c.toInt ≤ 57) : (c - 48).toInt = c.toInt - 48 := by
  rw [Int32.toInt_sub, show (48 : Int32).toInt = 48 by decide +kernel, Int.bmod_eq_of_le (by omega) (by omega)]
theorem ti_48 : (48 : Int32).toInt = 48 := by decide +kernel
theorem ti_49 : (49 : Int32).toInt = 49 := by decide +kernel
theorem ti_57 : (57 : Int32).toInt = 57 := by decide +kernel
theorem ti_10 : (10 : Int32).toInt = 10 := by decide +kernel
theorem dg_out {pd : Nat → Int32} {L p : Nat} (h : L ≤ p) : dg_V pd L p = -1 := by
  unfold dg_V sg_V
  rw [if_neg (show ¬ p < L by omega), if_neg]
  rw [ti_m1]
  omega
theorem dg_in {pd : Nat → Int32} {L p : Nat} (h : p < L) (hc : 48 ≤ (pd p).toInt ∧ (pd p).toInt ≤ 57) : dg_V pd L p = pd p - 48 := by
  unfold dg_V sg_V
  rw [if_pos h, if_pos hc]
theorem dg_no {pd : Nat → Int32} {L p : Nat} (h : p < L) (hc : ¬ (48 ≤ (pd p).toInt ∧ (pd p).toInt ≤ 57)) : dg_V pd L p = -1 := by
  unfold dg_V sg_V
  rw [if_pos h, if_neg hc]
theorem dg_lt1 {pd : Nat → Int32} {L p : Nat} : ¬ dg_V pd L p < 1 ↔ p < L ∧ 49 ≤ (pd p).toInt ∧ (pd p).toInt ≤ 57 := by
  rw [Int32.lt_iff_toInt_lt, ti_1]
  by_cases h : p < L
  · by_cases c : 48 ≤ (pd p).toInt ∧ (pd p).toInt ≤ 57
    · rw [dg_in h c, i_sub c]; omega
    · rw [dg_no h c, ti_m1]; omega
  · rw [dg_out (by omega), ti_m1]; omega
theorem dg_lt0 {pd : Nat → Int32} {L p : Nat} : ¬ dg_V pd L p < 0 ↔ p < L ∧ 48 ≤ (pd p).toInt ∧ (pd p).toInt ≤ 57 := by
  rw [Int32.lt_iff_toInt_lt, ti_0]
  by_cases h : p < L
  · by_cases c : 48 ≤ (pd p).toInt ∧ (pd p).toInt ≤ 57
    · rw [dg_in h c, i_sub c]; omega
    · rw [dg_no h c, ti_m1]; omega
  · rw [dg_out (by omega), ti_m1]; omega
theorem dg_is {pd : Nat → Int32} {L p : Nat} (v c : Int32) (hv : 0 ≤ v.toInt ∧ v.toInt ≤ 9) (hc : c.toInt = v.toInt + 48) : dg_V pd L p = v ↔ p < L ∧ pd p = c := by
  by_cases h : p < L
  · by_cases x : 48 ≤ (pd p).toInt ∧ (pd p).toInt ≤ 57
    · rw [dg_in h x]
      constructor
      · intro z
        have := congrArg Int32.toInt z
        rw [i_sub x] at this
        exact ⟨h, Int32.toInt_inj.mp (by omega)⟩
      · rintro ⟨-, z⟩
        exact Int32.toInt_inj.mp (by rw [i_sub x, z]; omega)
    · rw [dg_no h x]
      constructor
      · intro z
        have := congrArg Int32.toInt z
        rw [ti_m1] at this
        omega
      · rintro ⟨-, z⟩
        rw [z] at x
        omega
  · rw [dg_out (by omega)]
    constructor
    · intro z
      have := congrArg Int32.toInt z
      rw [ti_m1] at this
      omega
    · exact fun z => absurd z.1 h
theorem sg_in {pd : Nat → Int32} {L p : Nat} (h : p < L) : sg_V pd L p = pd p := by rw [sg_V, if_pos h]
theorem sg_out {pd : Nat → Int32} {L p : Nat} (h : L ≤ p) : sg_V pd L p = -1 := by rw [sg_V, if_neg (by omega)]
/-- what the parts read are: m of them, from p on; Q holds them from the place a on -/
def go_D (pd : Nat → Int32) (L p m a : Nat) (Q : PQ) : Prop := (∀ i, i < m → (pE_V pd L (it_V pd L p i)).2 = false ∧ it_V pd L p i < L ∧ Q.2.1 (a + i) = dg_V pd L (it_V pd L p i) ∧ (1 ≤ (Q.2.1 (a + i)).toInt ∧ (Q.2.1 (a + i)).toInt ≤ 9) ∧ pm_ (Q.2.2 (a + i)) = pO_V pd L (it_V pd L p i) ∧ (Q.2.2 (a + i) = -6 ∨ inP (Q.2.2 (a + i)))) ∧ it_V pd L p m = L + 1
theorem go_D1 {pd : Nat → Int32} {L p m a : Nat} {Q : PQ} (h1 : (pE_V pd L p).2 = false ∧ p < L ∧ Q.2.1 a = dg_V pd L p ∧ (1 ≤ (Q.2.1 a).toInt ∧ (Q.2.1 a).toInt ≤ 9) ∧ pm_ (Q.2.2 a) = pO_V pd L p ∧ (Q.2.2 a = -6 ∨ inP (Q.2.2 a))) (h2 : go_D pd L ((pE_V pd L p).1 + 1) m (a + 1) Q) : go_D pd L p (m + 1) a Q := by
  refine ⟨fun i hi => ?_, h2.2⟩
  cases i with
  | zero => exact h1
  | succ i =>
    have := h2.1 i (by omega)
    rw [show a + (i + 1) = a + 1 + i by omega]
    exact this
theorem go_D0 {pd : Nat → Int32} {L p a : Nat} {Q : PQ} (h1 : (pE_V pd L p).2 = false ∧ p < L ∧ Q.2.1 a = dg_V pd L p ∧ (1 ≤ (Q.2.1 a).toInt ∧ (Q.2.1 a).toInt ≤ 9) ∧ pm_ (Q.2.2 a) = pO_V pd L p ∧ (Q.2.2 a = -6 ∨ inP (Q.2.2 a))) (hL : (pE_V pd L p).1 = L) : go_D pd L p 1 a Q := by
  refine ⟨fun i hi => ?_, ?_⟩
  · have : i = 0 := by omega
    subst this
    exact h1
  · show (pE_V pd L p).1 + 1 = L + 1
    rw [hL]
/-- the automaton agrees with the look-ahead -/
def ag_D (pd t : Nat → Int32) (L k p : Nat) (q : PQ) (r : PQ × Int32) (f : Int32) : Prop := r.2 = f ∧ (f = -6 → ∃ m, 1 ≤ m ∧ k - 1 + m ≤ 8 ∧ r.1.1 = k - 1 + m ∧ (∀ i, i < k - 1 → r.1.2.1 i = q.2.1 i ∧ r.1.2.2 i = q.2.2 i) ∧ go_D pd L p m (k - 1) r.1)
theorem nI_fault {n : Nat} (h : n < 100) : nI n ≠ -6 := nI_m6 h
/-- behind a part that was read whole: its end is e; q1 holds it -/
theorem ag_end {pd t : Nat → Int32} {L : Nat} (ht : ∀ i, i < L → t i = pd i) (hL : L ≤ 60) {d k p e s : Nat} {q q1 : PQ} (hk : 1 ≤ k) (hk8 : k ≤ 8) (he : pE_V pd L p = (e, false)) (hpe : p < e) (heL : e ≤ L) (hs : s = 1 ∨ s = 3 ∨ s = 4) (hns : e < L → (s = 1 → t e ≠ 64) ∧ (s = 3 → t e ≠ 48 ∧ t e ≠ 49))
    (hq1 : q1.1 = k) (hsame : ∀ i, i < k - 1 → q1.2.1 i = q.2.1 i ∧ q1.2.2 i = q.2.2 i) (hp : (pE_V pd L p).2 = false ∧ p < L ∧ q1.2.1 (k - 1) = dg_V pd L p ∧ (1 ≤ (q1.2.1 (k - 1)).toInt ∧ (q1.2.1 (k - 1)).toInt ≤ 9) ∧ pm_ (q1.2.2 (k - 1)) = pO_V pd L p ∧ (q1.2.2 (k - 1) = -6 ∨ inP (q1.2.2 (k - 1))))
    (ih : k < 8 → e + 1 ≤ L → ag_D pd t L (k + 1) (e + 1) q1 (fnF t (L - (e + 1)) (e + 1) 0 q1) (ft_V pd L d (k + 1) (e + 1))) : ag_D pd t L k p q (fnF t (L - e) e s q1) (ft_V pd L (d + 1) k p) := by
  have ef : ft_V pd L (d + 1) k p = if e = L then -6 else if sg_V pd L e ≠ 44 ∨ k = 8 then nI e else ft_V pd L d (k + 1) (e + 1) := by
    rw [ft_V, he, if_neg (by show ¬ false = true; decide)]
  by_cases c : e = L
  · subst c
    rw [ef, if_pos rfl, Nat.sub_self]
    refine ⟨?_, fun _ => ⟨1, by omega, by omega, ?_, hsame, ?_⟩⟩
    · show (if s = 0 ∨ s = 2 then nI e else -6) = -6
      rw [if_neg (by omega)]
    · show q1.1 = k - 1 + 1
      omega
    · exact go_D0 hp (by rw [he])
  · have hlt : e < L := by omega
    obtain ⟨n1, n3⟩ := hns hlt
    obtain ⟨y, hy⟩ : ∃ y, L - e = y + 1 := ⟨L - e - 1, by omega⟩
    have est : stA s q1 (t e) = (q1, rdC q1 (t e)) := by
      rcases hs with rfl | rfl | rfl
      · show (q1, if t e = 64 then 2 else rdC q1 (t e)) = _
        rw [if_neg (n1 rfl)]
      · show (if t e = 48 ∨ t e = 49 then (rdP q1 (10 + t e - 48), 4) else (q1, rdC q1 (t e)) : PQ × Nat) = _
        rw [if_neg (fun z => z.elim (n3 rfl).1 (n3 rfl).2)]
      · rfl
    rw [ef, if_neg c, sg_in hlt, ← ht e hlt, hy]
    by_cases x : t e ≠ 44 ∨ k = 8
    · rw [if_pos x, fnF, est, if_pos (by
        show rdC q1 (t e) = 5
        rw [rdC, if_neg]
        rintro ⟨z1, z2⟩
        rcases x with x | x
        · exact x z1
        · omega)]
      exact ⟨rfl, fun z => absurd z (nI_fault (by omega))⟩
    · have x1 : t e = 44 := Classical.not_not.mp fun z => x (Or.inl z)
      have x2 : k < 8 := by
        have : k ≠ 8 := fun z => x (Or.inr z)
        omega
      have e0 : rdC q1 (t e) = 0 := by rw [rdC, if_pos ⟨x1, by omega⟩]
      rw [if_neg x, fnF, est, if_neg (by
        show ¬ rdC q1 (t e) = 5
        rw [e0]; decide)]
      show ag_D pd t L k p q (fnF t y (e + 1) (rdC q1 (t e)) q1) _
      rw [e0, show y = L - (e + 1) by omega]
      obtain ⟨i1, i2⟩ := ih x2 (by omega)
      refine ⟨i1, fun z => ?_⟩
      obtain ⟨m, m1, m2, m3, m4, m5⟩ := i2 z
      refine ⟨m + 1, by omega, by omega, by rw [m3]; omega, fun i hi => ?_, ?_⟩
      · obtain ⟨w1, w2⟩ := m4 i (by omega)
        rw [w1, w2]
        exact hsame i hi
      · obtain ⟨w1, w2⟩ := m4 (k - 1) (by omega)
        refine go_D1 ?_ ?_
        · rw [w1, w2]; exact hp
        · rw [he, show k - 1 + 1 = k + 1 - 1 by omega]
          exact m5
theorem rdP_k {q : PQ} {k : Nat} (h : q.1 = k) (hk : 1 ≤ k) (p : Int32) : rdP q p = (k, q.2.1, upd q.2.2 (k - 1) p) := by
  rw [rdP, if_pos (by omega), h]
theorem ag_all {pd t : Nat → Int32} {L : Nat} (ht : ∀ i, i < L → t i = pd i) (hL : L ≤ 60) : ∀ (d k p : Nat) (q : PQ), d + k = 9 → 1 ≤ k → k ≤ 8 → p ≤ L → q.1 = k - 1 → ag_D pd t L k p q (fnF t (L - p) p 0 q) (ft_V pd L d k p)
  | 0, k, p, q, h, _, h8, _, _ => absurd h (by omega)
  | d + 1, k, p, q, hdk, hk, hk8, hp, hq => by
    have ih : ∀ (e : Nat) (q1 : PQ), q1.1 = k → k < 8 → e + 1 ≤ L → ag_D pd t L (k + 1) (e + 1) q1 (fnF t (L - (e + 1)) (e + 1) 0 q1) (ft_V pd L d (k + 1) (e + 1)) := fun e q1 h1 h2 h3 => ag_all ht hL d (k + 1) (e + 1) q1 (by omega) (by omega) (by omega) h3 (by omega)
    by_cases A : dg_V pd L p < 1
    · have he : pE_V pd L p = (p, true) := by rw [pE_V, if_pos A]
      have ef : ft_V pd L (d + 1) k p = nI p := by rw [ft_V, he, if_pos rfl]
      rw [ef]
      refine ⟨?_, fun z => absurd z (nI_fault (by omega))⟩
      by_cases c : p = L
      · subst c
        rw [Nat.sub_self]
        show (if 0 = 0 ∨ 0 = 2 then nI p else -6) = nI p
        rw [if_pos (Or.inl rfl)]
      · obtain ⟨y, hy⟩ : ∃ y, L - p = y + 1 := ⟨L - p - 1, by omega⟩
        rw [hy, fnF, if_pos]
        show (rdH q (t p)).2 = 5
        rw [rdH, if_neg]
        rintro ⟨z1, z2, -⟩
        rw [ht p (by omega), Int32.le_iff_toInt_le, ti_49] at z1
        rw [ht p (by omega), Int32.le_iff_toInt_le, ti_57] at z2
        exact dg_lt1.mpr ⟨by omega, z1, z2⟩ A
    · obtain ⟨pL, c1, c2⟩ := dg_lt1.mp A
      have tp := ht p pL
      obtain ⟨y, hy⟩ : ∃ y, L - p = y + 1 := ⟨L - p - 1, by omega⟩
      have eH : stA 0 q (t p) = ((k, upd q.2.1 (k - 1) (pd p - 48), upd q.2.2 (k - 1) (-6)), 1) := by
        show rdH q (t p) = _
        rw [rdH, if_pos ⟨by rw [tp, Int32.le_iff_toInt_le, ti_49]; exact c1, by rw [tp, Int32.le_iff_toInt_le, ti_57]; exact c2, by omega⟩, hq, tp, show k - 1 + 1 = k by omega]
      have dgp : dg_V pd L p = pd p - 48 := dg_in pL ⟨by omega, c2⟩
      have dgr : (pd p - 48).toInt = (pd p).toInt - 48 := i_sub ⟨by omega, c2⟩
      rw [hy, fnF, eH, if_neg (by show ¬ (1 : Nat) = 5; decide), show y = L - (p + 1) by omega]
      have hH : ∀ (P : Nat → Int32), (upd q.2.1 (k - 1) (pd p - 48)) (k - 1) = dg_V pd L p ∧ (1 ≤ ((upd q.2.1 (k - 1) (pd p - 48)) (k - 1)).toInt ∧ ((upd q.2.1 (k - 1) (pd p - 48)) (k - 1)).toInt ≤ 9) := fun P => by
        rw [pk_us, dgp, dgr]
        exact ⟨rfl, by omega, by omega⟩
      by_cases B : sg_V pd L (p + 1) ≠ 64
      · have he : pE_V pd L p = (p + 1, false) := by rw [pE_V, if_neg A, if_pos B]
        refine ag_end ht hL hk hk8 he (by omega) (by omega) (Or.inl rfl) (fun h => ⟨fun _ z => B (by rw [sg_in h, ← ht _ h]; exact z), fun z => absurd z (by show ¬ (1 : Nat) = 3; decide)⟩) rfl (fun i hi => ?_) ⟨by rw [he], pL, (hH q.2.2).1, (hH q.2.2).2, ?_, Or.inl pk_us⟩ (ih (p + 1) _ rfl)
        · exact ⟨pk_un (by omega), pk_un (by omega)⟩
        · show pm_ (upd q.2.2 (k - 1) (-6) (k - 1)) = _
          rw [pk_us, pm_6, pO_V, he, if_pos rfl]
      · have B : sg_V pd L (p + 1) = 64 := Classical.not_not.mp B
        have p1L : p + 1 < L := by
          refine Classical.byContradiction fun z => ?_
          rw [sg_out (by omega)] at B
          exact absurd B (by decide)
        have t1 : t (p + 1) = 64 := by rw [ht _ p1L, ← sg_in (pd := pd) p1L]; exact B
        obtain ⟨y2, hy2⟩ : ∃ y, L - (p + 1) = y + 1 := ⟨L - (p + 1) - 1, by omega⟩
        generalize hQ1 : ((k, upd q.2.1 (k - 1) (pd p - 48), upd q.2.2 (k - 1) (-6)) : PQ) = Q1
        have q1k : Q1.1 = k := by rw [← hQ1]
        have q1h : Q1.2.1 = upd q.2.1 (k - 1) (pd p - 48) := by rw [← hQ1]
        have q1p : Q1.2.2 = upd q.2.2 (k - 1) (-6) := by rw [← hQ1]
        have e1 : stA 1 Q1 (t (p + 1)) = (Q1, 2) := by
          show (Q1, if t (p + 1) = 64 then 2 else rdC Q1 (t (p + 1))) = _
          rw [if_pos t1]
        rw [hy2, fnF, show stA 1 Q1 (t (p + 1)) = (Q1, 2) from e1, if_neg (by show ¬ (2 : Nat) = 5; decide), show y2 = L - (p + 2) by omega]
        show ag_D pd t L k p q (fnF t (L - (p + 2)) (p + 2) 2 Q1) _
        by_cases C : dg_V pd L (p + 2) < 0
        · have he : pE_V pd L p = (p + 2, true) := by rw [pE_V, if_neg A, if_neg (fun z => z B), if_pos C]
          have ef : ft_V pd L (d + 1) k p = nI (p + 2) := by rw [ft_V, he, if_pos rfl]
          rw [ef]
          refine ⟨?_, fun z => absurd z (nI_fault (by omega))⟩
          by_cases c : p + 2 = L
          · rw [← c, Nat.sub_self]
            show (if 2 = 0 ∨ 2 = 2 then nI (p + 2) else -6) = nI (p + 2)
            rw [if_pos (Or.inr rfl)]
          · obtain ⟨y3, hy3⟩ : ∃ y, L - (p + 2) = y + 1 := ⟨L - (p + 2) - 1, by omega⟩
            rw [hy3, fnF, if_pos]
            show (rdD Q1 (t (p + 2))).2 = 5
            rw [rdD, if_neg]
            rintro ⟨z1, z2⟩
            rw [ht _ (by omega), Int32.le_iff_toInt_le, ti_48] at z1
            rw [ht _ (by omega), Int32.le_iff_toInt_le, ti_57] at z2
            exact dg_lt0.mpr ⟨by omega, z1, z2⟩ C
        · obtain ⟨p2L, g1, g2⟩ := dg_lt0.mp C
          have t2 := ht _ p2L
          have dg2 : dg_V pd L (p + 2) = pd (p + 2) - 48 := dg_in p2L ⟨g1, g2⟩
          have dr2 : (pd (p + 2) - 48).toInt = (pd (p + 2)).toInt - 48 := i_sub ⟨g1, g2⟩
          obtain ⟨y3, hy3⟩ : ∃ y, L - (p + 2) = y + 1 := ⟨L - (p + 2) - 1, by omega⟩
          have e2 : stA 2 Q1 (t (p + 2)) = ((k, Q1.2.1, upd Q1.2.2 (k - 1) (pd (p + 2) - 48)), if t (p + 2) = 49 then 3 else 4) := by
            show rdD Q1 (t (p + 2)) = _
            rw [rdD, if_pos ⟨by rw [t2, Int32.le_iff_toInt_le, ti_48]; exact g1, by rw [t2, Int32.le_iff_toInt_le, ti_57]; exact g2⟩, rdP_k q1k hk, t2]
          rw [hy3, fnF, show stA 2 Q1 (t (p + 2)) = _ from e2, if_neg (by
            show ¬ (if t (p + 2) = 49 then 3 else 4) = 5
            split <;> decide), show y3 = L - (p + 3) by omega]
          show ag_D pd t L k p q (fnF t (L - (p + 3)) (p + 3) (if t (p + 2) = 49 then 3 else 4) (k, Q1.2.1, upd Q1.2.2 (k - 1) (pd (p + 2) - 48))) _
          have i49 : dg_V pd L (p + 2) = 1 ↔ p + 2 < L ∧ pd (p + 2) = 49 := dg_is 1 49 (by decide +kernel) (by decide +kernel)
          have i48' : dg_V pd L (p + 3) = 0 ↔ p + 3 < L ∧ pd (p + 3) = 48 := dg_is 0 48 (by decide +kernel) (by decide +kernel)
          have i49' : dg_V pd L (p + 3) = 1 ↔ p + 3 < L ∧ pd (p + 3) = 49 := dg_is 1 49 (by decide +kernel) (by decide +kernel)
          have pm2 : pm_ (pd (p + 2) - 48) = pd (p + 2) - 48 := by
            rw [pm_, if_neg]
            intro z
            have := congrArg Int32.toInt z
            rw [dr2, ti_m6] at this
            omega
          by_cases E : dg_V pd L (p + 2) = 1 ∧ (dg_V pd L (p + 3) = 0 ∨ dg_V pd L (p + 3) = 1)
          · have he : pE_V pd L p = (p + 4, false) := by rw [pE_V, if_neg A, if_neg (fun z => z B), if_neg C, if_pos E]
            have p3L : p + 3 < L := E.2.elim (fun z => (i48'.mp z).1) (fun z => (i49'.mp z).1)
            have c3 : pd (p + 3) = 48 ∨ pd (p + 3) = 49 := E.2.imp (fun z => (i48'.mp z).2) (fun z => (i49'.mp z).2)
            have t3 := ht _ p3L
            obtain ⟨y4, hy4⟩ : ∃ y, L - (p + 3) = y + 1 := ⟨L - (p + 3) - 1, by omega⟩
            rw [if_pos (by rw [t2]; exact (i49.mp E.1).2), hy4, fnF]
            generalize hQ2 : ((k, Q1.2.1, upd Q1.2.2 (k - 1) (pd (p + 2) - 48)) : PQ) = Q2
            have q2k : Q2.1 = k := by rw [← hQ2]
            have e3 : stA 3 Q2 (t (p + 3)) = ((k, Q2.2.1, upd Q2.2.2 (k - 1) (10 + pd (p + 3) - 48)), 4) := by
              show (if t (p + 3) = 48 ∨ t (p + 3) = 49 then (rdP Q2 (10 + t (p + 3) - 48), 4) else (Q2, rdC Q2 (t (p + 3))) : PQ × Nat) = _
              rw [if_pos (by rw [t3]; exact c3), rdP_k q2k hk, t3]
            rw [e3, if_neg (by show ¬ (4 : Nat) = 5; decide), show y4 = L - (p + 4) by omega]
            have v10 : 10 + pd (p + 3) - 48 = 10 + dg_V pd L (p + 3) ∧ inP (10 + pd (p + 3) - 48) := by
              rcases c3 with z | z
              · rw [i48'.mpr ⟨p3L, z⟩, z]; decide +kernel
              · rw [i49'.mpr ⟨p3L, z⟩, z]; decide +kernel
            have q2h : Q2.2.1 = upd q.2.1 (k - 1) (pd p - 48) := by rw [← hQ2]; exact q1h
            refine ag_end ht hL hk hk8 he (by omega) (by omega) (Or.inr (Or.inr rfl)) (fun h => ⟨fun z => absurd z (by show ¬ (4 : Nat) = 1; decide), fun z => absurd z (by show ¬ (4 : Nat) = 3; decide)⟩) rfl (fun i hi => ?_) ⟨by rw [he], pL, ?_, ?_, ?_, Or.inr ?_⟩ (ih (p + 4) _ rfl)
            · show Q2.2.1 i = _ ∧ upd Q2.2.2 (k - 1) (10 + pd (p + 3) - 48) i = _
              rw [q2h, ← hQ2, pk_un (by omega), pk_un (by omega)]
              show q.2.1 i = q.2.1 i ∧ upd Q1.2.2 (k - 1) _ i = _
              rw [pk_un (by omega), q1p, pk_un (by omega)]
              exact ⟨rfl, rfl⟩
            · show Q2.2.1 (k - 1) = _
              rw [q2h]; exact (hH q.2.2).1
            · show 1 ≤ (Q2.2.1 (k - 1)).toInt ∧ (Q2.2.1 (k - 1)).toInt ≤ 9
              rw [q2h]; exact (hH q.2.2).2
            · show pm_ (upd Q2.2.2 (k - 1) (10 + pd (p + 3) - 48) (k - 1)) = _
              rw [pk_us, pO_V, he, if_neg (show ¬ p + 4 = p + 1 by omega), if_neg (show ¬ p + 4 = p + 3 by omega), ← v10.1, pm_, if_neg]
              intro z
              have h2 := v10.2.1
              rw [z, ti_m6] at h2
              omega
            · show inP (upd Q2.2.2 (k - 1) (10 + pd (p + 3) - 48) (k - 1))
              rw [pk_us]; exact v10.2
          · have he : pE_V pd L p = (p + 3, false) := by rw [pE_V, if_neg A, if_neg (fun z => z B), if_neg C, if_neg E]
            refine ag_end ht hL hk hk8 he (by omega) (by omega) (by
              by_cases z : t (p + 2) = 49
              · rw [if_pos z]; exact Or.inr (Or.inl rfl)
              · rw [if_neg z]; exact Or.inr (Or.inr rfl)) (fun h => ⟨fun z => absurd z (by split <;> decide), fun z => ?_⟩) rfl (fun i hi => ?_) ⟨by rw [he], pL, ?_, ?_, ?_, Or.inr ?_⟩ (ih (p + 3) _ rfl)
            · have z49 : t (p + 2) = 49 := by
                refine Classical.byContradiction fun y => ?_
                rw [if_neg y] at z
                exact absurd z (by decide)
              rw [t2] at z49
              rw [ht _ h]
              exact ⟨fun y => E ⟨i49.mpr ⟨p2L, z49⟩, Or.inl (i48'.mpr ⟨h, y⟩)⟩, fun y => E ⟨i49.mpr ⟨p2L, z49⟩, Or.inr (i49'.mpr ⟨h, y⟩)⟩⟩
            · show Q1.2.1 i = _ ∧ upd Q1.2.2 (k - 1) (pd (p + 2) - 48) i = _
              rw [q1h, pk_un (by omega), pk_un (by omega), q1p, pk_un (by omega)]
              exact ⟨rfl, rfl⟩
            · show Q1.2.1 (k - 1) = _
              rw [q1h]; exact (hH q.2.2).1
            · show 1 ≤ (Q1.2.1 (k - 1)).toInt ∧ (Q1.2.1 (k - 1)).toInt ≤ 9
              rw [q1h]; exact (hH q.2.2).2
            · show pm_ (upd Q1.2.2 (k - 1) (pd (p + 2) - 48) (k - 1)) = _
              rw [pk_us, pO_V, he, if_neg (show ¬ p + 3 = p + 1 by omega), if_pos rfl, pm2, dg2]
            · show inP (upd Q1.2.2 (k - 1) (pd (p + 2) - 48) (k - 1))
              rw [pk_us]
              exact ⟨by rw [dr2]; omega, by rw [dr2]; omega⟩
