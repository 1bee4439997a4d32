/-! calls: what comes back is laid into the caller's cells -/
def am_mrg (μ : Nat → Nat) : Nat → am_H → am_H → am_H
  | _, [], h => h
  | j, none :: t, h => am_mrg μ (j + 1) t h
  | j, some c :: t, h => am_mrg μ (j + 1) t (h.set (μ j) (some (am_rc μ c)))
theorem am_mrg_len (μ : Nat → Nat) : ∀ (t : am_H) (j : Nat) (h : am_H), (am_mrg μ j t h).length = h.length
  | [], j, h => rfl
  | none :: t, j, h => am_mrg_len μ t (j + 1) h
  | some c :: t, j, h => by rw [am_mrg, am_mrg_len μ t (j + 1), List.length_set]
theorem am_mrg_out (μ : Nat → Nat) (k : Nat) : ∀ (t : am_H) (j : Nat) (h : am_H), (∀ (i : Nat) (c : am_C), t[i]? = some (some c) → μ (j + i) ≠ k) → (am_mrg μ j t h)[k]? = h[k]?
  | [], j, h, _ => rfl
  | none :: t, j, h, hn => am_mrg_out μ k t (j + 1) h fun i c hi => by rw [Nat.add_assoc, Nat.add_comm 1 i]; exact hn (i + 1) c hi
  | some c :: t, j, h, hn => by
    rw [am_mrg, am_mrg_out μ k t (j + 1) _ (fun i c hi => by rw [Nat.add_assoc, Nat.add_comm 1 i]; exact hn (i + 1) c hi), List.getElem?_set_ne (show μ j ≠ k from hn 0 c rfl)]
theorem am_mrg_in (μ : Nat → Nat) (i : Nat) (c : am_C) : ∀ (t : am_H) (j : Nat) (h : am_H), t[i]? = some (some c) → (∀ (i' : Nat) (c' : am_C), i' ≠ i → t[i']? = some (some c') → μ (j + i') ≠ μ (j + i)) → μ (j + i) < h.length → (am_mrg μ j t h)[μ (j + i)]? = some (some (am_rc μ c))
  | [], j, h, hi, _, _ => by simp at hi
  | o :: t, j, h, hi, hn, hl => by
    cases i with
    | zero =>
      cases hi
      rw [am_mrg, am_mrg_out μ _ t (j + 1) _ (fun i' c' h' => by rw [Nat.add_assoc, Nat.add_comm 1 i']; exact hn (i' + 1) c' (Nat.succ_ne_zero _) h')]
      exact List.getElem?_set_self hl
    | succ i =>
      have e : ∀ x, j + 1 + x = j + (x + 1) := fun x => by omega
      have ih := fun h' hl' => am_mrg_in μ i c t (j + 1) h' hi (fun i' c' ne h' => by rw [e, e]; exact hn (i' + 1) c' (fun q => ne (Nat.succ.inj q)) h') hl'
      cases o with
      | none =>
        rw [am_mrg]
        have := ih h (by rw [e]; exact hl)
        rw [e] at this
        exact this
      | some d =>
        rw [am_mrg]
        have := ih (h.set (μ j) (some (am_rc μ d))) (by rw [e, List.length_set]; exact hl)
        rw [e] at this
        exact this
/-- what a call asks of the renaming: r, h1 come back to a callee that began with hl, in a caller with L, S (what stays of the stack), h -/
def am_back (μ : Nat → Nat) (hl : am_H) (r : Option Value) (h1 : am_H) (L : List (Option Value)) (S : List Value) (h : am_H) : Prop :=
  (∀ (j : Nat) (c : am_C), hl[j]? = some (some c) → ∃ c' : am_C, h1[j]? = some (some c') ∧ am_wr c' = am_wr c) ∧
  (∀ (i j : Nat) (c d : am_C), h1[i]? = some (some c) → h1[j]? = some (some d) → μ i = μ j → i = j) ∧
  ∀ j, am_new hl h1 j → h[μ j]? = some none ∧ 2 ≤ μ j ∧ am_free (μ j) L S h = true ∧ ∀ t, (t ∈ (r.toList.flatMap am_vr) ∨ ∃ (i : Nat) (c : am_C), h1[i]? = some (some c) ∧ t ∈ am_refs c) → μ t = μ j → t = j
theorem am_callC {M' : am_M} {p : Program} {l : Launch} {e : Env} {R : Room} {s : State} {m : MethodId} {args : Array Value} {below : List Frame} {meth : Method} {c : Code} {D : va_G} {ad0 ad μ : Nat → Nat} {Q : State → Prop} {h0 h hl : am_H} {H : Heap} {locs : List Loc} {kc ks pc nL : Nat} {ls : Array Slot} {st0 : List Value} {L : List (Option Value)} {S : List Value} {a : Array Value} {Pq : Option Value → am_H → Prop}
    (hr : va_Run p l e R s m args below meth c H locs kc ks (am_nc M') (am_ns M') (F0 m pc ls st0) (S.map (am_v ad)) (am_Qc D (fun k => ad (μ k)) hl Pq a) (am_FP (fun k => ad (μ k)) hl H.size))
    (T : am_St h0 D s ad0 ad h H locs) (Ll : am_L nL ad ls L) (hsub : ∀ (j : Nat) (c : am_C), hl[j]? = some (some c) → h[μ j]? = some (some (am_rc μ c)))
    (hb : ∀ r h1, Pq r h1 → am_back μ hl r h1 L S h)
    (kk : ∀ r h1, Pq r h1 → ∀ (ad1 : Nat → Nat) (H1 : Heap) (locs1 : List Loc), am_St h0 D s ad0 ad1 (am_mrg μ 0 h1 h) H1 locs1 → am_L nL ad1 ls L → W p l e R s m args below meth c H1 locs1 (kc + am_nc M') (ks + am_ns M') Q (F0 m (pc + 3) ls (((r.map (am_v μ)).toList ++ S).map (am_v ad1)))) :
    W p l e R s m args below meth c H locs kc ks Q (F0 m pc ls st0) := by
  intro T0 hT X
  obtain ⟨v, st₀, t, T', Lo, e0, X', hLo, e1, e2, ⟨⟨r, h1, adc, hp, hv, hH, had, hfresh⟩, hz, hkeep⟩, st⟩ := hr T0 hT X
  obtain ⟨b1, b2, b3⟩ := hb r h1 hp
  cases hv
  obtain ⟨t1, t2, t3, t4, t5, t6, t7, t8, t9⟩ := T
  rw [e0] at hz hfresh hkeep
  -- where a cell of the callee lies
  have old : ∀ j c, hl[j]? = some (some c) → adc j = ad (μ j) := fun j c hj => had j fun q => q.2 ⟨c, hj⟩
  have newp : ∀ j k, am_new hl h1 j → am_new hl h1 k → μ j = μ k → j = k := by
    rintro j k ⟨⟨c, hc⟩, -⟩ ⟨⟨d, hd⟩, -⟩ he
    exact b2 j k c d hc hd he
  obtain ⟨ad1, a1, a2⟩ : ∃ ad1 : Nat → Nat, (∀ j, am_new hl h1 j → ad1 (μ j) = adc j) ∧ ∀ k, (∀ j, am_new hl h1 j → μ j ≠ k) → ad1 k = ad k := by
    have hx : ∀ k, ∃ q, (∀ j, am_new hl h1 j → μ j = k → q = adc j) ∧ ((∀ j, am_new hl h1 j → μ j ≠ k) → q = ad k) := by
      intro k
      by_cases hk : ∃ j, am_new hl h1 j ∧ μ j = k
      · obtain ⟨j, hj, hjk⟩ := hk
        exact ⟨adc j, fun i hi hik => by rw [newp i j hi hj (hik.trans hjk.symm)], fun z => absurd hjk (z j hj)⟩
      · exact ⟨ad k, fun j hj hjk => absurd ⟨j, hj, hjk⟩ hk, fun _ => rfl⟩
    exact ⟨fun k => Classical.choose (hx k), fun j hj => (Classical.choose_spec (hx (μ j))).1 j hj rfl, fun k hk => (Classical.choose_spec (hx k)).2 hk⟩
  have refs : ∀ u, (u ∈ (r.toList.flatMap am_vr) ∨ ∃ (i : Nat) (c : am_C), h1[i]? = some (some c) ∧ u ∈ am_refs c) → ad1 (μ u) = adc u := by
    intro u hu
    by_cases hn : am_new hl h1 u
    · exact a1 u hn
    · rw [had u hn, a2 (μ u) fun j hj he => ?_]
      have := (b3 j hj).2.2.2 u hu he.symm
      exact hn (this ▸ hj)
  have img : ∀ j c, h1[j]? = some (some c) → ad1 (μ j) = adc j := by
    intro j c hj
    by_cases hn : am_new hl h1 j
    · exact a1 j hn
    · rw [had j hn, a2 (μ j) fun i hi he => ?_]
      obtain ⟨⟨d, hd⟩, -⟩ := id hi
      have := b2 i j d c hd hj he
      exact hn (this ▸ hi)
  have isold : ∀ j c, h1[j]? = some (some c) → ¬ am_new hl h1 j → ∃ c', hl[j]? = some (some c') ∧ am_wr c = am_wr c' := by
    intro j c hj hn
    have : ∃ c', hl[j]? = some (some c') := Classical.byContradiction fun z => hn ⟨⟨c, hj⟩, z⟩
    obtain ⟨c', hc'⟩ := this
    obtain ⟨c'', g1, g2⟩ := b1 j c' hc'
    rw [hj] at g1
    cases g1
    exact ⟨c', hc', g2⟩
  have hlt : ∀ j c, h1[j]? = some (some c) → μ j < h.length := by
    intro j c hj
    by_cases hn : am_new hl h1 j
    · exact (List.getElem?_eq_some_iff.mp (b3 j hn).1).1
    · obtain ⟨c', g, -⟩ := isold j c hj hn
      exact (List.getElem?_eq_some_iff.mp (hsub j c' g)).1
  have min : ∀ j c, h1[j]? = some (some c) → (am_mrg μ 0 h1 h)[μ j]? = some (some (am_rc μ c)) := by
    intro j c hj
    have := am_mrg_in μ j c h1 0 h hj (fun i d ne hi he => ne (b2 i j d c hi hj (by simpa using he))) (by rw [Nat.zero_add]; exact hlt j c hj)
    rw [Nat.zero_add] at this
    exact this
  have mout : ∀ k, (∀ j c, h1[j]? = some (some c) → μ j ≠ k) → (am_mrg μ 0 h1 h)[k]? = h[k]? := by
    intro k hk
    exact am_mrg_out μ k h1 0 h fun i c hi => by rw [Nat.zero_add]; exact hk i c hi
  have cases' : ∀ k c, (am_mrg μ 0 h1 h)[k]? = some (some c) → (∃ j d, h1[j]? = some (some d) ∧ μ j = k ∧ c = am_rc μ d) ∨ ((∀ j d, h1[j]? = some (some d) → μ j ≠ k) ∧ h[k]? = some (some c)) := by
    intro k c hk
    by_cases hj : ∃ j d, h1[j]? = some (some d) ∧ μ j = k
    · obtain ⟨j, d, g1, g2⟩ := hj
      have := min j d g1
      rw [g2, hk] at this
      cases this
      exact Or.inl ⟨j, d, g1, g2, rfl⟩
    · have ho : ∀ j d, h1[j]? = some (some d) → μ j ≠ k := fun j d g1 g2 => hj ⟨j, d, g1, g2⟩
      rw [mout k ho] at hk
      exact Or.inr ⟨ho, hk⟩
  have fpA : ∀ q, am_FP (fun k => ad (μ k)) hl H.size q → am_FP ad0 h0 s.heap.size q := by
    rintro q (⟨j, c, g1, g2, g3⟩ | hq)
    · rw [g3]
      exact t5 (μ j) _ (hsub j c g1) (by rw [am_wr_rc]; exact g2)
    · exact Or.inr (Nat.le_trans t6.1 hq)
  have notnew : ∀ k c, h[k]? = some (some c) → ∀ j, am_new hl h1 j → μ j ≠ k := by
    intro k c hk j hj he
    have := (b3 j hj).1
    rw [he, hk] at this
    cases this
  have outkeep : ∀ k c, (∀ j d, h1[j]? = some (some d) → μ j ≠ k) → h[k]? = some (some c) → am_cell D s ad1 (ad1 k) T'.heap c := by
    intro k c ho hk
    have hcell := t1.1 k c hk
    rw [a2 k (notnew k c hk)]
    refine am_cell.ad (hcell.kept ?_) fun u hu => a2 u fun j hj he => ?_
    · rw [e1]
      refine hkeep _ hcell.lt ?_
      rintro (⟨j, d, g1, g2, g3⟩ | hq)
      · obtain ⟨d', g4, -⟩ := b1 j d g1
        exact ho j d' g4 (t1.2 (μ j) k _ _ (hsub j d g1) hk g3.symm)
      · have := hcell.lt; omega
    · rw [← he] at hu
      exact (am_free_spec (b3 j hj).2.2.1).2.2 k c hk hu
  have hal : t.vm.Alike s.vm := by rw [← e2]; exact X'.warmed.alike.symm
  have incell : ∀ j d, h1[j]? = some (some d) → am_cell D s ad1 (ad1 (μ j)) T'.heap (am_rc μ d) := by
    intro j d hj
    rw [am_cell.ren, img j d hj, e1]
    exact ((hH.1 j d hj).moved hal).ad fun u hu => refs u (Or.inr ⟨j, d, hj, hu⟩)
  have pres : ∀ (k : Nat) (c : am_C), h[k]? = some (some c) → ∃ c' : am_C, (am_mrg μ 0 h1 h)[k]? = some (some c') := by
    intro k c hk
    by_cases hj : ∃ j d, h1[j]? = some (some d) ∧ μ j = k
    · obtain ⟨j, d, g1, g2⟩ := hj
      exact ⟨_, g2 ▸ min j d g1⟩
    · exact ⟨c, by rw [mout k fun j d g1 g2 => hj ⟨j, d, g1, g2⟩]; exact hk⟩
  have hnewk : ∀ k, am_new h0 (am_mrg μ 0 h1 h) k → (∀ j, am_new hl h1 j → μ j ≠ k) → am_new h0 h k := by
    rintro k ⟨⟨c, hc⟩, hn⟩ ho
    refine ⟨?_, hn⟩
    rcases cases' k c hc with ⟨j, d, g1, g2, -⟩ | ⟨-, g⟩
    · have nj : ¬ am_new hl h1 j := fun z => ho j z g2
      obtain ⟨c', g3, -⟩ := isold j d g1 nj
      exact ⟨_, g2 ▸ hsub j c' g3⟩
    · exact ⟨c, g⟩
  have Tn : am_St h0 D s ad0 ad1 (am_mrg μ 0 h1 h) T'.heap (locs ++ Lo) := by
    refine ⟨⟨fun k c hk => ?_, fun k k' c c' hk hk' he => ?_⟩, fun k c hk => ?_, fun k hk => ?_, fun k hk => ?_, fun k c hk hw => ?_, ⟨?_, fun q q1 q2 => ?_, fun q hq => ?_⟩, t7, ?_, ?_⟩
    · rcases cases' k c hk with ⟨j, d, g1, g2, rfl⟩ | ⟨ho, g⟩
      · rw [← g2]; exact incell j d g1
      · exact outkeep k c ho g
    · have one : ∀ k k' j d c', h1[j]? = some (some d) → μ j = k → (∀ j d, h1[j]? = some (some d) → μ j ≠ k') → h[k']? = some (some c') → ad1 k = ad1 k' → k = k' := by
        intro k k' j d c' g1 g2 ho' g' he
        rw [a2 k' (notnew k' c' g'), ← g2, img j d g1] at he
        by_cases hn : am_new hl h1 j
        · have := hfresh j hn
          have := (t1.1 k' c' g').lt
          omega
        · obtain ⟨c'', g3, -⟩ := isold j d g1 hn
          rw [old j c'' g3] at he
          rw [← g2]
          exact t1.2 (μ j) k' _ _ (hsub j c'' g3) g' he
      rcases cases' k c hk with ⟨j, d, g1, g2, -⟩ | ⟨ho, g⟩ <;> rcases cases' k' c' hk' with ⟨j', d', g1', g2', -⟩ | ⟨ho', g'⟩
      · rw [← g2, ← g2', img j d g1, img j' d' g1'] at he
        rw [← g2, ← g2', hH.2 j j' d d' g1 g1' he]
      · exact one k k' j d c' g1 g2 ho' g' he
      · exact (one k' k j' d' c g1' g2' ho g he.symm).symm
      · rw [a2 k (notnew k c g), a2 k' (notnew k' c' g')] at he
        exact t1.2 k k' c c' g g' he
    · obtain ⟨c', g⟩ := t2 k c hk
      exact pres k c' g
    · have ho : ∀ j, am_new hl h1 j → μ j ≠ k := by
        intro j hj he
        refine hk ⟨?_, ?_⟩
        · obtain ⟨⟨d, hd⟩, -⟩ := id hj
          exact ⟨_, he ▸ min j d hd⟩
        · rintro ⟨c, hc⟩
          obtain ⟨c', g⟩ := t2 k c hc
          exact notnew k c' g j hj he
      rw [a2 k ho]
      refine t3 k fun q => hk ⟨?_, q.2⟩
      obtain ⟨c, hc⟩ := q.1
      exact pres k c hc
    · by_cases ho : ∃ j, am_new hl h1 j ∧ μ j = k
      · obtain ⟨j, hj, he⟩ := ho
        rw [← he, a1 j hj]
        exact Nat.le_trans t6.1 (hfresh j hj)
      · have ho' : ∀ j, am_new hl h1 j → μ j ≠ k := fun j hj he => ho ⟨j, hj, he⟩
        rw [a2 k ho']
        exact t4 k (hnewk k hk ho')
    · rcases cases' k c hk with ⟨j, d, g1, g2, rfl⟩ | ⟨ho, g⟩
      · rw [am_wr_rc] at hw
        rw [← g2, img j d g1]
        by_cases hn : am_new hl h1 j
        · exact Or.inr (Nat.le_trans t6.1 (hfresh j hn))
        · obtain ⟨c', g3, g4⟩ := isold j d g1 hn
          rw [old j c' g3]
          exact t5 (μ j) _ (hsub j c' g3) (by rw [am_wr_rc, ← g4]; exact hw)
      · rw [a2 k (notnew k c g)]
        exact t5 k c g hw
    · rw [e1]; exact Nat.le_trans t6.1 hz
    · rw [e1, hkeep q (Nat.lt_of_lt_of_le q1 t6.1) fun z => q2 (fpA q z)]
      exact t6.2.1 q q1 q2
    · rcases List.mem_append.mp hq with z | z
      · exact t6.2.2 q z
      · exact fpA _ (hLo q z)
    · rw [a2 0 fun j hj he => by have := (b3 j hj).2.1; omega]; exact t8
    · rw [a2 1 fun j hj he => by have := (b3 j hj).2.1; omega]; exact t9
  have keepv : ∀ v, (∀ j, am_new hl h1 j → μ j ∉ am_vr v) → am_v ad1 v = am_v ad v := fun v hv => am_vr_v fun u hu => a2 u fun j hj he => hv j hj (he ▸ hu)
  have hL1 : am_L nL ad1 ls L := Ll.ad fun i v hi => keepv v fun j hj => (am_free_spec (b3 j hj).2.2.1).1 i v hi
  have hS1 : S.map (am_v ad1) = S.map (am_v ad) := am_map_v fun v hv => keepv v fun j hj => (am_free_spec (b3 j hj).2.2.1).2.1 v hv
  obtain ⟨t9, y1, y2⟩ := kk r h1 hp ad1 T'.heap (locs ++ Lo) Tn hL1 T' rfl X'
  refine ⟨t9, st t9 ?_, y2⟩
  have eS : ((r.map (am_v μ)).toList ++ S).map (am_v ad1) = (r.map (am_v adc)).toList ++ S.map (am_v ad) := by
    rw [List.map_append, hS1]
    congr 1
    cases r with
    | none => rfl
    | some w =>
      show [am_v ad1 (am_v μ w)] = [am_v adc w]
      rw [am_vv]
      congr 1
      exact am_vr_v fun u hu => refs u (Or.inl (List.mem_flatMap.mpr ⟨w, List.mem_singleton.mpr rfl, hu⟩))
  rw [eS] at y1
  exact y1
