/-! AN ABSTRACT MACHINE over the kit's rows: references are places in a list of cells, its heaps are lists; a method's contract speaks of its own list -/
abbrev am_C : Type := (Nat × List Value) ⊕ ((FieldType × Bool × Nat × (Nat → Int32)) ⊕ (Nat × List (Option Nat)))
abbrev am_H : Type := List (Option am_C)
abbrev am_M : Type := MethodName × ByteArray × Nat × Option FieldType × Nat × Nat × Nat
abbrev am_y (M : am_M) : MethodName := M.1
abbrev am_b (M : am_M) : ByteArray := M.2.1
abbrev am_n (M : am_M) : Nat := M.2.2.1
abbrev am_r (M : am_M) : Option FieldType := M.2.2.2.1
abbrev am_lv (M : am_M) : Nat := M.2.2.2.2.1
abbrev am_nc (M : am_M) : Nat := M.2.2.2.2.2.1
abbrev am_ns (M : am_M) : Nat := M.2.2.2.2.2.2
abbrev am_W (M : am_M) : List Cond := Cond.code (am_y M) (am_b M) (am_n M) (am_r M) :: am_ws
abbrev am_R (M : am_M) : Room := { frames := am_lv M, cells := am_nc M, slots := am_ns M, locals := 41 * am_lv M }
abbrev am_oj (ci : Nat) (fs : List Value) : am_C := .inl (ci, fs)
abbrev am_ia (N : Nat) (f : Nat → Int32) : am_C := .inr (.inl (.int, true, N, f))
abbrev am_ra (ci : Nat) (gs : List (Option Nat)) : am_C := .inr (.inr (ci, gs))
def am_v (ad : Nat → Nat) : Value → Value
  | .ref k => .ref (ad k)
  | v => v
theorem am_vc (ad : Nat → Nat) (v : Value) : (am_v ad v).category = v.category := by cases v <;> rfl
theorem am_vv (f g : Nat → Nat) (v : Value) : am_v f (am_v g v) = am_v (fun k => f (g k)) v := by cases v <;> rfl
theorem am_vid (v : Value) : am_v (fun k => k) v = v := by cases v <;> rfl
/-- a cell, its references as 'ad' has them, lies at the address a -/
def am_cell (D : va_G) (U : State) (ad : Nat → Nat) (a : Nat) (H : Heap) (c : am_C) : Prop := match c with
  | .inl o => va_at D am_cl (a, .inr (o.1, o.2.map (am_v ad))) H
  | .inr (.inl x) => ∃ cell : Cell, H[a]? = some cell ∧ U.isArrayOf cell x.1 ∧ cell.vm ≠ .unknown ∧ cell.slots.size = x.2.2.1 ∧ x.2.2.1 < 2147483648 ∧ ∀ j : Nat, j < x.2.2.1 → cell.slots[j]? = some (.int (x.2.2.2 j))
  | .inr (.inr x) => ∃ (cA : ClassId) (q : vw_C), am_cl[x.1]? = some q ∧ x.2.length < 2147483648 ∧ H[a]? = some (arrV cA x.2.length (fun j => va_rf ((x.2.getD j none).map ad))) ∧ ArrOfT U cA (.object q.1) ∧ va_RA U cA (.object q.1)
theorem am_cell.kept {D : va_G} {U : State} {ad : Nat → Nat} {a : Nat} {H H1 : Heap} {c : am_C} (h : am_cell D U ad a H c) (hq : H1[a]? = H[a]?) : am_cell D U ad a H1 c := by
  match c, h with
  | .inl o, h => exact va_at.kept (q := (a, .inr (o.1, o.2.map (am_v ad)))) h hq
  | .inr (.inl x), h =>
    obtain ⟨cell, h1, h2⟩ := h
    exact ⟨cell, by rw [hq]; exact h1, h2⟩
  | .inr (.inr x), h =>
    obtain ⟨cA, q, h0, hl, h1, h2⟩ := h
    exact ⟨cA, q, h0, hl, by rw [hq]; exact h1, h2⟩
theorem am_cell.moved {D : va_G} {u U : State} {ad : Nat → Nat} {a : Nat} {H : Heap} {c : am_C} (hvm : u.vm.Alike U.vm) (h : am_cell D u ad a H c) : am_cell D U ad a H c := by
  match c, h with
  | .inl o, h => exact h
  | .inr (.inl x), h =>
    obtain ⟨cell, h1, h2, h3⟩ := h
    exact ⟨cell, h1, State.isArrayOf_alike hvm h2, h3⟩
  | .inr (.inr x), h =>
    obtain ⟨cA, q, h0, hl, h1, h2, h3⟩ := h
    exact ⟨cA, q, h0, hl, h1, arrOfT_moved hvm h2, h3.moved hvm⟩
theorem am_cell.lt {D : va_G} {U : State} {ad : Nat → Nat} {a : Nat} {H : Heap} {c : am_C} (h : am_cell D U ad a H c) : a < H.size := by
  match c, h with
  | .inl o, h => exact va_at.lt (q := (a, .inr (o.1, o.2.map (am_v ad)))) h
  | .inr (.inl x), h =>
    obtain ⟨cell, h1, h2⟩ := h
    exact (Array.getElem?_eq_some_iff.mp h1).1
  | .inr (.inr x), h =>
    obtain ⟨cA, q, h0, hl, h1, h2⟩ := h
    exact (Array.getElem?_eq_some_iff.mp h1).1
/-- which places a cell's contents name -/
def am_refs (c : am_C) : List Nat := match c with
  | .inl o => o.2.filterMap (fun v => match v with | .ref k => some k | _ => none)
  | .inr (.inl _) => []
  | .inr (.inr x) => x.2.filterMap (fun o => o)
theorem am_cell.ad {D : va_G} {U : State} {ad ad1 : Nat → Nat} {a : Nat} {H : Heap} {c : am_C} (h : am_cell D U ad a H c) (hr : ∀ k ∈ am_refs c, ad1 k = ad k) : am_cell D U ad1 a H c := by
  match c, h, hr with
  | .inl o, h, hr =>
    have e : o.2.map (am_v ad1) = o.2.map (am_v ad) := by
      refine List.map_congr_left fun v hv => ?_
      cases v with
      | ref k =>
        show Value.ref (ad1 k) = Value.ref (ad k)
        rw [hr k (List.mem_filterMap.mpr ⟨.ref k, hv, rfl⟩)]
      | _ => rfl
    show va_at D am_cl (a, .inr (o.1, o.2.map (am_v ad1))) H
    rw [e]
    exact h
  | .inr (.inl x), h, hr => exact h
  | .inr (.inr x), h, hr =>
    obtain ⟨cA, q, h0, hl, h1, h2⟩ := h
    refine ⟨cA, q, h0, hl, ?_, h2⟩
    rw [h1]
    congr 2
    funext j
    cases hj : x.2.getD j none with
    | none => rfl
    | some k =>
      have hm : some k ∈ x.2 := by
        rw [List.getD_eq_getElem?_getD] at hj
        cases hx : x.2[j]? with
        | none => rw [hx] at hj; cases hj
        | some z => rw [hx] at hj; cases hj; exact List.mem_of_getElem? hx
      show va_rf (some (ad k)) = va_rf (some (ad1 k))
      rw [hr k (List.mem_filterMap.mpr ⟨some k, hm, rfl⟩)]
/-- a renaming of the places, in a cell -/
def am_rc (μ : Nat → Nat) (c : am_C) : am_C := match c with
  | .inl o => .inl (o.1, o.2.map (am_v μ))
  | .inr (.inl x) => .inr (.inl x)
  | .inr (.inr x) => .inr (.inr (x.1, x.2.map (fun o => o.map μ)))
theorem am_cell.ren {D : va_G} {U : State} {ad μ : Nat → Nat} {a : Nat} {H : Heap} {c : am_C} : am_cell D U ad a H (am_rc μ c) ↔ am_cell D U (fun k => ad (μ k)) a H c := by
  match c with
  | .inl o =>
    show va_at D am_cl (a, .inr (o.1, (o.2.map (am_v μ)).map (am_v ad))) H ↔ va_at D am_cl (a, .inr (o.1, o.2.map (am_v (fun k => ad (μ k))))) H
    rw [List.map_map, show (am_v ad ∘ am_v μ) = am_v (fun k => ad (μ k)) from funext fun v => am_vv ad μ v]
  | .inr (.inl x) => exact Iff.rfl
  | .inr (.inr x) =>
    have e : (fun j => va_rf (((x.2.map (fun o => o.map μ)).getD j none).map ad)) = (fun j => va_rf ((x.2.getD j none).map (fun k => ad (μ k)))) := by
      funext j
      rw [List.getD_eq_getElem?_getD, List.getD_eq_getElem?_getD, List.getElem?_map]
      cases x.2[j]? with
      | none => rfl
      | some o => cases o <;> rfl
    show (∃ (cA : ClassId) (q : vw_C), am_cl[x.1]? = some q ∧ (x.2.map (fun o => o.map μ)).length < 2147483648 ∧ H[a]? = some (arrV cA (x.2.map (fun o => o.map μ)).length (fun j => va_rf (((x.2.map (fun o => o.map μ)).getD j none).map ad))) ∧ ArrOfT U cA (.object q.1) ∧ va_RA U cA (.object q.1)) ↔ _
    rw [e, List.length_map]
    exact Iff.rfl
theorem am_refs_rc (μ : Nat → Nat) (c : am_C) : am_refs (am_rc μ c) = (am_refs c).map μ := by
  match c with
  | .inl o =>
    show List.filterMap _ (o.2.map (am_v μ)) = List.map μ (List.filterMap _ o.2)
    rw [List.filterMap_map, List.map_filterMap]
    exact congrArg (fun f => List.filterMap f o.2) (funext fun v => by cases v <;> rfl)
  | .inr (.inl x) => rfl
  | .inr (.inr x) =>
    show List.filterMap _ (x.2.map (fun o => o.map μ)) = List.map μ (List.filterMap _ x.2)
    rw [List.filterMap_map, List.map_filterMap]
    exact congrArg (fun f => List.filterMap f x.2) (funext fun v => by cases v <;> rfl)
def am_wr (c : am_C) : Bool := match c with
  | .inr (.inl x) => x.2.1
  | _ => true
theorem am_wr_rc (μ : Nat → Nat) (c : am_C) : am_wr (am_rc μ c) = am_wr c := by
  match c with
  | .inl o => rfl
  | .inr (.inl x) => rfl
  | .inr (.inr x) => rfl
def am_HR (D : va_G) (U : State) (ad : Nat → Nat) (h : am_H) (H : Heap) : Prop :=
  (∀ (k : Nat) (c : am_C), h[k]? = some (some c) → am_cell D U ad (ad k) H c) ∧ ∀ (j k : Nat) (c d : am_C), h[j]? = some (some c) → h[k]? = some (some d) → ad j = ad k → j = k
def am_FP (ad : Nat → Nat) (h : am_H) (sz : Nat) : Addr → Prop := fun q => (∃ (k : Nat) (c : am_C), h[k]? = some (some c) ∧ am_wr c = true ∧ q = ad k) ∨ sz ≤ q
def am_E (D : va_G) (A : Nat → Prop) (ad : Nat → Nat) (U : State) (H : Heap) : Prop :=
  va_K D am_cl [] U ∧ (∀ w ∈ am_nw, va_Nw w U) ∧ va_Z "PuppetPitches" "FIRST_SETTINGS" "[I" (.ref (ad 0)) A U H ∧ va_Z "PuppetPitches" "GREATEST_SETTINGS" "[I" (.ref (ad 1)) A U H
def am_new (h h1 : am_H) (k : Nat) : Prop := (∃ c, h1[k]? = some (some c)) ∧ ¬ ∃ c, h[k]? = some (some c)
def am_Pc (D : va_G) (ad : Nat → Nat) (sz : Nat) (h : am_H) (as : List Value) : Array Value → State → Prop := fun v U =>
  v = (as.map (am_v ad)).toArray ∧ U.heap.size = sz ∧ am_HR D U ad h U.heap ∧ am_E D (am_FP ad h sz) ad U U.heap
def am_Qc (D : va_G) (ad : Nat → Nat) (h : am_H) (P : Option Value → am_H → Prop) : Array Value → State → Outcome → State → Prop := fun _ st o t =>
  (∃ (r : Option Value) (h1 : am_H) (ad1 : Nat → Nat), P r h1 ∧ o = .returned (r.map (am_v ad1)) ∧ am_HR D t ad1 h1 t.heap ∧ (∀ k, ¬ am_new h h1 k → ad1 k = ad k) ∧ (∀ k, am_new h h1 k → st.heap.size ≤ ad1 k)) ∧ va_F (am_FP ad h st.heap.size) st t
/-- a method's contract: from the cells h and the arguments as, it returns r and leaves the cells h1, with P r h1 -/
def am_Sp (M : am_M) (as : List Value) (h : am_H) (P : Option Value → am_H → Prop) : Prop :=
  ∀ (l : Launch) (D : va_G) (ad : Nat → Nat) (sz : Nat), Met l (am_y M) (am_W M) (am_R M) (am_Pc D ad sz h as) (am_Qc D ad h P) (am_nc M) (am_ns M) (am_FP ad h sz)
/-! what stands in a frame -/
def am_lst (ad : Nat → Nat) (L : List (Option Value)) : List (Nat × Value) := (List.range L.length).filterMap (fun i => ((L[i]?).join).map (fun v => (i, am_v ad v)))
theorem am_mem {ad : Nat → Nat} {L : List (Option Value)} {q : Nat × Value} : q ∈ am_lst ad L ↔ ∃ v, L[q.1]? = some (some v) ∧ q.2 = am_v ad v := by
  constructor
  · intro h
    obtain ⟨i, -, hi⟩ := List.mem_filterMap.mp h
    cases hl : L[i]? with
    | none => rw [hl] at hi; cases hi
    | some o =>
      rw [hl] at hi
      cases o with
      | none => cases hi
      | some v => cases hi; exact ⟨v, hl, rfl⟩
  · rintro ⟨v, h1, h2⟩
    refine List.mem_filterMap.mpr ⟨q.1, List.mem_range.mpr (List.getElem?_eq_some_iff.mp h1).1, ?_⟩
    rw [h1]
    show some (q.1, am_v ad v) = some q
    rw [← h2]
def am_L (nL : Nat) (ad : Nat → Nat) (ls : Array Slot) (L : List (Option Value)) : Prop := lv_has ls nL (am_lst ad L)
theorem am_L.at {nL : Nat} {ad : Nat → Nat} {ls : Array Slot} {L : List (Option Value)} (h : am_L nL ad ls L) {i : Nat} {v : Value} (hv : L[i]? = some (some v)) : ls[i]? = some (.val (am_v ad v)) := h.2.2 (i, am_v ad v) (am_mem.mpr ⟨v, hv, rfl⟩)
theorem am_L.of {nL : Nat} {ad : Nat → Nat} {ls : Array Slot} {L : List (Option Value)} {l : List (Nat × Value)} (h : lv_has ls nL l) (hs : ∀ (i : Nat) (v : Value), L[i]? = some (some v) → (i, am_v ad v) ∈ l) : am_L nL ad ls L :=
  ⟨h.1, h.2.1, fun q hq => by
    obtain ⟨v, h1, h2⟩ := am_mem.mp hq
    have := h.2.2 _ (hs q.1 v h1)
    rw [h2]
    exact this⟩
theorem am_L.ad {nL : Nat} {ad ad1 : Nat → Nat} {ls : Array Slot} {L : List (Option Value)} (h : am_L nL ad ls L) (hv : ∀ (i : Nat) (v : Value), L[i]? = some (some v) → am_v ad1 v = am_v ad v) : am_L nL ad1 ls L :=
  am_L.of h fun i v hi => by rw [hv i v hi]; exact am_mem.mpr ⟨v, hi, rfl⟩
/-- no long stands before the place i -/
def am_ok1 (L : List (Option Value)) : Nat → Bool
  | 0 => true
  | j + 1 => match L[j]? with
    | some (some (.long _)) => false
    | some (some (.double _)) => false
    | _ => true
theorem am_ok1_spec {L : List (Option Value)} {i j : Nat} {v : Value} (h : am_ok1 L i = true) (hj : j + 1 = i) (hv : L[j]? = some (some v)) : v.category ≠ 2 := by
  subst hj
  simp only [am_ok1, hv] at h
  cases v <;> first | (intro q; cases q; done) | cases h
theorem am_L.set {nL : Nat} {ad : Nat → Nat} {ls' : Array Slot} {L : List (Option Value)} {i : Nat} {v : Value} (hok : am_ok1 L i = true) (h : lv_has ls' nL ((i, am_v ad v) :: (am_lst ad L).filter (fun q => !(q.1 == i) && !(q.1 + 1 == i && q.2.category == 2)))) : am_L nL ad ls' (L.set i (some v)) := by
  refine am_L.of h fun j w hj => ?_
  by_cases e : j = i
  · subst e
    rw [List.getElem?_set_self'] at hj
    cases hx : L[j]? with
    | none => rw [hx] at hj; cases hj
    | some o => rw [hx] at hj; cases hj; exact List.mem_cons_self
  · rw [List.getElem?_set_ne (Ne.symm e)] at hj
    refine List.mem_cons_of_mem _ (List.mem_filter.mpr ⟨am_mem.mpr ⟨w, hj, rfl⟩, ?_⟩)
    have e1 : (j == i) = false := by simpa using e
    simp only [e1, Bool.not_false, Bool.true_and, Bool.not_eq_true', Bool.and_eq_false_iff, beq_eq_false_iff_ne, ne_eq]
    by_cases e2 : j + 1 = i
    · exact Or.inr (by rw [am_vc]; exact am_ok1_spec hok e2 hj)
    · exact Or.inl e2
theorem am_L.set2 {nL : Nat} {ad : Nat → Nat} {ls' : Array Slot} {L : List (Option Value)} {i : Nat} {v : Value} (hok : am_ok1 L i = true) (h : lv_has ls' nL ((i, am_v ad v) :: (am_lst ad L).filter (fun q => !(q.1 == i) && (!(q.1 == i + 1) && !(q.1 + 1 == i && q.2.category == 2))))) : am_L nL ad ls' ((L.set i (some v)).set (i + 1) none) := by
  refine am_L.of h fun j w hj => ?_
  by_cases e0 : j = i + 1
  · subst e0
    rw [List.getElem?_set_self'] at hj
    cases hx : (L.set i (some v))[i + 1]? with
    | none => rw [hx] at hj; cases hj
    | some o => rw [hx] at hj; cases hj
  rw [List.getElem?_set_ne (Ne.symm e0)] at hj
  by_cases e : j = i
  · subst e
    rw [List.getElem?_set_self'] at hj
    cases hx : L[j]? with
    | none => rw [hx] at hj; cases hj
    | some o => rw [hx] at hj; cases hj; exact List.mem_cons_self
  · rw [List.getElem?_set_ne (Ne.symm e)] at hj
    refine List.mem_cons_of_mem _ (List.mem_filter.mpr ⟨am_mem.mpr ⟨w, hj, rfl⟩, ?_⟩)
    have e1 : (j == i) = false := by simpa using e
    have e3 : (j == i + 1) = false := by simpa using e0
    simp only [e1, e3, Bool.not_false, Bool.true_and, Bool.not_eq_true', Bool.and_eq_false_iff, beq_eq_false_iff_ne, ne_eq]
    by_cases e2 : j + 1 = i
    · exact Or.inr (by rw [am_vc]; exact am_ok1_spec hok e2 hj)
    · exact Or.inl e2
def am_ent0 : List Value → List (Option Value)
  | [] => []
  | v :: t => if v.category = 2 then some v :: none :: am_ent0 t else some v :: am_ent0 t
abbrev am_ent (as : List Value) (n : Nat) : List (Option Value) := am_ent0 as ++ List.replicate (n - (am_ent0 as).length) none
theorem am_ent0_in (ad : Nat → Nat) : ∀ (as : List Value) (k i : Nat) (v : Value), (am_ent0 as)[i]? = some (some v) → (k + i, am_v ad v) ∈ lv_args k (as.map (am_v ad))
  | [], k, i, v, h => by simp [am_ent0] at h
  | w :: t, k, i, v, h => by
    simp only [am_ent0] at h
    simp only [List.map_cons, lv_args, am_vc]
    by_cases hc : w.category = 2
    · rw [if_pos hc] at h
      rw [if_pos hc]
      match i, h with
      | 0, h => cases h; exact List.mem_cons_self
      | 1, h => cases h
      | i + 2, h =>
        have := am_ent0_in ad t (k + 2) i v h
        rw [show k + (i + 2) = k + 2 + i by omega]
        exact List.mem_cons_of_mem _ this
    · rw [if_neg hc] at h
      rw [if_neg hc]
      match i, h with
      | 0, h => cases h; exact List.mem_cons_self
      | i + 1, h =>
        have := am_ent0_in ad t (k + 1) i v h
        rw [show k + (i + 1) = k + 1 + i by omega]
        exact List.mem_cons_of_mem _ this
theorem am_ent_in {ad : Nat → Nat} {as : List Value} {n i : Nat} {v : Value} (h : (am_ent as n)[i]? = some (some v)) : (i, am_v ad v) ∈ lv_args 0 (as.map (am_v ad)) := by
  have h2 : (am_ent0 as)[i]? = some (some v) := by
    by_cases hi : i < (am_ent0 as).length
    · rw [List.getElem?_append_left hi] at h; exact h
    · rw [List.getElem?_append_right (by omega), List.getElem?_replicate] at h
      split at h <;> cases h
  have := am_ent0_in ad as 0 i v h2
  rw [Nat.zero_add] at this
  exact this
theorem am_nwarm {w : Cond} (hn : am_nest w = true) {s U : State} (hW : s.WarmedH U.vm) (h : va_Nw w s) : va_Nw w U := by
  cases w <;> first | (cases hn; done) | exact va_Nw.warmF hW h | exact va_Nw.warmM hW h | skip
  case arrayOver t =>
    cases t <;> first | (cases hn; done) | exact va_AO.moved hW.alike h
theorem am_uws {ci : Nat} {C : String} {T : u_T} {N : Nat} (h : am_cl[ci]? = some (C, T, N)) : ∀ w ∈ u_ws C T N, w ∈ am_ws := by
  match ci, h with
  | 0, h => cases h; exact am_in1
  | 1, h => cases h; exact am_in2
  | 2, h => cases h; exact am_in3
  | 3, h => cases h; exact am_in4
  | 4, h => cases h; exact am_in5
  | 5, h => cases h; exact am_in6
  | k + 6, h => simp [am_cl] at h
