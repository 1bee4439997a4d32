/-! rows that read and write cells -/
theorem am_cty {ci : Nat} {C : String} {T : u_T} {N : Nat} (h : am_cl[ci]? = some (C, T, N)) : ∃ ty0 : Nat → FieldType, (∀ k, k < N → parseFieldDescriptor (T k).2.2.1 = some (ty0 k)) ∧ ∀ a, a < N → ∀ b, b < N → a ≠ b → (T a).2.1 ≠ (T b).2.1 := by
  match ci, h with
  | 0, h => cases h; exact ⟨_, tyX1_ok, nmX1⟩
  | 1, h => cases h; exact ⟨_, tyX2_ok, nmX2⟩
  | 2, h => cases h; exact ⟨_, tyX3_ok, nmX3⟩
  | 3, h => cases h; exact ⟨_, tyX4_ok, nmX4⟩
  | 4, h => cases h; exact ⟨_, tyX5_ok, nmX5⟩
  | 5, h => cases h; exact ⟨_, tyX6_ok, nmX6⟩
  | k + 6, h => simp [am_cl] at h
theorem am_HR.set {D : va_G} {U : State} {ad : Nat → Nat} {h : am_H} {H H1 : Heap} {a : Nat} {c0 c1 : am_C} (hh : am_HR D U ad h H) (ha : h[a]? = some (some c0)) (hc : am_cell D U ad (ad a) H1 c1) (oq : ∀ q : Nat, q ≠ ad a → H1[q]? = H[q]?) : am_HR D U ad (h.set a (some c1)) H1 := by
  have hl := (List.getElem?_eq_some_iff.mp ha).1
  have pres : ∀ (j : Nat) (c : am_C), (h.set a (some c1))[j]? = some (some c) → ∃ c', h[j]? = some (some c') := by
    intro j c hj
    by_cases e : j = a
    · subst e; exact ⟨_, ha⟩
    · rw [List.getElem?_set_ne (Ne.symm e)] at hj; exact ⟨_, hj⟩
  refine ⟨fun k c hk => ?_, fun j k c d hj hk he => ?_⟩
  · by_cases e : k = a
    · subst e
      rw [List.getElem?_set_self hl] at hk
      cases hk
      exact hc
    · rw [List.getElem?_set_ne (Ne.symm e)] at hk
      exact (hh.1 k c hk).kept (oq _ fun z => e (hh.2 k a _ _ hk ha z))
  · obtain ⟨c', h1⟩ := pres j c hj
    obtain ⟨d', h2⟩ := pres k d hk
    exact hh.2 j k c' d' h1 h2 he
theorem am_set_pres {h : am_H} {a k : Nat} {c0 c1 : am_C} (ha : h[a]? = some (some c0)) : (∃ c, (h.set a (some c1))[k]? = some (some c)) ↔ ∃ c, h[k]? = some (some c) := by
  have hl := (List.getElem?_eq_some_iff.mp ha).1
  by_cases e : k = a
  · subst e
    rw [List.getElem?_set_self hl, ha]
    exact ⟨fun _ => ⟨_, rfl⟩, fun _ => ⟨_, rfl⟩⟩
  · rw [List.getElem?_set_ne (Ne.symm e)]
theorem am_St.set {h0 : am_H} {D : va_G} {s : State} {ad0 ad : Nat → Nat} {h : am_H} {H H1 : Heap} {locs : List Loc} {a i : Nat} {c0 c1 : am_C} (T : am_St h0 D s ad0 ad h H locs) (ha : h[a]? = some (some c0)) (hw : am_wr c0 = true) (hc : am_cell D s ad (ad a) H1 c1) (z : H1.size = H.size) (oq : ∀ q : Nat, q ≠ ad a → H1[q]? = H[q]?) : am_St h0 D s ad0 ad (h.set a (some c1)) H1 (locs ++ [⟨ad a, i⟩]) := by
  obtain ⟨t1, t2, t3, t4, t5, t6, t7, t8⟩ := T
  have hl := (List.getElem?_eq_some_iff.mp ha).1
  refine ⟨t1.set ha hc oq, fun k c hk => (am_set_pres ha).mpr (t2 k c hk), fun k hk => t3 k fun q => hk ⟨(am_set_pres ha).mpr q.1, q.2⟩, fun k hk => t4 k ⟨(am_set_pres ha).mp hk.1, hk.2⟩, fun k c hk hcw => ?_, t6.put z oq (t5 a c0 ha hw), t7, t8⟩
  by_cases e : k = a
  · subst e; exact t5 k c0 ha hw
  · rw [List.getElem?_set_ne (Ne.symm e)] at hk
    exact t5 k c hk hcw
/-- the word of a field: own class, entry, class and place of the field, its type, whether it is final -/
def am_fld (own : String) (idx ci k : Nat) (ty : FieldType) (fin : Bool) : Prop := ∃ (C : String) (T : u_T) (N : Nat), am_cl[ci]? = some (C, T, N) ∧ k < N ∧ Cond.fieldLink own idx (T k).1 (T k).2.1 (T k).2.2.1 ∈ am_ws ∧ parseFieldDescriptor (T k).2.2.1 = some ty ∧ (T k).2.2.2 = fin ∧ (fin = true → (T k).1 = C)
section
variable {M : am_M} {h0 : am_H} {P : Option Value → am_H → Prop} {kc ks pc : Nat} {L : List (Option Value)} {S : List Value} {h : am_H}
theorem am_ts {p : Program} {R : Room} {s : State} {m : MethodId} {args : Array Value} {meth : Method} {c : Code} (C : am_Cx M p R s m args meth c) {w : Cond} (hw : w ∈ am_ws) : w.before args s = true := C.2.2.2.2.1 _ (List.mem_cons_of_mem _ hw)
theorem ar_getf {idx ci k a : Nat} {ty : FieldType} {fin : Bool} {fs : List Value} {v : Value} (d : decode (am_b M) pc = .ok (.getfield idx, 3)) (hf : am_fld (am_y M).cls idx ci k ty fin) (hc : h[a]? = some (some (.inl (ci, fs)))) (hv : fs[k]? = some v) (k : am_RW M h0 P kc ks (pc + 3) L (v :: S) h) : am_RW M h0 P kc ks pc L (.ref a :: S) h := by
  intro p l e R s m args below meth c D ad0 Q C F ad H locs ls T Ll
  obtain ⟨Cn, Tn, N, q1, q2, q3, -⟩ := hf
  have hP : va_P D am_cl [(ad a, .inr (ci, fs.map (am_v ad)))] H := fun j q hj => by
    match j, hj with
    | 0, hj => cases hj; exact T.1.1 a _ hc
    | j + 1, hj => simp at hj
  refine va_get C.1 C.2.1 C.2.2.2.2.1 (fun w hw => List.mem_cons_of_mem _ (am_uws q1 w hw)) C.2.2.2.1 T.2.2.2.2.2.2.1.1 hP 0 rfl q1 _ q2 (am_ts C q3) (fun _ z => z) (v := am_v ad v) (by rw [List.getElem?_map, hv]; rfl) d ?_
  exact k p l e R s m args below meth c D ad0 Q C F ad H locs ls T Ll
theorem ar_putf {idx ci k a : Nat} {ty : FieldType} {fs : List Value} {v : Value} (d : decode (am_b M) pc = .ok (.putfield idx, 3)) (hf : am_fld (am_y M).cls idx ci k ty false) (hc : h[a]? = some (some (.inl (ci, fs)))) (hv : k < fs.length) (hn : ∀ ad, narrow ty (am_v ad v) = am_v ad v ∧ fits ty (am_v ad v) = true) (kk : am_RW M h0 P kc ks (pc + 3) L S (h.set a (some (.inl (ci, fs.set k v))))) : am_RW M h0 P kc ks pc L (v :: .ref a :: S) h := by
  intro p l e R s m args below meth c D ad0 Q C F ad H locs ls T Ll
  obtain ⟨Cn, Tn, N, q1, q2, q3, q4, q5, -⟩ := hf
  obtain ⟨ty0, hty, hnm⟩ := am_cty q1
  have hin : ∀ w ∈ u_ws Cn Tn N, w ∈ am_W M := fun w hw => List.mem_cons_of_mem _ (am_uws q1 w hw)
  have hts := C.2.2.2.2.1
  have hK : va_K D am_cl [] s := T.2.2.2.2.2.2.1.1
  have hap := va_apart (own := "") hts hin ty0 hty hnm hK q1
  obtain ⟨r, h1, cell, c1, c2, c3, c4⟩ := T.1.1 a _ hc
  have hr : r = (Cn, Tn, N) := Option.some.inj (h1.symm.trans q1)
  subst hr
  obtain ⟨hS, hfc, kC, hkC, hkind⟩ := hK.1 ci _ q1
  obtain ⟨cf, kf, fi, f, hi, hsl⟩ := hS k q2
  have hlay := hts _ (hin _ (u_in_lay q2))
  unfold u_lay at hlay
  rw [if_neg (by rw [q5]; decide)] at hlay
  have hst := (u_facts hfc hkC (u_lays hts hin q2) hi).1
  have h6 := u_store hfc hkC hkind hlay hi q4 (hn ad).1 (hn ad).2
  refine W.putK C.1 C.2.1 (f := f) ⟨C.2.2.2.1, am_ts C q3, ⟨_, _, _, hi⟩, hst⟩ (by rw [c2]; exact h6) c1 c3 (by rw [hsl]; exact k2_hasslot (c4 k q2)) rfl rfl d fun H' e1 e2 e3 => ?_
  rw [hsl] at e1 ⊢
  have hl : k < (fs.map (am_v ad)).length := by rw [List.length_map]; exact hv
  have hcell : am_cell D s ad (ad a) H' (.inl (ci, fs.set k v)) := by
    refine ⟨(Cn, Tn, N), q1, ?_⟩
    refine t_OB.to (V := updV (vp_V (fs.map (am_v ad))) k (am_v ad v)) ⟨_, e1, c2, c3, t_set c4 hap q2 (am_v ad v)⟩ (fun j _ => ?_)
    rw [vp_updV_set hl, ← List.map_set]
  exact kk p l e R s m args below meth c D ad0 Q C F ad H' _ ls (T.set hc rfl hcell e2 e3) Ll
theorem ar_putF {idx ci k a : Nat} {ty : FieldType} {fs : List Value} {v : Value} (d : decode (am_b M) pc = .ok (.putfield idx, 3)) (hf : am_fld (am_y M).cls idx ci k ty true) (hown : (am_cl[ci]?).map (fun q => q.1) = some (am_y M).cls) (hin2 : (am_y M).name = "<init>") (hc : h[a]? = some (some (.inl (ci, fs)))) (hv : k < fs.length) (hn : ∀ ad, narrow ty (am_v ad v) = am_v ad v ∧ fits ty (am_v ad v) = true) (kk : am_RW M h0 P kc ks (pc + 3) L S (h.set a (some (.inl (ci, fs.set k v))))) : am_RW M h0 P kc ks pc L (v :: .ref a :: S) h := by
  intro p l e R s m args below meth c D ad0 Q C F ad H locs ls T Ll
  obtain ⟨Cn, Tn, N, q1, q2, q3, q4, q5, q6⟩ := hf
  have hdecl : (Tn k).1 = (am_y M).cls := by
    rw [q6 rfl]
    rw [q1] at hown
    exact Option.some.inj hown
  obtain ⟨ty0, hty, hnm⟩ := am_cty q1
  have hin : ∀ w ∈ u_ws Cn Tn N, w ∈ am_W M := fun w hw => List.mem_cons_of_mem _ (am_uws q1 w hw)
  have hts := C.2.2.2.2.1
  have hK : va_K D am_cl [] s := T.2.2.2.2.2.2.1.1
  have hap := va_apart (own := "") hts hin ty0 hty hnm hK q1
  obtain ⟨r, h1, cell, c1, c2, c3, c4⟩ := T.1.1 a _ hc
  have hr : r = (Cn, Tn, N) := Option.some.inj (h1.symm.trans q1)
  subst hr
  obtain ⟨hS, hfc, kC, hkC, hkind⟩ := hK.1 ci _ q1
  obtain ⟨cf, kf, fi, f, hi, hsl⟩ := hS k q2
  have hlay := hts _ (hin _ (u_in_lay q2))
  unfold u_lay at hlay
  rw [if_pos q5] at hlay
  have hst := (u_facts hfc hkC (u_lays hts hin q2) hi).1
  have hcf : m.cls = cf := by
    obtain ⟨_, _, c', _, _, _, -, -, hf', -, -, -, hown2, -⟩ := Cond.laysFinal_spec hlay
    have e1 : c' = cf := by have := hi.symm.trans hf'; simp at this; exact this.1.symm
    rw [hdecl] at hown2
    rw [← e1]; exact Option.some.inj (C.2.2.2.1.symm.trans hown2)
  have h6 := u_fits hfc hkC hkind (Or.inr hlay) hi q4 (hn ad).1 (hn ad).2
  refine W.putFinK C.1 C.2.1 C.2.2.2.1 (am_ts C q3) hi hst hcf (C.2.2.2.2.2.1.trans hin2) (by rw [c2]; exact h6) c1 c3 (by rw [hsl]; exact k2_hasslot (c4 k q2)) rfl rfl d fun H' e1 e2 e3 => ?_
  rw [hsl] at e1 ⊢
  have hl : k < (fs.map (am_v ad)).length := by rw [List.length_map]; exact hv
  have hcell : am_cell D s ad (ad a) H' (.inl (ci, fs.set k v)) := by
    refine ⟨(Cn, Tn, N), q1, ?_⟩
    refine t_OB.to (V := updV (vp_V (fs.map (am_v ad))) k (am_v ad v)) ⟨_, e1, c2, c3, t_set c4 hap q2 (am_v ad v)⟩ (fun j _ => ?_)
    rw [vp_updV_set hl, ← List.map_set]
  exact kk p l e R s m args below meth c D ad0 Q C F ad H' _ ls (T.set hc rfl hcell e2 e3) Ll
theorem ar_inx {x : Int32} {j N : Nat} (hj : j < N) (hN : N < 2147483648) (ex : x = nI j) : ¬ (x < 0 ∨ N ≤ x.toNatClampNeg) ∧ x.toNatClampNeg = j := by
  subst ex
  have hj2 : j < 2 ^ 31 := by omega
  exact ⟨nI_in hj (by omega), nI_clamp hj2⟩
theorem ar_iald {x : Int32} {a j N : Nat} {w : Bool} {f : Nat → Int32} (d : decode (am_b M) pc = .ok (.iaload, 1)) (hc : h[a]? = some (some (.inr (.inl (.int, w, N, f))))) (hj : j < N) (ex : x = nI j) (k : am_RW M h0 P kc ks (pc + 1) L (.int (f j) :: S) h) : am_RW M h0 P kc ks pc L (.int x :: .ref a :: S) h := by
  intro p l e R s m args below meth c D ad0 Q C F ad H locs ls T Ll
  obtain ⟨cell, c1, c2, c3, c4, c5, c6⟩ := T.1.1 a _ hc
  obtain ⟨i1, i2⟩ := ar_inx hj c5 ex
  exact W.iald (v := .int (f j)) C.1 C.2.1 c1 c2 c3 (by rw [c4]; exact i1) (by rw [i2]; exact c6 j hj) rfl rfl d (k p l e R s m args below meth c D ad0 Q C F ad H locs ls T Ll)
theorem ar_cald {x : Int32} {a j N : Nat} {w : Bool} {f : Nat → Int32} (d : decode (am_b M) pc = .ok (.caload, 1)) (hc : h[a]? = some (some (.inr (.inl (.char, w, N, f))))) (hj : j < N) (ex : x = nI j) (k : am_RW M h0 P kc ks (pc + 1) L (.int (f j) :: S) h) : am_RW M h0 P kc ks pc L (.int x :: .ref a :: S) h := by
  intro p l e R s m args below meth c D ad0 Q C F ad H locs ls T Ll
  obtain ⟨cell, c1, c2, c3, c4, c5, c6⟩ := T.1.1 a _ hc
  obtain ⟨i1, i2⟩ := ar_inx hj c5 ex
  exact W.cald (v := .int (f j)) C.1 C.2.1 c1 c2 c3 (by rw [c4]; exact i1) (by rw [i2]; exact c6 j hj) rfl rfl d (k p l e R s m args below meth c D ad0 Q C F ad H locs ls T Ll)
theorem ar_zald {x : Int32} {a j N : Nat} {w : Bool} {f : Nat → Int32} (d : decode (am_b M) pc = .ok (.baload, 1)) (hc : h[a]? = some (some (.inr (.inl (.boolean, w, N, f))))) (hj : j < N) (ex : x = nI j) (k : am_RW M h0 P kc ks (pc + 1) L (.int (f j) :: S) h) : am_RW M h0 P kc ks pc L (.int x :: .ref a :: S) h := by
  intro p l e R s m args below meth c D ad0 Q C F ad H locs ls T Ll
  obtain ⟨cell, c1, c2, c3, c4, c5, c6⟩ := T.1.1 a _ hc
  obtain ⟨i1, i2⟩ := ar_inx hj c5 ex
  exact W.zald (v := .int (f j)) C.1 C.2.1 c1 c2 c3 (by rw [c4]; exact i1) (by rw [i2]; exact c6 j hj) rfl rfl d (k p l e R s m args below meth c D ad0 Q C F ad H locs ls T Ll)
theorem ar_alen {a N : Nat} {ty : FieldType} {w : Bool} {f : Nat → Int32} (d : decode (am_b M) pc = .ok (.arraylength, 1)) (hc : h[a]? = some (some (.inr (.inl (ty, w, N, f))))) (k : am_RW M h0 P kc ks (pc + 1) L (.int (nI N) :: S) h) : am_RW M h0 P kc ks pc L (.ref a :: S) h := by
  intro p l e R s m args below meth c D ad0 Q C F ad H locs ls T Ll
  obtain ⟨cell, c1, c2, c3, c4, c5, c6⟩ := T.1.1 a _ hc
  exact W.alen (n := nI N) C.1 C.2.1 c1 c2 (by rw [c4]; rfl) rfl rfl d (k p l e R s m args below meth c D ad0 Q C F ad H locs ls T Ll)
theorem ar_alenq {a ci : Nat} {gs : List (Option Nat)} (d : decode (am_b M) pc = .ok (.arraylength, 1)) (hc : h[a]? = some (some (.inr (.inr (ci, gs))))) (k : am_RW M h0 P kc ks (pc + 1) L (.int (nI gs.length) :: S) h) : am_RW M h0 P kc ks pc L (.ref a :: S) h := by
  intro p l e R s m args below meth c D ad0 Q C F ad H locs ls T Ll
  obtain ⟨cA, q, c0, c1, c2, c3, c4⟩ := T.1.1 a _ hc
  exact W.alen (n := nI gs.length) C.1 C.2.1 c2 (c3 gs.length _) (by rw [arrV_size]; rfl) rfl rfl d (k p l e R s m args below meth c D ad0 Q C F ad H locs ls T Ll)
theorem am_cset {D : va_G} {s : State} {ad : Nat → Nat} {a : Nat} {H1 : Heap} {ty : FieldType} {w : Bool} {N j : Nat} {f : Nat → Int32} {x : Int32} {cell : Cell} (c2 : s.isArrayOf cell ty) (c3 : cell.vm ≠ .unknown) (c4 : cell.slots.size = N) (c5 : N < 2147483648) (c6 : ∀ j : Nat, j < N → cell.slots[j]? = some (.int (f j))) (hj : j < N) (e : H1[a]? = some (cell.setSlot j (.int x))) : am_cell D s ad a H1 (.inr (.inl (ty, w, N, upd f j x))) := by
  refine ⟨_, e, c2, c3, ?_, c5, fun i hi => ?_⟩
  · show (cell.slots.setIfInBounds j (.int x)).size = N
    rw [Array.size_setIfInBounds]; exact c4
  · show (cell.slots.setIfInBounds j (.int x))[i]? = some (.int (upd f j x i))
    by_cases h : i = j
    · subst h
      rw [Array.getElem?_setIfInBounds_self_of_lt (by rw [c4]; exact hi)]
      simp [upd]
    · rw [Array.getElem?_setIfInBounds_ne (Ne.symm h), c6 i hi]
      simp [upd, h]
theorem ar_iast {x i : Int32} {a j N : Nat} {f : Nat → Int32} (d : decode (am_b M) pc = .ok (.iastore, 1)) (hc : h[a]? = some (some (.inr (.inl (.int, true, N, f))))) (hj : j < N) (ex : i = nI j) (k : am_RW M h0 P kc ks (pc + 1) L S (h.set a (some (.inr (.inl (.int, true, N, upd f j x)))))) : am_RW M h0 P kc ks pc L (.int x :: .int i :: .ref a :: S) h := by
  intro p l e R s m args below meth c D ad0 Q C F ad H locs ls T Ll
  obtain ⟨cell, c1, c2, c3, c4, c5, c6⟩ := T.1.1 a _ hc
  obtain ⟨i1, i2⟩ := ar_inx hj c5 ex
  refine W.iast C.1 C.2.1 c1 c2 c3 (by rw [c4]; exact i1) rfl rfl d fun H1 e1 z oq => ?_
  rw [i2] at e1
  exact k p l e R s m args below meth c D ad0 Q C F ad H1 _ ls (T.set hc rfl (am_cset c2 c3 c4 c5 c6 hj e1) z oq) Ll
theorem ar_cast {x y i : Int32} {a j N : Nat} {f : Nat → Int32} (d : decode (am_b M) pc = .ok (.castore, 1)) (hc : h[a]? = some (some (.inr (.inl (.char, true, N, f))))) (hj : j < N) (ex : i = nI j) (hy : narrow .char (.int x) = .int y) (k : am_RW M h0 P kc ks (pc + 1) L S (h.set a (some (.inr (.inl (.char, true, N, upd f j y)))))) : am_RW M h0 P kc ks pc L (.int x :: .int i :: .ref a :: S) h := by
  intro p l e R s m args below meth c D ad0 Q C F ad H locs ls T Ll
  obtain ⟨cell, c1, c2, c3, c4, c5, c6⟩ := T.1.1 a _ hc
  obtain ⟨i1, i2⟩ := ar_inx hj c5 ex
  refine W.cast C.1 C.2.1 c1 c2 c3 (by rw [c4]; exact i1) rfl rfl d fun H1 e1 z oq => ?_
  rw [i2, hy] at e1
  exact k p l e R s m args below meth c D ad0 Q C F ad H1 _ ls (T.set hc rfl (am_cset c2 c3 c4 c5 c6 hj e1) z oq) Ll
theorem ar_zast {x y i : Int32} {a j N : Nat} {f : Nat → Int32} (d : decode (am_b M) pc = .ok (.bastore, 1)) (hc : h[a]? = some (some (.inr (.inl (.boolean, true, N, f))))) (hj : j < N) (ex : i = nI j) (hy : narrow .boolean (.int x) = .int y) (k : am_RW M h0 P kc ks (pc + 1) L S (h.set a (some (.inr (.inl (.boolean, true, N, upd f j y)))))) : am_RW M h0 P kc ks pc L (.int x :: .int i :: .ref a :: S) h := by
  intro p l e R s m args below meth c D ad0 Q C F ad H locs ls T Ll
  obtain ⟨cell, c1, c2, c3, c4, c5, c6⟩ := T.1.1 a _ hc
  obtain ⟨i1, i2⟩ := ar_inx hj c5 ex
  refine W.zast C.1 C.2.1 c1 c2 c3 (by rw [c4]; exact i1) rfl rfl d fun H1 e1 z oq => ?_
  rw [i2, hy] at e1
  exact k p l e R s m args below meth c D ad0 Q C F ad H1 _ ls (T.set hc rfl (am_cset c2 c3 c4 c5 c6 hj e1) z oq) Ll
def am_rf (o : Option Nat) : Value := match o with
  | none => .null
  | some k => .ref k
theorem am_rf_v (ad : Nat → Nat) (o : Option Nat) : am_v ad (am_rf o) = va_rf (o.map ad) := by cases o <;> rfl
theorem ar_aald {x : Int32} {a j ci : Nat} {gs : List (Option Nat)} {o : Option Nat} (d : decode (am_b M) pc = .ok (.aaload, 1)) (hc : h[a]? = some (some (.inr (.inr (ci, gs))))) (hj : gs[j]? = some o) (ex : x = nI j) (k : am_RW M h0 P kc ks (pc + 1) L (am_rf o :: S) h) : am_RW M h0 P kc ks pc L (.int x :: .ref a :: S) h := by
  intro p l e R s m args below meth c D ad0 Q C F ad H locs ls T Ll
  obtain ⟨cA, q, c0, c1, c2, c3, c4⟩ := T.1.1 a _ hc
  have hl : j < gs.length := (List.getElem?_eq_some_iff.mp hj).1
  obtain ⟨i1, i2⟩ := ar_inx hl c1 ex
  refine W.aald (v := am_v ad (am_rf o)) (ty := .object q.1) C.1 C.2.1 c2 (c3 gs.length _) rfl (fun z => by cases z) (by rw [arrV_size]; exact i1) ?_ rfl rfl d (k p l e R s m args below meth c D ad0 Q C F ad H locs ls T Ll)
  rw [i2, arrV_read _ _ hl, List.getD_eq_getElem?_getD, hj, am_rf_v]
  rfl
theorem ar_aast {i : Int32} {a b j ci : Nat} {gs : List (Option Nat)} {fs : List Value} (d : decode (am_b M) pc = .ok (.aastore, 1)) (hc : h[a]? = some (some (.inr (.inr (ci, gs))))) (hb : h[b]? = some (some (.inl (ci, fs)))) (hj : j < gs.length) (ex : i = nI j) (k : am_RW M h0 P kc ks (pc + 1) L S (h.set a (some (.inr (.inr (ci, gs.set j (some b))))))) : am_RW M h0 P kc ks pc L (.ref b :: .int i :: .ref a :: S) h := by
  intro p l e R s m args below meth c D ad0 Q C F ad H locs ls T Ll
  obtain ⟨cA, q, c0, c1, c2, c3, c4⟩ := T.1.1 a _ hc
  obtain ⟨i1, i2⟩ := ar_inx hj c1 ex
  obtain ⟨r', hr', cellV, g1, g2, g3, -⟩ := T.1.1 b _ hb
  have hK : va_K D am_cl [] s := T.2.2.2.2.2.2.1.1
  have hcls := (hK.1 ci q c0).2
  obtain ⟨kA, comp, k1, k2, k3, -⟩ := id c4
  have hcomp : comp = D.1 ci := Option.some.inj (k3.symm.trans hcls.1)
  subst hcomp
  obtain ⟨kC, hkC, -⟩ := id hcls.2
  refine W.aast C.1 C.2.1 c2 (fun q h => by cases h) (fun h => by cases h) k1 k2 rfl hkC ⟨fun z => i1 (Or.inl z), by rw [arrV_size, i2]; exact hj⟩ g1 (fun q h => by rw [g3] at h; cases h) (by rw [g2]; exact hkC) (by rw [g2]; exact va_assign hcls) rfl rfl d fun H1 e1 z oq => ?_
  have hcell : am_cell D s ad (ad a) H1 (.inr (.inr (ci, gs.set j (some b)))) := by
    refine ⟨cA, q, c0, by rw [List.length_set]; exact c1, ?_, c3, c4⟩
    rw [e1, arrV_store, i2, List.length_set]
    congr 2
    funext n
    rw [List.getD_eq_getElem?_getD]
    by_cases hn : n = j
    · subst hn
      rw [List.getElem?_set_self hj]
      simp [updV, va_rf]
    · rw [List.getElem?_set_ne (Ne.symm hn)]
      simp [updV, hn, List.getD_eq_getElem?_getD]
  exact k p l e R s m args below meth c D ad0 Q C F ad H1 _ ls (T.set hc rfl hcell z oq) Ll
theorem ar_gets0 {idx : Nat} (d : decode (am_b M) pc = .ok (.getstatic idx, 3)) (hw : Cond.fieldLink (am_y M).cls idx "PuppetPitches" "FIRST_SETTINGS" "[I" ∈ am_ws) (k : am_RW M h0 P kc ks (pc + 3) L (.ref 0 :: S) h) : am_RW M h0 P kc ks pc L S h := by
  intro p l e R s m args below meth c D ad0 Q C F ad H locs ls T Ll
  refine va_gets C.1 C.2.1 T.2.2.2.2.2.2.1.2.2.1 T.2.2.2.2.2.1 C.2.2.2.1 (am_ts C hw) (fun _ z => z) d ?_
  rw [← T.2.2.2.2.2.2.2.1]
  exact k p l e R s m args below meth c D ad0 Q C F ad H locs ls T Ll
theorem ar_gets1 {idx : Nat} (d : decode (am_b M) pc = .ok (.getstatic idx, 3)) (hw : Cond.fieldLink (am_y M).cls idx "PuppetPitches" "GREATEST_SETTINGS" "[I" ∈ am_ws) (k : am_RW M h0 P kc ks (pc + 3) L (.ref 1 :: S) h) : am_RW M h0 P kc ks pc L S h := by
  intro p l e R s m args below meth c D ad0 Q C F ad H locs ls T Ll
  refine va_gets C.1 C.2.1 T.2.2.2.2.2.2.1.2.2.2 T.2.2.2.2.2.1 C.2.2.2.1 (am_ts C hw) (fun _ z => z) d ?_
  rw [← T.2.2.2.2.2.2.2.2]
  exact k p l e R s m args below meth c D ad0 Q C F ad H locs ls T Ll
theorem ar_gets0N {idx : Nat} {host : String} (d : decode (am_b M) pc = .ok (.getstatic idx, 3)) (hw : Cond.fieldLinkNest (am_y M).cls idx "PuppetPitches" "FIRST_SETTINGS" "[I" host ∈ am_nw) (k : am_RW M h0 P kc ks (pc + 3) L (.ref 0 :: S) h) : am_RW M h0 P kc ks pc L S h := by
  intro p l e R s m args below meth c D ad0 Q C F ad H locs ls T Ll
  refine va_getsN C.1 C.2.1 T.2.2.2.2.2.2.1.2.2.1 T.2.2.2.2.2.1 C.2.2.2.1 (va_Nw.use rfl (T.2.2.2.2.2.2.1.2.1 _ hw)) (fun _ z => z) d ?_
  rw [← T.2.2.2.2.2.2.2.1]
  exact k p l e R s m args below meth c D ad0 Q C F ad H locs ls T Ll
theorem ar_obj {idx a : Nat} (d : decode (am_b M) pc = .ok (.invokespecial idx, 3)) (hw : Cond.methodLink (am_y M).cls idx objectInit ∈ am_ws) (hl : 1 ≤ am_lv M) (hS : (S.map fun v => v.category).sum ≤ 8) (k : am_RW M h0 P kc ks (pc + 3) L S h) : am_RW M h0 P kc ks pc L (.ref a :: S) h := by
  intro p l e R s m args below meth c D ad0 Q C F ad H locs ls T Ll
  have hi : Cond.instanceMethod objectInit ∈ am_ws := by decide +kernel
  have hc : Cond.code objectInit ⟨#[0xb1]⟩ 1 none ∈ am_ws := by decide +kernel
  have hS2 : ((S.map (am_v ad)).map fun v => v.category).sum ≤ 8 := by
    rw [List.map_map, show ((fun v : Value => v.category) ∘ am_v ad) = (fun v : Value => v.category) from funext fun v => am_vc ad v]
    exact hS
  refine W.objInit C.1 C.2.1 C.2.2.2.1 (am_ts C hw) (am_ts C hi) (am_ts C hc) rfl (by rw [C.2.2.1]; exact Ll.1) rfl d (Nat.le_trans hl C.2.2.2.2.2.2.1) ?_ ?_
  · have h1 := C.2.2.2.2.2.2.2.1
    show 2 * 0 + _ + 12 ≤ R.locals
    omega
  · exact k p l e R s m args below meth c D ad0 Q C F ad H locs ls T Ll
end
