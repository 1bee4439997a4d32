/-! rows that make cells, and calls -/
def am_vr (v : Value) : List Nat := match v with
  | .ref k => [k]
  | _ => []
theorem am_vr_v {ad ad1 : Nat → Nat} {v : Value} (h : ∀ k ∈ am_vr v, ad1 k = ad k) : am_v ad1 v = am_v ad v := by
  cases v with
  | ref k => exact congrArg Value.ref (h k (List.mem_singleton.mpr rfl))
  | _ => rfl
/-- the place k is named nowhere in the frame and in the cells -/
def am_free (k : Nat) (L : List (Option Value)) (S : List Value) (h : am_H) : Bool :=
  (L.all fun o => match o with | none => true | some v => !(am_vr v).contains k) && ((S.all fun v => !(am_vr v).contains k) && (h.all fun o => match o with | none => true | some c => !(am_refs c).contains k))
theorem am_free_spec {k : Nat} {L : List (Option Value)} {S : List Value} {h : am_H} (hf : am_free k L S h = true) : (∀ (i : Nat) (v : Value), L[i]? = some (some v) → k ∉ am_vr v) ∧ (∀ v ∈ S, k ∉ am_vr v) ∧ ∀ (i : Nat) (c : am_C), h[i]? = some (some c) → k ∉ am_refs c := by
  simp only [am_free, Bool.and_eq_true, List.all_eq_true] at hf
  obtain ⟨f1, f2, f3⟩ := hf
  refine ⟨fun i v hi => ?_, fun v hv => ?_, fun i c hi => ?_⟩
  · have := f1 _ (List.mem_of_getElem? hi)
    simpa using this
  · have := f2 v hv
    simpa using this
  · have := f3 _ (List.mem_of_getElem? hi)
    simpa using this
theorem am_map_v {ad ad1 : Nat → Nat} {S : List Value} (h : ∀ v ∈ S, am_v ad1 v = am_v ad v) : S.map (am_v ad1) = S.map (am_v ad) := List.map_congr_left h
theorem am_St.alloc {h0 : am_H} {D : va_G} {s : State} {ad0 ad ad1 : Nat → Nat} {h : am_H} {H H1 : Heap} {locs : List Loc} {k : Nat} {c : am_C} (T : am_St h0 D s ad0 ad h H locs) (hk : h[k]? = some none) (h2 : 2 ≤ k) (hfr : ∀ (i : Nat) (d : am_C), h[i]? = some (some d) → k ∉ am_refs d)
    (e1 : ad1 k = H.size) (e2 : ∀ j, j ≠ k → ad1 j = ad j) (hc : am_cell D s ad1 H.size H1 c) (z : H1.size = H.size + 1) (oq : ∀ q : Nat, q < H.size → H1[q]? = H[q]?) : am_St h0 D s ad0 ad1 (h.set k (some c)) H1 locs := by
  obtain ⟨t1, t2, t3, t4, t5, t6, t7, t8, t9⟩ := T
  have hl := (List.getElem?_eq_some_iff.mp hk).1
  have hself : (h.set k (some c))[k]? = some (some c) := List.getElem?_set_self hl
  have hne : ∀ j, j ≠ k → (h.set k (some c))[j]? = h[j]? := fun j e => List.getElem?_set_ne (Ne.symm e)
  have np : ¬ ∃ d, h[k]? = some (some d) := by rintro ⟨d, hd⟩; rw [hk] at hd; cases hd
  have np0 : ¬ ∃ d, h0[k]? = some (some d) := fun ⟨d, hd⟩ => np (t2 k d hd)
  have hnew : ∀ j, j ≠ k → (am_new h0 (h.set k (some c)) j ↔ am_new h0 h j) := fun j e => by unfold am_new; rw [hne j e]
  refine ⟨⟨fun j d hj => ?_, fun i j d d' hi hj he => ?_⟩, fun j d hj => ?_, fun j hj => ?_, fun j hj => ?_, fun j d hj hw => ?_, ⟨?_, fun q q1 q2 => ?_, t6.2.2⟩, t7, ?_, ?_⟩
  · by_cases e : j = k
    · subst e
      rw [hself] at hj
      cases hj
      rw [e1]; exact hc
    · rw [hne j e] at hj
      rw [e2 j e]
      have hcell := t1.1 j d hj
      refine am_cell.ad (hcell.kept (oq _ hcell.lt)) fun r hr => e2 r fun er => ?_
      subst er
      exact hfr j d hj hr
  · have lt : ∀ (j : Nat) (d : am_C), h[j]? = some (some d) → ad j < H.size := fun j d hj => (t1.1 j d hj).lt
    by_cases ei : i = k
    · by_cases ej : j = k
      · rw [ei, ej]
      · rw [hne j ej] at hj
        rw [ei, e1, e2 j ej] at he
        have := lt j _ hj
        omega
    · rw [hne i ei] at hi
      by_cases ej : j = k
      · rw [ej, e1, e2 i ei] at he
        have := lt i _ hi
        omega
      · rw [hne j ej] at hj
        rw [e2 i ei, e2 j ej] at he
        exact t1.2 i j d d' hi hj he
  · by_cases e : j = k
    · subst e; exact ⟨c, hself⟩
    · rw [hne j e]; exact t2 j d hj
  · by_cases e : j = k
    · subst e; exact absurd ⟨⟨c, hself⟩, np0⟩ hj
    · rw [e2 j e]; exact t3 j fun q => hj ((hnew j e).mpr q)
  · by_cases e : j = k
    · subst e; rw [e1]; exact t6.1
    · rw [e2 j e]; exact t4 j ((hnew j e).mp hj)
  · by_cases e : j = k
    · subst e; rw [e1]; exact Or.inr t6.1
    · rw [hne j e] at hj
      rw [e2 j e]; exact t5 j d hj hw
  · have := t6.1; omega
  · rw [oq q (Nat.lt_of_lt_of_le q1 t6.1)]; exact t6.2.1 q q1 q2
  · rw [e2 0 (by omega)]; exact t8
  · rw [e2 1 (by omega)]; exact t9
def am_upd (ad : Nat → Nat) (k q : Nat) : Nat → Nat := fun j => if j = k then q else ad j
theorem am_upd_s {ad : Nat → Nat} {k q : Nat} : am_upd ad k q k = q := by simp [am_upd]
theorem am_upd_n {ad : Nat → Nat} {k q : Nat} (j : Nat) (h : j ≠ k) : am_upd ad k q j = ad j := by simp [am_upd, h]
/-- the words of a class that is made: its number, its fields' first values -/
def am_nwf (own : String) (idx ci N : Nat) (fs : List Value) : Prop := ∃ (C : String) (T : u_T), am_cl[ci]? = some (C, T, N) ∧ Cond.classLink own idx C ∈ am_ws ∧ Cond.instantiable C N ∈ am_ws ∧ Cond.initialized C ∈ am_ws ∧ (∀ j, j < N → (parseFieldDescriptor (T j).2.2.1).map defaultValue = fs[j]?) ∧ (fs.all fun v => (am_vr v).isEmpty) = true
theorem am_noref {ad : Nat → Nat} {v : Value} (h : (am_vr v).isEmpty = true) : am_v ad v = v := by
  cases v <;> first | rfl | cases h
section
variable {M : am_M} {h0 : am_H} {P : Option Value → am_H → Prop} {kc ks pc : Nat} {L : List (Option Value)} {S : List Value} {h : am_H}
theorem ar_new {idx ci N k : Nat} {fs : List Value} (d : decode (am_b M) pc = .ok (.new idx, 3)) (hw : am_nwf (am_y M).cls idx ci N fs) (hk : h[k]? = some none) (h2 : 2 ≤ k) (hf : am_free k L S h = true) (hc : kc + 1 ≤ am_nc M) (hs : ks + N ≤ am_ns M) (kk : am_RW M h0 P (kc + 1) (ks + N) (pc + 3) L (.ref k :: S) (h.set k (some (.inl (ci, fs))))) : am_RW M h0 P kc ks pc L S h := by
  intro p l e R s m args below meth c D ad0 Q C F ad H locs ls T Ll
  obtain ⟨Cn, Tn, q1, q2, q3, q4, q5, q6⟩ := hw
  obtain ⟨ty0, hty, hnm⟩ := am_cty q1
  have hin : ∀ w ∈ u_ws Cn Tn N, w ∈ am_W M := fun w hw => List.mem_cons_of_mem _ (am_uws q1 w hw)
  have hts := C.2.2.2.2.1
  have hK : va_K D am_cl [] s := T.2.2.2.2.2.2.1.1
  have hKn := hK.1 ci _ q1
  obtain ⟨r1, r2, r3⟩ := am_free_spec hf
  have hR := C.2.2.2.2.2.2
  refine W.newcK C.1 C.2.1 C.2.2.2.1 (am_ts C q2) (am_ts C q3) (am_ts C q4) rfl d (Nat.le_trans hc hR.2.2.1) (Nat.le_trans hs hR.2.2.2) hKn.2.1 rfl fun H1 kC hkC e1 z1 o1 => ?_
  have hcell : am_cell D s (am_upd ad k H.size) H.size H1 (.inl (ci, fs)) := by
    refine ⟨_, q1, (u_born ty0 hts hin hKn hkC e1 hty).to fun j hj => ?_⟩
    have h5 := q5 j hj
    rw [hty j hj] at h5
    have e : fs[j]? = some (defaultValue (ty0 j)) := h5.symm
    show defaultValue (ty0 j) = vp_V (fs.map (am_v (am_upd ad k H.size))) j
    rw [vp_V, List.getD_eq_getElem?_getD, List.getElem?_map, e]
    show _ = am_v _ (defaultValue (ty0 j))
    rw [am_noref (List.all_eq_true.mp q6 _ (List.mem_of_getElem? e))]
  have T' := T.alloc hk h2 r3 am_upd_s (fun j hj => am_upd_n j hj) hcell z1 o1
  have hl' : am_L (am_n M) (am_upd ad k H.size) ls L := Ll.ad fun i v hi => am_vr_v fun r hr => am_upd_n r fun er => by rw [er] at hr; exact r1 i v hi hr
  have := kk p l e R s m args below meth c D ad0 Q C F _ H1 locs ls T' hl'
  have eS : S.map (am_v (am_upd ad k H.size)) = S.map (am_v ad) := am_map_v (fun v hv => am_vr_v fun r hr => am_upd_n r fun er => by rw [er] at hr; exact r2 v hv hr)
  rw [List.map_cons, eS] at this
  rw [show am_v (am_upd ad k H.size) (.ref k) = .ref H.size from congrArg Value.ref am_upd_s] at this
  exact this
theorem ar_newa {atype : ArrayType} {ty : FieldType} {n : Int32} {N k : Nat} (d : decode (am_b M) pc = .ok (.newarray atype, 2)) (hty : newarray.typeOf atype = ty) (hdv : defaultValue ty = .int 0) (hw : Cond.arrayClass ty ∈ am_ws) (en : n = nI N) (hN : N < 2147483648) (hb : N * componentBytes ty ≤ 536870912) (hk : h[k]? = some none) (h2 : 2 ≤ k) (hf : am_free k L S h = true) (hc : kc + 1 ≤ am_nc M) (hs : ks + N ≤ am_ns M) (kk : am_RW M h0 P (kc + 1) (ks + N) (pc + 2) L (.ref k :: S) (h.set k (some (.inr (.inl (ty, true, N, fun _ => 0)))))) : am_RW M h0 P kc ks pc L (.int n :: S) h := by
  intro p l e R s m args below meth c D ad0 Q C F ad H locs ls T Ll
  subst hty
  subst en
  obtain ⟨r1, r2, r3⟩ := am_free_spec hf
  have hR := C.2.2.2.2.2.2
  have hN2 : N < 2 ^ 31 := by omega
  refine W.newaK C.1 C.2.1 (am_ts C hw) rfl d rfl (nI_pos hN2) (nI_clamp hN2) hb (Nat.le_trans hc hR.2.2.1) (Nat.le_trans hs hR.2.2.2) rfl fun H1 cA e1 z1 o1 hA => ?_
  have hcell : am_cell D s (am_upd ad k H.size) H.size H1 (.inr (.inl (newarray.typeOf atype, true, N, fun _ => 0))) := by
    refine ⟨_, e1, hA N _, fun q => (by cases q), arrV_size _ _ _, hN, fun j hj => ?_⟩
    rw [arrV_read _ _ hj, hdv]
  have T' := T.alloc hk h2 r3 am_upd_s (fun j hj => am_upd_n j hj) hcell z1 o1
  have hl' : am_L (am_n M) (am_upd ad k H.size) ls L := Ll.ad fun i v hi => am_vr_v fun r hr => am_upd_n r fun er => by rw [er] at hr; exact r1 i v hi hr
  have := kk p l e R s m args below meth c D ad0 Q C F _ H1 locs ls T' hl'
  have eS : S.map (am_v (am_upd ad k H.size)) = S.map (am_v ad) := am_map_v (fun v hv => am_vr_v fun r hr => am_upd_n r fun er => by rw [er] at hr; exact r2 v hv hr)
  rw [List.map_cons, eS] at this
  rw [show am_v (am_upd ad k H.size) (.ref k) = .ref H.size from congrArg Value.ref am_upd_s] at this
  exact this
theorem ar_anew {idx ci : Nat} {q : vw_C} {n : Int32} {N k : Nat} (d : decode (am_b M) pc = .ok (.anewarray idx, 3)) (hq : am_cl[ci]? = some q) (hw : Cond.classLink (am_y M).cls idx q.1 ∈ am_ws) (ho : Cond.arrayOver (.object q.1) ∈ am_nw) (en : n = nI N) (hN : N < 65536) (hk : h[k]? = some none) (h2 : 2 ≤ k) (hf : am_free k L S h = true) (hc : kc + 1 ≤ am_nc M) (hs : ks + N ≤ am_ns M) (kk : am_RW M h0 P (kc + 1) (ks + N) (pc + 3) L (.ref k :: S) (h.set k (some (.inr (.inr (ci, List.replicate N none)))))) : am_RW M h0 P kc ks pc L (.int n :: S) h := by
  intro p l e R s m args below meth c D ad0 Q C F ad H locs ls T Ll
  subst en
  obtain ⟨r1, r2, r3⟩ := am_free_spec hf
  have hR := C.2.2.2.2.2.2
  have hN2 : N < 2 ^ 31 := by omega
  have hcl : (nI N).toNatClampNeg = N := nI_clamp hN2
  refine W.anew C.1 C.2.1 C.2.2.2.1 (am_ts C hw) (va_AO.use (T.2.2.2.2.2.2.1.2.1 _ ho)) rfl d rfl (nI_pos hN2) (by rw [hcl]; omega) (Nat.le_trans hc hR.2.2.1) (by rw [hcl]; exact Nat.le_trans hs hR.2.2.2) fun cA kA comp f1 f2 f3 f4 => ?_
  rw [hcl]
  generalize hH1 : H.push ({ cls := cA, slots := Array.replicate N .null, vm := .none } : Cell) = H1
  have z1 : H1.size = H.size + 1 := by rw [← hH1, Array.size_push]
  have e1 : H1[H.size]? = some (arrV cA N (fun _ => .null)) := by rw [← hH1, Array.getElem?_push_size, ← arrV_new]
  have o1 : ∀ q : Nat, q < H.size → H1[q]? = H[q]? := fun q hq => by rw [← hH1, Array.getElem?_push, if_neg (Nat.ne_of_lt hq)]
  have hcell : am_cell D s (am_upd ad k H.size) H.size H1 (.inr (.inr (ci, List.replicate N none))) := by
    refine ⟨cA, q, hq, by rw [List.length_replicate]; omega, ?_, fun N z => ⟨(fun k h => by cases h), kA, f2, comp, f3⟩, ⟨kA, comp, f2, f3, f4, f1⟩⟩
    rw [e1, List.length_replicate]
    congr 2
    funext j
    rw [List.getD_eq_getElem?_getD, List.getElem?_replicate]
    by_cases hj : j < N
    · rw [if_pos hj]; rfl
    · rw [if_neg hj]; rfl
  have T' := T.alloc hk h2 r3 am_upd_s (fun j hj => am_upd_n j hj) hcell z1 o1
  have hl' : am_L (am_n M) (am_upd ad k H.size) ls L := Ll.ad fun i v hi => am_vr_v fun r hr => am_upd_n r fun er => by rw [er] at hr; exact r1 i v hi hr
  have := kk p l e R s m args below meth c D ad0 Q C F _ H1 locs ls T' hl'
  have eS : S.map (am_v (am_upd ad k H.size)) = S.map (am_v ad) := am_map_v (fun v hv => am_vr_v fun r hr => am_upd_n r fun er => by rw [er] at hr; exact r2 v hv hr)
  rw [List.map_cons, eS] at this
  rw [show am_v (am_upd ad k H.size) (.ref k) = .ref H.size from congrArg Value.ref am_upd_s] at this
  exact this
end
