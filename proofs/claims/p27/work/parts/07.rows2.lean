/-! calls as rows; a contract out of a body -/
def am_cal (M : am_M) (n : Nat) : Prop := Cond.code (am_y M) (am_b M) (am_n M) (am_r M) ∈ am_ws ∧ Cond.initialized (am_y M).cls ∈ am_ws ∧ ((am_y M).cls ≠ "java/lang/invoke/MethodHandle" ∧ (am_y M).cls ≠ "java/lang/invoke/VarHandle" ∧ (parseMethodDescriptor (am_y M).desc).map (fun d => d.parameters.length) = some n) ∧ am_n M ≤ 22
theorem am_gi {M M' : am_M} {n : Nat} (h : am_cal M' n) : GoodIn (am_W M) (am_W M') := by
  intro w hw
  rcases List.mem_cons.mp hw with rfl | hw
  · exact ⟨List.mem_cons_of_mem _ h.1, good_of_word (am_wsg h.1)⟩
  · exact ⟨List.mem_cons_of_mem _ hw, good_of_word (am_wsg hw)⟩
theorem am_pre {μ ad0 ad : Nat → Nat} {hl h0 h : am_H} {D : va_G} {s : State} {H : Heap} {locs : List Loc} (hm : μ 0 = 0 ∧ μ 1 = 1) (hsub : ∀ (j : Nat) (c : am_C), hl[j]? = some (some c) → h[μ j]? = some (some (am_rc μ c))) (hinj : ∀ (i j : Nat) (c d : am_C), hl[i]? = some (some c) → hl[j]? = some (some d) → μ i = μ j → i = j) (T : am_St h0 D s ad0 ad h H locs) (as : List Value) :
    ∀ U : State, U.heap = H → s.WarmedH U.vm → am_Pc D (fun k => ad (μ k)) H.size hl as ((as.map (am_v fun k => ad (μ k))).toArray) U := by
  intro U hU hW
  obtain ⟨t1, t2, t3, t4, t5, t6, ⟨t7, t7n, t70, t71⟩, t8, t9⟩ := T
  have fpA : ∀ q, am_FP (fun k => ad (μ k)) hl H.size q → am_FP ad0 h0 s.heap.size q := by
    rintro q (⟨j, c, g1, g2, g3⟩ | hq)
    · rw [g3]
      exact t5 (μ j) _ (hsub j c g1) (by rw [am_wr_rc]; exact g2)
    · exact Or.inr (Nat.le_trans t6.1 hq)
  refine ⟨rfl, by rw [hU], ⟨fun k c hk => ?_, fun i j c d hi hj he => ?_⟩, ⟨va_K.moved hW.alike t7, fun w hw => am_nwarm (List.mem_filter.mp hw).2 hW (t7n w hw), ?_, ?_⟩⟩
  · rw [hU]
    exact (am_cell.ren.mp (t1.1 (μ k) _ (hsub k c hk))).moved hW.alike
  · exact hinj i j c d hi hj (t1.2 (μ i) (μ j) _ _ (hsub i c hi) (hsub j d hj) he)
  · show va_Z _ _ _ (.ref (ad (μ 0))) _ _ _
    rw [hm.1, t8, hU]
    exact ((t70.kept fun q q1 q2 => t6.2.1 q q1 q2).narrow fpA).moved hW.alike
  · show va_Z _ _ _ (.ref (ad (μ 1))) _ _ _
    rw [hm.2, t9, hU]
    exact ((t71.kept fun q q1 q2 => t6.2.1 q q1 q2).narrow fpA).moved hW.alike
theorem am_nsame {w : Cond} (hn : am_nest w = true) {u U : State} (hvm : u.vm = U.vm) (h : va_Nw w u) : va_Nw w U := by
  cases w <;> first | (cases hn; done) | exact va_Nw.same rfl hvm h | skip
  case arrayOver t =>
    cases t <;> first | (cases hn; done) | exact va_AO.moved (by rw [hvm]; exact Vm.Alike.refl _) h
theorem am_len (ad : Nat → Nat) : ∀ as : List Value, (lg_sl (as.map (am_v ad))).length = (am_ent0 as).length
  | [] => rfl
  | v :: t => by
    have ih := am_len ad t
    have e : lg_sl ((v :: t).map (am_v ad)) = (if (am_v ad v).category = 2 then [Slot.val (am_v ad v), .second] else [Slot.val (am_v ad v)]) ++ lg_sl (t.map (am_v ad)) := rfl
    rw [e, List.length_append, ih, am_vc]
    simp only [am_ent0]
    by_cases hc : v.category = 2
    · rw [if_pos hc, if_pos hc]; simp only [List.length_cons, List.length_nil]; omega
    · rw [if_neg hc, if_neg hc]; simp only [List.length_cons, List.length_nil]; omega
theorem am_blind {D : va_G} {ad : Nat → Nat} {sz : Nat} {h : am_H} {as : List Value} : FrameBlind (am_Pc D ad sz h as) := by
  intro a U g mk q
  obtain ⟨q1, q2, q3, q4, q5, q6, q7⟩ := q
  have hA : U.vm.Alike (U.calling g mk a).vm := Vm.Alike.refl U.vm
  exact ⟨q1, q2, ⟨fun k c hk => (q3.1 k c hk).moved hA, q3.2⟩, va_K.moved hA q4, fun w hw => am_nsame (List.mem_filter.mp hw).2 (u := U) rfl (q5 w hw), q6.moved hA, q7.moved hA⟩
/-- a call of M' from M at pc, the stack st, of which S stays: it runs -/
def am_Run (M M' : am_M) (pc : Nat) (as : List Value) (hl : am_H) (Pq : Option Value → am_H → Prop) (μ : Nat → Nat) (st S : List Value) (h : am_H) : Prop :=
  ∀ (p : Program) (l : Launch) (e : Env) (R : Room) (s : State) (m : MethodId) (args : Array Value) (below : List Frame) (meth : Method) (c : Code) (D : va_G) (ad0 ad : Nat → Nat) (h0 : am_H) (H : Heap) (locs : List Loc) (ls : Array Slot) (kc ks : Nat), am_Cx M p R s m args meth c → am_St h0 D s ad0 ad h H locs → ls.size = am_n M → kc + am_nc M' ≤ am_nc M → ks + am_ns M' ≤ am_ns M →
  va_Run p l e R s m args below meth c H locs kc ks (am_nc M') (am_ns M') (F0 m pc ls (st.map (am_v ad))) (S.map (am_v ad)) (am_Qc D (fun k => ad (μ k)) hl Pq ((as.map (am_v fun k => ad (μ k))).toArray)) (am_FP (fun k => ad (μ k)) hl H.size)
theorem am_cat {ad : Nat → Nat} {S : List Value} (h : (S.map fun v => v.category).sum ≤ 8) : ((S.map (am_v ad)).map fun v => v.category).sum ≤ 8 := by
  rw [List.map_map, show ((fun v : Value => v.category) ∘ am_v ad) = (fun v : Value => v.category) from funext fun v => am_vc ad v]
  exact h
theorem am_stk {ad μ : Nat → Nat} (as S : List Value) : (((as.map (am_v μ)).reverse ++ S).map (am_v ad)) = ((as.map (am_v fun k => ad (μ k))).reverse ++ S.map (am_v ad)) := by
  rw [List.map_append, List.map_reverse, List.map_map, show (am_v ad ∘ am_v μ) = am_v (fun k => ad (μ k)) from funext fun v => am_vv ad μ v]
section
variable {M M' : am_M} {pc idx n : Nat} {as : List Value} {hl h : am_H} {Pq : Option Value → am_H → Prop} {μ : Nat → Nat} {S : List Value}
theorem am_room {R : Room} (h1 : am_lv M' + 1 ≤ am_lv M) (h2 : am_n M' ≤ 22) (h3 : am_lv M ≤ R.frames ∧ 41 * am_lv M ≤ R.locals ∧ am_nc M ≤ R.cells ∧ am_ns M ≤ R.slots) : (am_R M').frames + 1 ≤ R.frames ∧ 8 + (am_n M' + 11) + (am_R M').locals ≤ R.locals := by
  refine ⟨Nat.le_trans h1 h3.1, ?_⟩
  have := h3.2.1
  show 8 + (am_n M' + 11) + 41 * am_lv M' ≤ R.locals
  omega
theorem am_runV {b ci : Nat} {fsb : List Value} (d : decode (am_b M) pc = .ok (.invokevirtual idx, 3)) (hcal : am_cal M' n) (hlk : Cond.methodLink (am_y M).cls idx (am_y M') ∈ am_ws) (hin : Cond.instanceMethod (am_y M') ∈ am_ws) (hse : Cond.selects (am_y M').cls (am_y M') (am_y M') ∈ am_ws) (hlv : am_lv M' + 1 ≤ am_lv M) (sp : am_Sp M' (.ref b :: as) hl Pq)
    (hn : as.length = n) (hcat : (S.map fun v => v.category).sum ≤ 8) (hrc : (am_cl[ci]?).map (fun q => q.1) = some (am_y M').cls) (hb : hl[b]? = some (some (.inl (ci, fsb)))) (hm : μ 0 = 0 ∧ μ 1 = 1) (hsub : ∀ (j : Nat) (c : am_C), hl[j]? = some (some c) → h[μ j]? = some (some (am_rc μ c))) (hinj : ∀ (i j : Nat) (c d : am_C), hl[i]? = some (some c) → hl[j]? = some (some d) → μ i = μ j → i = j) :
    am_Run M M' pc (.ref b :: as) hl Pq μ (((as.map (am_v μ)).reverse ++ .ref (μ b) :: S)) S h := by
  intro p l e R s m args below meth c D ad0 ad h0 H locs ls kc ks C T hls hc hs
  have hts := C.2.2.2.2.1
  rw [am_stk]
  have hcell : am_cell D s ad (ad (μ b)) H (am_rc μ (.inl (ci, fsb))) := T.1.1 (μ b) _ (hsub b _ hb)
  obtain ⟨q', z1, cell, g1, g2, g3, -⟩ := hcell
  have hcls : s.vm.findClass (am_y M').cls = some cell.cls := by
    have hk := (T.2.2.2.2.2.2.1.1.1 ci q' z1).2.1
    rw [show am_cl[ci]? = some q' from z1] at hrc
    have : q'.1 = (am_y M').cls := Option.some.inj hrc
    rw [← this, g2]; exact hk
  have cb : CallB R s args (am_y M).cls idx (am_y M') (am_b M') (am_n M') (am_r M') (am_W M') (am_R M') (am_nc M') (am_ns M') n :=
    callB_of n hts (am_gi hcal) rfl rfl rfl (am_ts C hcal.2.1) (am_ts C hlk) hcal.2.2.1 (am_room hlv hcal.2.2.2 C.2.2.2.2.2.2)
  refine va_runV (As := as.map (am_v fun k => ad (μ k))) ⟨C.1, C.2.1, C.2.2.1, C.2.2.2.1, hts⟩ (sp l D (fun k => ad (μ k)) H.size) ⟨cb, am_ts C hin, am_ts C hse⟩ ⟨am_blind, ⟨cell, g1, by rw [g3]; rfl, hcls⟩, am_pre hm hsub hinj T (.ref b :: as)⟩ rfl (by rw [List.length_map]; exact hn) hls rfl ?_ d ⟨Nat.le_trans hc C.2.2.2.2.2.2.2.2.1, Nat.le_trans hs C.2.2.2.2.2.2.2.2.2⟩
  exact lv_room (am_cat hcat)
theorem am_runS (d : decode (am_b M) pc = .ok (.invokestatic idx, 3)) (hcal : am_cal M' n) (hlk : Cond.methodLink (am_y M).cls idx (am_y M') ∈ am_ws) (hst : Cond.static (am_y M') ∈ am_ws) (hlv : am_lv M' + 1 ≤ am_lv M) (sp : am_Sp M' as hl Pq)
    (hn : as.length = n) (hcat : (S.map fun v => v.category).sum ≤ 8) (hm : μ 0 = 0 ∧ μ 1 = 1) (hsub : ∀ (j : Nat) (c : am_C), hl[j]? = some (some c) → h[μ j]? = some (some (am_rc μ c))) (hinj : ∀ (i j : Nat) (c d : am_C), hl[i]? = some (some c) → hl[j]? = some (some d) → μ i = μ j → i = j) :
    am_Run M M' pc as hl Pq μ ((as.map (am_v μ)).reverse ++ S) S h := by
  intro p l e R s m args below meth c D ad0 ad h0 H locs ls kc ks C T hls hc hs
  have hts := C.2.2.2.2.1
  rw [am_stk]
  have cb : CallB R s args (am_y M).cls idx (am_y M') (am_b M') (am_n M') (am_r M') (am_W M') (am_R M') (am_nc M') (am_ns M') n :=
    callB_of n hts (am_gi hcal) rfl rfl rfl (am_ts C hcal.2.1) (am_ts C hlk) hcal.2.2.1 (am_room hlv hcal.2.2.2 C.2.2.2.2.2.2)
  refine va_runS (As := as.map (am_v fun k => ad (μ k))) ⟨C.1, C.2.1, C.2.2.1, C.2.2.2.1, hts⟩ (sp l D (fun k => ad (μ k)) H.size) ⟨cb, am_ts C hst⟩ ⟨am_blind, am_pre hm hsub hinj T as⟩ rfl (by rw [List.length_map]; exact hn) hls rfl ?_ d ⟨Nat.le_trans hc C.2.2.2.2.2.2.2.2.1, Nat.le_trans hs C.2.2.2.2.2.2.2.2.2⟩
  exact lv_room (am_cat hcat)
theorem am_runSN {host : String} (d : decode (am_b M) pc = .ok (.invokestatic idx, 3)) (hcal : am_cal M' n) (hlk : Cond.methodLinkNest (am_y M).cls idx (am_y M') host ∈ am_nw) (hst : Cond.static (am_y M') ∈ am_ws) (hlv : am_lv M' + 1 ≤ am_lv M) (sp : am_Sp M' as hl Pq)
    (hn : as.length = n) (hcat : (S.map fun v => v.category).sum ≤ 8) (hm : μ 0 = 0 ∧ μ 1 = 1) (hsub : ∀ (j : Nat) (c : am_C), hl[j]? = some (some c) → h[μ j]? = some (some (am_rc μ c))) (hinj : ∀ (i j : Nat) (c d : am_C), hl[i]? = some (some c) → hl[j]? = some (some d) → μ i = μ j → i = j) :
    am_Run M M' pc as hl Pq μ ((as.map (am_v μ)).reverse ++ S) S h := by
  intro p l e R s m args below meth c D ad0 ad h0 H locs ls kc ks C T hls hc hs
  have hts := C.2.2.2.2.1
  rw [am_stk]
  have cb : va_CN R s args (am_y M).cls idx (am_y M') host (am_b M') (am_n M') (am_r M') (am_W M') (am_R M') (am_nc M') (am_ns M') n :=
    va_cnB n hts (am_gi hcal) rfl rfl rfl (T.2.2.2.2.2.2.1.2.1 _ hlk) (am_ts C hcal.2.1) hcal.2.2.1 (am_room hlv hcal.2.2.2 C.2.2.2.2.2.2)
  refine va_runSN (As := as.map (am_v fun k => ad (μ k))) ⟨C.1, C.2.1, C.2.2.1, C.2.2.2.1, hts⟩ (sp l D (fun k => ad (μ k)) H.size) ⟨cb, am_ts C hst, trivial⟩ ⟨am_blind, am_pre hm hsub hinj T as⟩ rfl (by rw [List.length_map]; exact hn) hls rfl ?_ d ⟨Nat.le_trans hc C.2.2.2.2.2.2.2.2.1, Nat.le_trans hs C.2.2.2.2.2.2.2.2.2⟩
  exact lv_room (am_cat hcat)
theorem am_runI {b : Nat} (d : decode (am_b M) pc = .ok (.invokespecial idx, 3)) (hcal : am_cal M' n) (hret : am_r M' = none) (hnm : (am_y M').name = "<init>") (hlk : Cond.methodLink (am_y M).cls idx (am_y M') ∈ am_ws) (hin : Cond.instanceMethod (am_y M') ∈ am_ws) (hlv : am_lv M' + 1 ≤ am_lv M) (sp : am_Sp M' (.ref b :: as) hl Pq)
    (hn : as.length = n) (hcat : (S.map fun v => v.category).sum ≤ 8) (hm : μ 0 = 0 ∧ μ 1 = 1) (hsub : ∀ (j : Nat) (c : am_C), hl[j]? = some (some c) → h[μ j]? = some (some (am_rc μ c))) (hinj : ∀ (i j : Nat) (c d : am_C), hl[i]? = some (some c) → hl[j]? = some (some d) → μ i = μ j → i = j) :
    am_Run M M' pc (.ref b :: as) hl Pq μ (((as.map (am_v μ)).reverse ++ .ref (μ b) :: S)) S h := by
  intro p l e R s m args below meth c D ad0 ad h0 H locs ls kc ks C T hls hc hs
  have hts := C.2.2.2.2.1
  rw [am_stk]
  have cb : CallB R s args (am_y M).cls idx (am_y M') (am_b M') (am_n M') (am_r M') (am_W M') (am_R M') (am_nc M') (am_ns M') n :=
    callB_of n hts (am_gi hcal) rfl rfl rfl (am_ts C hcal.2.1) (am_ts C hlk) hcal.2.2.1 (am_room hlv hcal.2.2.2 C.2.2.2.2.2.2)
  rw [hret] at cb
  refine va_runI (As := as.map (am_v fun k => ad (μ k))) ⟨C.1, C.2.1, C.2.2.1, C.2.2.2.1, hts⟩ (sp l D (fun k => ad (μ k)) H.size) ⟨cb, hnm, am_ts C hin⟩ ⟨am_blind, am_pre hm hsub hinj T (.ref b :: as)⟩ rfl (by rw [List.length_map]; exact hn) hls rfl ?_ d ⟨Nat.le_trans hc C.2.2.2.2.2.2.2.2.1, Nat.le_trans hs C.2.2.2.2.2.2.2.2.2⟩
  exact lv_room (am_cat hcat)
theorem am_runIN {b : Nat} {host : String} (d : decode (am_b M) pc = .ok (.invokespecial idx, 3)) (hcal : am_cal M' n) (hret : am_r M' = none) (hnm : (am_y M').name = "<init>") (hlk : Cond.methodLinkNest (am_y M).cls idx (am_y M') host ∈ am_nw) (hin : Cond.instanceMethod (am_y M') ∈ am_ws) (hlv : am_lv M' + 1 ≤ am_lv M) (sp : am_Sp M' (.ref b :: as) hl Pq)
    (hn : as.length = n) (hcat : (S.map fun v => v.category).sum ≤ 8) (hm : μ 0 = 0 ∧ μ 1 = 1) (hsub : ∀ (j : Nat) (c : am_C), hl[j]? = some (some c) → h[μ j]? = some (some (am_rc μ c))) (hinj : ∀ (i j : Nat) (c d : am_C), hl[i]? = some (some c) → hl[j]? = some (some d) → μ i = μ j → i = j) :
    am_Run M M' pc (.ref b :: as) hl Pq μ (((as.map (am_v μ)).reverse ++ .ref (μ b) :: S)) S h := by
  intro p l e R s m args below meth c D ad0 ad h0 H locs ls kc ks C T hls hc hs
  have hts := C.2.2.2.2.1
  rw [am_stk]
  have cb : va_CN R s args (am_y M).cls idx (am_y M') host (am_b M') (am_n M') (am_r M') (am_W M') (am_R M') (am_nc M') (am_ns M') n :=
    va_cnB n hts (am_gi hcal) rfl rfl rfl (T.2.2.2.2.2.2.1.2.1 _ hlk) (am_ts C hcal.2.1) hcal.2.2.1 (am_room hlv hcal.2.2.2 C.2.2.2.2.2.2)
  rw [hret] at cb
  refine va_runIN (As := as.map (am_v fun k => ad (μ k))) ⟨C.1, C.2.1, C.2.2.1, C.2.2.2.1, hts⟩ (sp l D (fun k => ad (μ k)) H.size) ⟨cb, hnm, am_ts C hin⟩ ⟨am_blind, am_pre hm hsub hinj T (.ref b :: as)⟩ rfl (by rw [List.length_map]; exact hn) hls rfl ?_ d ⟨Nat.le_trans hc C.2.2.2.2.2.2.2.2.1, Nat.le_trans hs C.2.2.2.2.2.2.2.2.2⟩
  exact lv_room (am_cat hcat)
end
theorem ar_call {M M' : am_M} {h0 : am_H} {P : Option Value → am_H → Prop} {kc ks pc : Nat} {L : List (Option Value)} {st S : List Value} {h hl : am_H} {as : List Value} {Pq : Option Value → am_H → Prop} {μ : Nat → Nat} (hr : am_Run M M' pc as hl Pq μ st S h) (hc : kc + am_nc M' ≤ am_nc M) (hs : ks + am_ns M' ≤ am_ns M) (hsub : ∀ (j : Nat) (c : am_C), hl[j]? = some (some c) → h[μ j]? = some (some (am_rc μ c)))
    (k : ∀ r h1, Pq r h1 → am_back μ hl r h1 L S h ∧ am_RW M h0 P (kc + am_nc M') (ks + am_ns M') (pc + 3) L ((r.map (am_v μ)).toList ++ S) (am_mrg μ 0 h1 h)) : am_RW M h0 P kc ks pc L st h := by
  intro p l e R s m args below meth c D ad0 Q C F ad H locs ls T Ll
  exact am_callC (hr p l e R s m args below meth c D ad0 ad h0 H locs ls kc ks C T Ll.1 hc hs) T Ll hsub (fun r h1 hp => (k r h1 hp).1) fun r h1 hp ad1 H1 locs1 T1 L1 => (k r h1 hp).2 p l e R s m args below meth c D ad0 Q C F ad1 H1 locs1 ls T1 L1
/-- a contract out of the body's judgement -/
theorem am_intro {M : am_M} {as : List Value} {h : am_H} {P : Option Value → am_H → Prop} (hy : plainName (am_y M).cls = true) (hn : (am_ent0 as).length ≤ am_n M) (k : am_RW M h P 0 0 0 (am_ent as (am_n M)) [] h) : am_Sp M as h P := by
  intro l D ad sz
  refine Met.ofW (cc := am_b M) (maxL := am_n M) (ret := am_r M) hy rfl ?_
  intro p e s m args below meth c s₁ B hml hv
  obtain ⟨rfl, hsz, hH, hE⟩ := hv
  subst hsz
  have hx := B.exec
  have hb := B.bytes
  have hr := B.returns
  have hlocks := B.notSynchronized
  have hts := atoms_spec (ws := am_W M) B.pre
  have hown : s.vm.findClass (am_y M).cls = some m.cls := findClass_of_methodNamed B.named
  have hin : meth.name = (am_y M).name := (name_of_methodNamed B.named B.method).1
  have hlen := am_len ad as
  have hl0 := lv_entry (as.map (am_v ad)) (n := am_n M) (by rw [hlen]; exact hn)
  rw [lg_entry_eq]
  have T : am_St h D s ad ad h s.heap [] := ⟨hH, fun k c hk => ⟨c, hk⟩, fun _ _ => rfl, fun k hk => absurd hk.1 hk.2, fun k c hk hw => Or.inl ⟨k, c, hk, hw, rfl⟩, va_S.rf, hE, rfl, rfl⟩
  have Ll : am_L (am_n M) ad _ (am_ent as (am_n M)) := am_L.of hl0 fun i v hi => am_ent_in hi
  refine k p l e _ s m _ below meth c D ad _ ⟨hx, hb, hml, hown, hts, hin, Nat.le_refl _, Nat.le_refl _, Nat.le_refl _, Nat.le_refl _⟩ ?_ ad s.heap [] _ T Ll
  intro r h1 ad1 H locs kc ks ls pc hkc hks hp T1 hri
  obtain ⟨t1, t2, t3, t4, t5, t6, t7, t8⟩ := T1
  have post : ∀ t : State, t.heap = H → s.WarmedH t.vm → am_Qc D ad h P ((as.map (am_v ad)).toArray) s (.returned (r.map (am_v ad1))) t := by
    intro t ht hW
    refine ⟨⟨r, h1, ad1, hp, rfl, ⟨fun k c hk => ?_, t1.2⟩, t3, t4⟩, t6.F ht⟩
    rw [ht]
    exact (t1.1 k c hk).moved hW.alike
  refine W.widen hkc hks ?_
  match r, hri, post with
  | none, hri, post =>
    exact W.vret hx hb (hr.trans hri.1) post t6.2.2 hri.2
  | some (.int v), hri, post =>
    obtain ⟨⟨ty, h2, h3⟩, h4⟩ := hri
    exact W.zret hx hb (hr.trans h2) h3 post t6.2.2 h4
  | some (.ref v), hri, post =>
    obtain ⟨⟨n, h2⟩, h4⟩ := hri
    exact W.aret hx hb (hr.trans h2) (Or.inl ⟨n, rfl⟩) (Or.inr ⟨_, rfl⟩) post t6.2.2 h4
  | some (.long v), hri, post => exact hri.elim
  | some (.float v), hri, post => exact hri.elim
  | some (.double v), hri, post => exact hri.elim
  | some .null, hri, post => exact hri.elim
  | some (.retAddr v), hri, post => exact hri.elim
