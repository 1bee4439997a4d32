/-! rows as they are used: returns; calls in the same cells; calls in renamed cells, without and with new cells -/
def am_pat (h : am_H) : List (Option Bool) := h.map (fun o => o.map am_wr)
theorem am_pat_at {h : am_H} {k : Nat} : (am_pat h)[k]? = (h[k]?).map (fun o => o.map am_wr) := by
  simp [am_pat, List.getElem?_map]
theorem am_pat_some {h : am_H} {k : Nat} {c : am_C} (hk : h[k]? = some (some c)) : (am_pat h)[k]? = some (some (am_wr c)) := by rw [am_pat_at, hk]; rfl
theorem am_pat_inv {h : am_H} {k : Nat} {w : Bool} (hk : (am_pat h)[k]? = some (some w)) : ∃ c, h[k]? = some (some c) ∧ am_wr c = w := by
  rw [am_pat_at] at hk
  cases hx : h[k]? with
  | none => rw [hx] at hk; cases hk
  | some o =>
    rw [hx] at hk
    cases o with
    | none => cases hk
    | some c => exact ⟨c, rfl, by simpa using hk⟩
theorem am_rcid (c : am_C) : am_rc (fun k => k) c = c := by
  match c with
  | .inl o =>
    show Sum.inl (o.1, o.2.map (am_v fun k => k)) = Sum.inl o
    rw [show (am_v fun k => k) = (fun v => v) from funext am_vid, List.map_id']
  | .inr (.inl x) => rfl
  | .inr (.inr x) =>
    show Sum.inr (Sum.inr (x.1, x.2.map (fun o => o.map (fun k => k)))) = Sum.inr (Sum.inr x)
    rw [show (fun o : Option Nat => o.map (fun k => k)) = (fun o => o) from funext fun o => by cases o <;> rfl, List.map_id']
theorem am_mrg_id {h1 h : am_H} (hp : am_pat h1 = am_pat h) : am_mrg (fun k => k) 0 h1 h = h1 := by
  refine List.ext_getElem? fun k => ?_
  have e := am_pat_at (h := h1) (k := k)
  rw [hp, am_pat_at] at e
  cases h1k : h1[k]? with
  | none =>
    rw [am_mrg_out (fun k => k) k h1 0 h (fun i c hi he => by rw [Nat.zero_add] at he; subst he; rw [hi] at h1k; cases h1k)]
    rw [h1k] at e
    cases hk : h[k]? with
    | none => rfl
    | some o => rw [hk] at e; cases e
  | some o =>
    cases o with
    | none =>
      rw [am_mrg_out (fun k => k) k h1 0 h (fun i c hi he => by rw [Nat.zero_add] at he; subst he; rw [hi] at h1k; cases h1k)]
      rw [h1k] at e
      cases hk : h[k]? with
      | none => rw [hk] at e; cases e
      | some o => rw [hk] at e; cases o with
        | none => rfl
        | some c => cases e
    | some c =>
      rw [h1k] at e
      have hl : k < h.length := by
        cases hk : h[k]? with
        | none => rw [hk] at e; cases e
        | some o => exact (List.getElem?_eq_some_iff.mp hk).1
      have := am_mrg_in (fun k => k) k c h1 0 h h1k (fun i c' ne _ he => ne (by simpa using he)) (by rw [Nat.zero_add]; exact hl)
      rw [Nat.zero_add] at this
      rw [this, am_rcid]
def am_mu (l : List Nat) (k : Nat) : Nat := l.getD k 0
def am_okmu (l : List Nat) (p : List (Option Bool)) : Bool := am_mu l 0 == 0 && (am_mu l 1 == 1 && (List.range p.length).all fun i => (List.range i).all fun j => match p.getD i none, p.getD j none with | some _, some _ => am_mu l i != am_mu l j | _, _ => true)
theorem am_getD {α : Type} {l : List (Option α)} {i : Nat} {w : α} (h : l[i]? = some (some w)) : l.getD i none = some w := by rw [List.getD_eq_getElem?_getD, h]; rfl
theorem am_okmu_inj {l : List Nat} {p : List (Option Bool)} (h : am_okmu l p = true) : (am_mu l 0 = 0 ∧ am_mu l 1 = 1) ∧ ∀ (i j : Nat) (v w : Bool), p[i]? = some (some v) → p[j]? = some (some w) → am_mu l i = am_mu l j → i = j := by
  simp only [am_okmu, Bool.and_eq_true, beq_iff_eq, List.all_eq_true, List.mem_range] at h
  obtain ⟨h0, h1, h2⟩ := h
  have half : ∀ (i j : Nat) (v w : Bool), j < i → p[i]? = some (some v) → p[j]? = some (some w) → am_mu l i ≠ am_mu l j := by
    intro i j v w hji hi hj
    have := h2 i (List.getElem?_eq_some_iff.mp hi).1 j hji
    rw [am_getD hi, am_getD hj] at this
    simpa using this
  refine ⟨⟨h0, h1⟩, fun i j v w hi hj he => ?_⟩
  rcases Nat.lt_trichotomy i j with z | z | z
  · exact absurd he.symm (half j i w v z hj hi)
  · exact z
  · exact absurd he (half i j v w z hi hj)
def am_pl (μ : Nat → Nat) : Nat → am_H → am_H → am_H
  | _, [], _ => []
  | j, none :: t, h => none :: am_pl μ (j + 1) t h
  | j, some _ :: t, h => (h[μ j]?).join :: am_pl μ (j + 1) t h
def am_rn (μ : Nat → Nat) (hl : am_H) : am_H := hl.map (fun o => o.map (am_rc μ))
theorem am_pl_sub {μ : Nat → Nat} {h : am_H} : ∀ (hl : am_H) (j : Nat), am_pl μ j hl h = am_rn μ hl → ∀ (i : Nat) (c : am_C), hl[i]? = some (some c) → h[μ (j + i)]? = some (some (am_rc μ c))
  | [], j, _, i, c, hi => by simp at hi
  | none :: t, j, he, i, c, hi => by
    cases i with
    | zero => cases hi
    | succ i =>
      simp only [am_pl, am_rn, List.map_cons, List.cons.injEq] at he
      have := am_pl_sub t (j + 1) he.2 i c hi
      rw [show j + 1 + i = j + (i + 1) by omega] at this
      exact this
  | some d :: t, j, he, i, c, hi => by
    simp only [am_pl, am_rn, List.map_cons, List.cons.injEq] at he
    cases i with
    | zero =>
      have hdc : d = c := Option.some.inj (Option.some.inj hi)
      subst hdc
      have h1 : (h[μ j]?).join = some (am_rc μ d) := he.1
      show h[μ j]? = _
      cases hx : h[μ j]? with
      | none => rw [hx] at h1; cases h1
      | some o => rw [hx] at h1; cases o with
        | none => cases h1
        | some c' => rw [← h1]; rfl
    | succ i =>
      have := am_pl_sub t (j + 1) he.2 i c hi
      rw [show j + 1 + i = j + (i + 1) by omega] at this
      exact this
/-- what new cells ask: closed -/
def am_chk (l : List Nat) (p0 p1 pc : List (Option Bool)) : Bool :=
  (List.range p0.length).all (fun j => match p0.getD j none with | none => true | some w => decide (p1.getD j none = some w)) &&
  (List.range p1.length).all (fun j => match p1.getD j none, p0.getD j none with | some _, none => decide (pc[am_mu l j]? = some none) && decide (2 ≤ am_mu l j) | _, _ => true)
def am_nps (l : List Nat) (p0 p1 : List (Option Bool)) : List Nat := (List.range p1.length).filterMap (fun j => match p1.getD j none, p0.getD j none with | some _, none => some (am_mu l j) | _, _ => none)
def am_tok (p1 : List (Option Bool)) (r : Option Value) (h1 : am_H) : Bool :=
  (r.toList.flatMap am_vr).all (fun t => (p1.getD t none).isSome) && h1.all (fun o => match o with | none => true | some c => (am_refs c).all (fun t => (p1.getD t none).isSome))
theorem am_back_0 {μ : Nat → Nat} {hl h1 h : am_H} {r : Option Value} {L : List (Option Value)} {S : List Value} (hp : am_pat h1 = am_pat hl) (hinj : ∀ (i j : Nat) (c d : am_C), hl[i]? = some (some c) → hl[j]? = some (some d) → μ i = μ j → i = j) : am_back μ hl r h1 L S h := by
  have inv : ∀ (j : Nat) (c : am_C), h1[j]? = some (some c) → ∃ c', hl[j]? = some (some c') := by
    intro j c hj
    obtain ⟨c', h2, -⟩ := am_pat_inv (by rw [← hp]; exact am_pat_some hj)
    exact ⟨c', h2⟩
  refine ⟨fun j c hj => am_pat_inv (by rw [hp]; exact am_pat_some hj), fun i j c d hi hj he => ?_, fun j hj => ?_⟩
  · obtain ⟨c', h2⟩ := inv i c hi
    obtain ⟨d', h3⟩ := inv j d hj
    exact hinj i j c' d' h2 h3 he
  · obtain ⟨⟨c, hc⟩, hn⟩ := hj
    exact absurd (inv j c hc) hn
theorem am_back_1 {l : List Nat} {p0 p1 pc : List (Option Bool)} {hl h1 h : am_H} {r : Option Value} {L : List (Option Value)} {S : List Value} (h0 : am_pat hl = p0) (hp1 : am_pat h1 = p1) (hpc : am_pat h = pc) (ho : am_okmu l p1 = true) (hc : am_chk l p0 p1 pc = true) (hf : (am_nps l p0 p1).all (fun k => am_free k L S h) = true) (ht : am_tok p1 r h1 = true) : am_back (am_mu l) hl r h1 L S h := by
  obtain ⟨-, hinj⟩ := am_okmu_inj ho
  simp only [am_chk, Bool.and_eq_true, List.all_eq_true, List.mem_range] at hc
  obtain ⟨c1, c2⟩ := hc
  have hinj1 : ∀ (i j : Nat) (c d : am_C), h1[i]? = some (some c) → h1[j]? = some (some d) → am_mu l i = am_mu l j → i = j := fun i j c d hi hj he => hinj i j _ _ (hp1 ▸ am_pat_some hi) (hp1 ▸ am_pat_some hj) he
  refine ⟨fun j c hj => ?_, hinj1, fun j hj => ?_⟩
  · have g := am_pat_some hj
    rw [h0] at g
    have := c1 j (List.getElem?_eq_some_iff.mp g).1
    rw [am_getD g] at this
    have e : p1.getD j none = some (am_wr c) := by simpa using this
    rw [List.getD_eq_getElem?_getD] at e
    cases hx : p1[j]? with
    | none => rw [hx] at e; cases e
    | some o =>
      rw [hx] at e
      have e2 : o = some (am_wr c) := e
      subst e2
      rw [← hp1] at hx
      exact am_pat_inv hx
  · obtain ⟨⟨c, hcj⟩, hn⟩ := hj
    have g1 : p1[j]? = some (some (am_wr c)) := hp1 ▸ am_pat_some hcj
    have g0 : p0.getD j none = none := by
      rw [List.getD_eq_getElem?_getD]
      cases hx : p0[j]? with
      | none => rfl
      | some o =>
        cases o with
        | none => rfl
        | some w =>
          rw [← h0] at hx
          obtain ⟨c', hc', -⟩ := am_pat_inv hx
          exact absurd ⟨c', hc'⟩ hn
    have hlt := (List.getElem?_eq_some_iff.mp g1).1
    have := c2 j hlt
    rw [am_getD g1, g0] at this
    simp only [Bool.and_eq_true, decide_eq_true_eq] at this
    have hmem : am_mu l j ∈ am_nps l p0 p1 := List.mem_filterMap.mpr ⟨j, List.mem_range.mpr hlt, by rw [am_getD g1, g0]⟩
    refine ⟨?_, this.2, List.all_eq_true.mp hf _ hmem, fun t htt he => ?_⟩
    · have h3 := this.1
      rw [← hpc, am_pat_at] at h3
      cases hx : h[am_mu l j]? with
      | none => rw [hx] at h3; cases h3
      | some o => rw [hx] at h3; cases o with
        | none => rfl
        | some c => cases h3
    · simp only [am_tok, Bool.and_eq_true, List.all_eq_true] at ht
      have hs : (p1.getD t none).isSome = true := by
        rcases htt with q | ⟨i, c', q1, q2⟩
        · exact ht.1 t q
        · have := ht.2 _ (List.mem_of_getElem? q1)
          exact List.all_eq_true.mp this t q2
      rw [List.getD_eq_getElem?_getD] at hs
      cases hx : p1[t]? with
      | none => rw [hx] at hs; cases hs
      | some o =>
        rw [hx] at hs
        cases o with
        | none => cases hs
        | some w => exact hinj t j w _ hx g1 he
section
variable {M M' : am_M} {h0 : am_H} {P : Option Value → am_H → Prop} {kc ks pc : Nat} {L : List (Option Value)} {st S : List Value} {h hl : am_H} {as : List Value} {Pq : Option Value → am_H → Prop} {idx n : Nat}
theorem ar_iret {v : Int32} (d : decode (am_b M) pc = .ok (.ireturn, 1)) (hr : am_r M = some .int) (hc : kc.ble (am_nc M) = true) (hs : ks.ble (am_ns M) = true) (hp : P (some (.int v)) h) : am_RW M h0 P kc ks pc L [.int v] h :=
  ar_ret (r := some (.int v)) rfl ⟨⟨.int, hr, rfl⟩, d⟩ (Nat.le_of_ble_eq_true hc) (Nat.le_of_ble_eq_true hs) hp
theorem ar_zret {v : Int32} (d : decode (am_b M) pc = .ok (.ireturn, 1)) (hr : am_r M = some .boolean) (hv : v = 0 ∨ v = 1) (hc : kc.ble (am_nc M) = true) (hs : ks.ble (am_ns M) = true) (hp : P (some (.int v)) h) : am_RW M h0 P kc ks pc L [.int v] h :=
  ar_ret (r := some (.int v)) rfl ⟨⟨.boolean, hr, by rcases hv with rfl | rfl <;> decide +kernel⟩, d⟩ (Nat.le_of_ble_eq_true hc) (Nat.le_of_ble_eq_true hs) hp
theorem ar_vret (d : decode (am_b M) pc = .ok (.return_, 1)) (hr : am_r M = none) (hc : kc.ble (am_nc M) = true) (hs : ks.ble (am_ns M) = true) (hp : P none h) : am_RW M h0 P kc ks pc L [] h :=
  ar_ret (r := none) rfl ⟨hr, d⟩ (Nat.le_of_ble_eq_true hc) (Nat.le_of_ble_eq_true hs) hp
theorem ar_aret {v : Nat} {cn : String} (d : decode (am_b M) pc = .ok (.areturn, 1)) (hr : am_r M = some (.object cn)) (hc : kc.ble (am_nc M) = true) (hs : ks.ble (am_ns M) = true) (hp : P (some (.ref v)) h) : am_RW M h0 P kc ks pc L [.ref v] h :=
  ar_ret (r := some (.ref v)) rfl ⟨⟨cn, hr⟩, d⟩ (Nat.le_of_ble_eq_true hc) (Nat.le_of_ble_eq_true hs) hp
theorem ar_mapid (as : List Value) : as.map (am_v fun k => k) = as := by rw [show (am_v fun k => k) = (fun v => v) from funext am_vid, List.map_id']
theorem ar_idc (hr : am_Run M M' pc as h Pq (fun k => k) st S h) (hc : (kc + am_nc M').ble (am_nc M) = true) (hs : (ks + am_ns M').ble (am_ns M) = true) (k : ∀ r h1, Pq r h1 → am_pat h1 = am_pat h ∧ am_RW M h0 P (kc + am_nc M') (ks + am_ns M') (pc + 3) L (r.toList ++ S) h1) : am_RW M h0 P kc ks pc L st h := by
  refine ar_call hr (Nat.le_of_ble_eq_true hc) (Nat.le_of_ble_eq_true hs) (fun j c hj => by rw [am_rcid]; exact hj) fun r h1 hp => ?_
  obtain ⟨k1, k2⟩ := k r h1 hp
  refine ⟨am_back_0 k1 fun i j c d _ _ he => he, ?_⟩
  rw [am_mrg_id k1, show r.map (am_v fun k => k) = r by cases r with | none => rfl | some v => exact congrArg some (am_vid v)]
  exact k2
theorem ar_idV {b ci : Nat} {fsb : List Value} (d : decode (am_b M) pc = .ok (.invokevirtual idx, 3)) (cal : am_cal M' n) (lk : Cond.methodLink (am_y M).cls idx (am_y M') ∈ am_ws ∧ Cond.instanceMethod (am_y M') ∈ am_ws ∧ Cond.selects (am_y M').cls (am_y M') (am_y M') ∈ am_ws) (hlv : (am_lv M' + 1).ble (am_lv M) = true) (sp : am_Sp M' (.ref b :: as) h Pq) (hst : st = as.reverse ++ .ref b :: S) (hb : h[b]? = some (some (.inl (ci, fsb)))) (hrc : (am_cl[ci]?).map (fun q => q.1) = some (am_y M').cls) (hn : as.length = n) (hcat : ((S.map Value.category).sum).ble 8 = true) (hc : (kc + am_nc M').ble (am_nc M) = true) (hs : (ks + am_ns M').ble (am_ns M) = true) (k : ∀ r h1, Pq r h1 → am_pat h1 = am_pat h ∧ am_RW M h0 P (kc + am_nc M') (ks + am_ns M') (pc + 3) L (r.toList ++ S) h1) : am_RW M h0 P kc ks pc L st h := by
  have hr := am_runV (S := S) (h := h) (μ := fun k => k) d cal lk.1 lk.2.1 lk.2.2 (Nat.le_of_ble_eq_true hlv) sp hn (Nat.le_of_ble_eq_true hcat) hrc hb ⟨rfl, rfl⟩ (fun j c hj => by rw [am_rcid]; exact hj) (fun i j c d _ _ he => he)
  rw [ar_mapid, ← hst] at hr
  exact ar_idc hr hc hs k
theorem ar_idS (d : decode (am_b M) pc = .ok (.invokestatic idx, 3)) (cal : am_cal M' n) (lk : Cond.methodLink (am_y M).cls idx (am_y M') ∈ am_ws ∧ Cond.static (am_y M') ∈ am_ws) (hlv : (am_lv M' + 1).ble (am_lv M) = true) (sp : am_Sp M' as h Pq) (hst : st = as.reverse ++ S) (hn : as.length = n) (hcat : ((S.map Value.category).sum).ble 8 = true) (hc : (kc + am_nc M').ble (am_nc M) = true) (hs : (ks + am_ns M').ble (am_ns M) = true) (k : ∀ r h1, Pq r h1 → am_pat h1 = am_pat h ∧ am_RW M h0 P (kc + am_nc M') (ks + am_ns M') (pc + 3) L (r.toList ++ S) h1) : am_RW M h0 P kc ks pc L st h := by
  have hr := am_runS (S := S) (h := h) (μ := fun k => k) d cal lk.1 lk.2 (Nat.le_of_ble_eq_true hlv) sp hn (Nat.le_of_ble_eq_true hcat) ⟨rfl, rfl⟩ (fun j c hj => by rw [am_rcid]; exact hj) (fun i j c d _ _ he => he)
  rw [ar_mapid, ← hst] at hr
  exact ar_idc hr hc hs k
theorem ar_idSN {host : String} (d : decode (am_b M) pc = .ok (.invokestatic idx, 3)) (cal : am_cal M' n) (lk : Cond.methodLinkNest (am_y M).cls idx (am_y M') host ∈ am_nw ∧ Cond.static (am_y M') ∈ am_ws) (hlv : (am_lv M' + 1).ble (am_lv M) = true) (sp : am_Sp M' as h Pq) (hst : st = as.reverse ++ S) (hn : as.length = n) (hcat : ((S.map Value.category).sum).ble 8 = true) (hc : (kc + am_nc M').ble (am_nc M) = true) (hs : (ks + am_ns M').ble (am_ns M) = true) (k : ∀ r h1, Pq r h1 → am_pat h1 = am_pat h ∧ am_RW M h0 P (kc + am_nc M') (ks + am_ns M') (pc + 3) L (r.toList ++ S) h1) : am_RW M h0 P kc ks pc L st h := by
  have hr := am_runSN (S := S) (h := h) (μ := fun k => k) d cal lk.1 lk.2 (Nat.le_of_ble_eq_true hlv) sp hn (Nat.le_of_ble_eq_true hcat) ⟨rfl, rfl⟩ (fun j c hj => by rw [am_rcid]; exact hj) (fun i j c d _ _ he => he)
  rw [ar_mapid, ← hst] at hr
  exact ar_idc hr hc hs k
/-- renamed cells, no new ones -/
theorem ar_mc {l : List Nat} {p0 : List (Option Bool)} (hr : am_Run M M' pc as hl Pq (am_mu l) st S h) (hm : am_okmu l p0 = true) (hp0 : am_pat hl = p0) (hpl : am_pl (am_mu l) 0 hl h = am_rn (am_mu l) hl) (hc : (kc + am_nc M').ble (am_nc M) = true) (hs : (ks + am_ns M').ble (am_ns M) = true) (k : ∀ r h1, Pq r h1 → am_pat h1 = p0 ∧ am_RW M h0 P (kc + am_nc M') (ks + am_ns M') (pc + 3) L ((r.map (am_v (am_mu l))).toList ++ S) (am_mrg (am_mu l) 0 h1 h)) : am_RW M h0 P kc ks pc L st h := by
  subst hp0
  refine ar_call hr (Nat.le_of_ble_eq_true hc) (Nat.le_of_ble_eq_true hs) (fun j c hj => by have := am_pl_sub hl 0 hpl j c hj; rwa [Nat.zero_add] at this) fun r h1 hp => ?_
  obtain ⟨k1, k2⟩ := k r h1 hp
  exact ⟨am_back_0 k1 fun i j c d hi hj he => (am_okmu_inj hm).2 i j _ _ (am_pat_some hi) (am_pat_some hj) he, k2⟩
theorem ar_nc {l : List Nat} {p0 p1 pcl : List (Option Bool)} (hr : am_Run M M' pc as hl Pq (am_mu l) st S h) (hm1 : am_okmu l p1 = true) (hch : am_chk l p0 p1 pcl = true) (hp0 : am_pat hl = p0) (hpc : am_pat h = pcl) (hpl : am_pl (am_mu l) 0 hl h = am_rn (am_mu l) hl) (hf : (am_nps l p0 p1).all (fun k => am_free k L S h) = true) (hc : (kc + am_nc M').ble (am_nc M) = true) (hs : (ks + am_ns M').ble (am_ns M) = true) (k : ∀ r h1, Pq r h1 → (am_pat h1 = p1 ∧ am_tok p1 r h1 = true) ∧ am_RW M h0 P (kc + am_nc M') (ks + am_ns M') (pc + 3) L ((r.map (am_v (am_mu l))).toList ++ S) (am_mrg (am_mu l) 0 h1 h)) : am_RW M h0 P kc ks pc L st h := by
  refine ar_call hr (Nat.le_of_ble_eq_true hc) (Nat.le_of_ble_eq_true hs) (fun j c hj => by have := am_pl_sub hl 0 hpl j c hj; rwa [Nat.zero_add] at this) fun r h1 hp => ?_
  obtain ⟨⟨k1, k1'⟩, k2⟩ := k r h1 hp
  exact ⟨am_back_1 hp0 k1 hpc hm1 hch hf k1', k2⟩
theorem am_subp {l : List Nat} {p0 : List (Option Bool)} (hpl : am_pl (am_mu l) 0 hl h = am_rn (am_mu l) hl) : ∀ (j : Nat) (c : am_C), hl[j]? = some (some c) → h[am_mu l j]? = some (some (am_rc (am_mu l) c)) := fun j c hj => by
  have := am_pl_sub hl 0 hpl j c hj
  rwa [Nat.zero_add] at this
theorem am_injp {l : List Nat} {p0 : List (Option Bool)} (hm : am_okmu l p0 = true) (hp0 : am_pat hl = p0) : ∀ (i j : Nat) (c d : am_C), hl[i]? = some (some c) → hl[j]? = some (some d) → am_mu l i = am_mu l j → i = j := fun i j c d hi hj he =>
  (am_okmu_inj hm).2 i j _ _ (hp0 ▸ am_pat_some hi) (hp0 ▸ am_pat_some hj) he
/-- the run of a virtual call in renamed cells -/
theorem ar_rV {l : List Nat} {p0 : List (Option Bool)} {b ci : Nat} {fsb : List Value} (d : decode (am_b M) pc = .ok (.invokevirtual idx, 3)) (cal : am_cal M' n) (lk : Cond.methodLink (am_y M).cls idx (am_y M') ∈ am_ws ∧ Cond.instanceMethod (am_y M') ∈ am_ws ∧ Cond.selects (am_y M').cls (am_y M') (am_y M') ∈ am_ws) (hlv : (am_lv M' + 1).ble (am_lv M) = true) (sp : am_Sp M' (.ref b :: as) hl Pq) (hst : st = (as.map (am_v (am_mu l))).reverse ++ .ref (am_mu l b) :: S) (hb : hl[b]? = some (some (.inl (ci, fsb)))) (hrc : (am_cl[ci]?).map (fun q => q.1) = some (am_y M').cls) (hn : as.length = n) (hcat : ((S.map Value.category).sum).ble 8 = true) (hm : am_okmu l p0 = true) (hp0 : am_pat hl = p0) (hpl : am_pl (am_mu l) 0 hl h = am_rn (am_mu l) hl) : am_Run M M' pc (.ref b :: as) hl Pq (am_mu l) st S h := by
  rw [hst]
  exact am_runV d cal lk.1 lk.2.1 lk.2.2 (Nat.le_of_ble_eq_true hlv) sp hn (Nat.le_of_ble_eq_true hcat) hrc hb (am_okmu_inj hm).1 (am_subp (p0 := p0) hpl) (am_injp hm hp0)
theorem ar_rS {l : List Nat} {p0 : List (Option Bool)} (d : decode (am_b M) pc = .ok (.invokestatic idx, 3)) (cal : am_cal M' n) (lk : Cond.methodLink (am_y M).cls idx (am_y M') ∈ am_ws ∧ Cond.static (am_y M') ∈ am_ws) (hlv : (am_lv M' + 1).ble (am_lv M) = true) (sp : am_Sp M' as hl Pq) (hst : st = (as.map (am_v (am_mu l))).reverse ++ S) (hn : as.length = n) (hcat : ((S.map Value.category).sum).ble 8 = true) (hm : am_okmu l p0 = true) (hp0 : am_pat hl = p0) (hpl : am_pl (am_mu l) 0 hl h = am_rn (am_mu l) hl) : am_Run M M' pc as hl Pq (am_mu l) st S h := by
  rw [hst]
  exact am_runS d cal lk.1 lk.2 (Nat.le_of_ble_eq_true hlv) sp hn (Nat.le_of_ble_eq_true hcat) (am_okmu_inj hm).1 (am_subp (p0 := p0) hpl) (am_injp hm hp0)
theorem ar_rSN {l : List Nat} {p0 : List (Option Bool)} {host : String} (d : decode (am_b M) pc = .ok (.invokestatic idx, 3)) (cal : am_cal M' n) (lk : Cond.methodLinkNest (am_y M).cls idx (am_y M') host ∈ am_nw ∧ Cond.static (am_y M') ∈ am_ws) (hlv : (am_lv M' + 1).ble (am_lv M) = true) (sp : am_Sp M' as hl Pq) (hst : st = (as.map (am_v (am_mu l))).reverse ++ S) (hn : as.length = n) (hcat : ((S.map Value.category).sum).ble 8 = true) (hm : am_okmu l p0 = true) (hp0 : am_pat hl = p0) (hpl : am_pl (am_mu l) 0 hl h = am_rn (am_mu l) hl) : am_Run M M' pc as hl Pq (am_mu l) st S h := by
  rw [hst]
  exact am_runSN d cal lk.1 lk.2 (Nat.le_of_ble_eq_true hlv) sp hn (Nat.le_of_ble_eq_true hcat) (am_okmu_inj hm).1 (am_subp (p0 := p0) hpl) (am_injp hm hp0)
theorem ar_rI {l : List Nat} {p0 : List (Option Bool)} {b : Nat} (d : decode (am_b M) pc = .ok (.invokespecial idx, 3)) (cal : am_cal M' n) (hret : am_r M' = none) (hnm : (am_y M').name = "<init>") (lk : Cond.methodLink (am_y M).cls idx (am_y M') ∈ am_ws ∧ Cond.instanceMethod (am_y M') ∈ am_ws) (hlv : (am_lv M' + 1).ble (am_lv M) = true) (sp : am_Sp M' (.ref b :: as) hl Pq) (hst : st = (as.map (am_v (am_mu l))).reverse ++ .ref (am_mu l b) :: S) (hn : as.length = n) (hcat : ((S.map Value.category).sum).ble 8 = true) (hm : am_okmu l p0 = true) (hp0 : am_pat hl = p0) (hpl : am_pl (am_mu l) 0 hl h = am_rn (am_mu l) hl) : am_Run M M' pc (.ref b :: as) hl Pq (am_mu l) st S h := by
  rw [hst]
  exact am_runI d cal hret hnm lk.1 lk.2 (Nat.le_of_ble_eq_true hlv) sp hn (Nat.le_of_ble_eq_true hcat) (am_okmu_inj hm).1 (am_subp (p0 := p0) hpl) (am_injp hm hp0)
theorem ar_rIN {l : List Nat} {p0 : List (Option Bool)} {b : Nat} {host : String} (d : decode (am_b M) pc = .ok (.invokespecial idx, 3)) (cal : am_cal M' n) (hret : am_r M' = none) (hnm : (am_y M').name = "<init>") (lk : Cond.methodLinkNest (am_y M).cls idx (am_y M') host ∈ am_nw ∧ Cond.instanceMethod (am_y M') ∈ am_ws) (hlv : (am_lv M' + 1).ble (am_lv M) = true) (sp : am_Sp M' (.ref b :: as) hl Pq) (hst : st = (as.map (am_v (am_mu l))).reverse ++ .ref (am_mu l b) :: S) (hn : as.length = n) (hcat : ((S.map Value.category).sum).ble 8 = true) (hm : am_okmu l p0 = true) (hp0 : am_pat hl = p0) (hpl : am_pl (am_mu l) 0 hl h = am_rn (am_mu l) hl) : am_Run M M' pc (.ref b :: as) hl Pq (am_mu l) st S h := by
  rw [hst]
  exact am_runIN d cal hret hnm lk.1 lk.2 (Nat.le_of_ble_eq_true hlv) sp hn (Nat.le_of_ble_eq_true hcat) (am_okmu_inj hm).1 (am_subp (p0 := p0) hpl) (am_injp hm hp0)
end
