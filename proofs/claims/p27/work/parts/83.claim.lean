/-! the claim -/
/-! THE CLAIM OUT OF ONE WALK OF THE LAW'S BODY. Your part is whole_start (and what it stands on); all else here is the same for every law, but numbers. -/
def R_law : String := "PuppetPitchesLaw"
def lw_P (b : Addr) (xs : List Int32) (args : Array Value) (s : State) : Prop := args = #[.ref b] ∧ s.IntsAt b xs ∧ xs.length ≤ 260 ∧ (Jvm.Cond.and given_1 narrow_1).before args s = true
def lw_Q (_ : Array Value) (s : State) (o : Outcome) (t : State) : Prop := o = .returned (some (.int 1)) ∧ Framed s o t [] 600000 7302250
def lw_Z (below : List Frame) (a : Array Value) (s : State) : State → Prop := fun t => ∃ o, t.status = .running ∧ Ended t below o ∧ lw_Q a s o t
/-- the law's own end, with 1 on the stack, nothing written that was there before, its room as the claim has it -/
theorem lw_ret {p : Program} {l : Launch} {e : Env} {s : State} {m : MethodId} {below : List Frame} {meth : Method} {c : Code} {b : Nat} (hx : p.tables.exec = Jvm.exec) (hb : c.code = code) (hr : meth.sig.returnType = ret) (hlocks : meth.locks = false) {pc : Nat} {H : Heap} {ls : Array Slot} (hdg : decode code pc = .ok (.ireturn, 1)) : W p l e room_1 s m #[Value.ref b] below meth c H [] 600000 7302250 (lw_Z below #[Value.ref b] s) (F0 m pc ls [.int 1]) := by
  intro T hT X
  obtain ⟨fs, hret, hrun, hended, hW, hframe⟩ := X.leave (v := some (.int 1)) (hlocks := hlocks) (fun h => by rw [hr] at h; cases h)
  have hmeth' : T.vm.method? m = some meth := X.method'
  refine ⟨T.setFrames fs, ?_, .returned (some (.int 1)), hrun, hended, rfl, ⟨_, rfl⟩, hW, hframe⟩
  jvm_step X.here [X.here.top, hx, hb, hdg, hmeth', hr, ret, narrow_b1]
  (try refine ⟨rfl, ?_⟩); (try refine ⟨rfl, ?_⟩)
  first | (intro acts; rw [hret _ acts rfl rfl rfl]) | rw [hret _ _ rfl rfl rfl]
  exact Steps.refl _
/-- what holds at the law's entry: the machine, the code, the tables' words (any of lw_tbl by 'hts w (by decide +kernel)'), the script of L ints xs at the cell b, what the Statement gives of the start (any of its parts by flat_of_before) -/
def lw_At (p : Program) (s : State) (m : MethodId) (meth : Method) (c : Code) (b L : Nat) (xs : Nat → Int32) : Prop :=
  p.tables.exec = Jvm.exec ∧ c.code = code ∧ meth.sig.returnType = ret ∧ c.maxLocals = 4 ∧ s.vm.findClass R_law = some m.cls ∧ (∀ w ∈ lw_tbl, w.before #[Value.ref b] s = true) ∧ va_X b L xs s s.heap ∧ b < s.heap.size ∧ meth.locks = false ∧ (Jvm.Cond.and given_1 narrow_1).before #[Value.ref b] s = true ∧ (Jvm.Cond.code x code maxLocals ret).before #[Value.ref b] s = true ∧ meth.name = x.name

theorem st_arr {args : Array Value} {s : State} {tm : Term} {N : Nat} {f : Nat → Int32} (hN : N < 2 ^ 31) (harr : (Cond.arrayOf tm .int).before args s = true) (hlen : (Term.length tm).eval args s none [] s = some (.int (Int32.ofNat N))) (hel : ∀ j : Nat, j < N → (Term.elem tm (.int (Int32.ofNat j))).eval args s none [] s = some (.int (f j))) : ∃ t : Nat, tm.eval args s none [] s = some (.ref t) ∧ t < s.heap.size ∧ va_X t N f s s.heap := by
  obtain ⟨t, cell, ht, hat, hv⟩ := Term.length_spec hlen
  obtain ⟨hcell, _, _, _⟩ := State.arrayAt?_spec hat
  obtain ⟨t', ht', cell', hc', hof, hkn, _, hsz2, hsl, _⟩ := va_Tof (f := fun j => .int (f j)) (A := fun _ => False) hN harr hlen hel (fun _ _ h => h)
  cases ht.symm.trans ht'
  cases hcell.symm.trans hc'
  have hlt : cell.slots.size < 2 ^ 31 := by
    rcases Nat.lt_or_ge cell.slots.size (2 ^ 31) with h | h
    · exact h
    · exfalso
      have h' : ¬ cell.slots.size < 2 ^ 31 := Nat.not_lt.mpr h
      simp [Term.eval, ht, hat, h'] at hlen
  have e : cell.slots.size = N := (nI_eq hlt hN).mp hsz2
  exact ⟨t, ht, (Array.getElem?_eq_some_iff.mp hcell).1, cell, hcell, hof, hkn, e, hsl⟩
theorem lw0_cell {N : Nat} {f ff gg : Nat → Int32} {k : Nat} {c : am_C} (h : (lw0 N f ff gg)[k]? = some (some c)) : (k = 0 ∧ c = fsC false ff) ∨ (k = 1 ∧ c = fsC false gg) ∨ (k = 99 ∧ c = .inr (.inl (.int, false, N, f))) := by
  rw [lw0, List.getElem?_append] at h
  split at h
  · match k, h with
    | 0, h => cases h; exact Or.inl ⟨rfl, rfl⟩
    | 1, h => cases h; exact Or.inr (Or.inl ⟨rfl, rfl⟩)
    | k + 2, h => exact (nn_no (n := 96) h).elim
  · rename_i hk
    have hk' : 98 ≤ k := Nat.le_of_not_lt hk
    have h2 : (none :: lwT N f)[k - 98]? = some (some c) := h
    have hl := (List.getElem?_eq_some_iff.mp h2).1
    have hl' : k - 98 < 2 := hl
    rcases (show k = 98 ∨ k = 99 by omega) with rfl | rfl
    · cases h2
    · cases h2
      exact Or.inr (Or.inr ⟨rfl, rfl⟩)
theorem lw0_wr {N : Nat} {f ff gg : Nat → Int32} {k : Nat} {c : am_C} (h : (lw0 N f ff gg)[k]? = some (some c)) : am_wr c = false := by
  rcases lw0_cell h with ⟨_, rfl⟩ | ⟨_, rfl⟩ | ⟨_, rfl⟩ <;> rfl
def ad_0 (t0 t1 b : Nat) : Nat → Nat := fun k => if k = 0 then t0 else if k = 1 then t1 else b
theorem fp_0 {N : Nat} {f ff gg : Nat → Int32} {ad : Nat → Nat} {sz q : Nat} (h : am_FP ad (lw0 N f ff gg) sz q) : sz ≤ q := by
  rcases h with ⟨k, c, h1, h2, _⟩ | h
  · rw [lw0_wr h1] at h2
    cases h2
  · exact h
def ff_0 : Nat → Int32 := fun j => match j with
  | 0 => 200
  | 1 => 100
  | 2 => 40
  | 3 => 25
  | 4 => 1
  | _ => 20
theorem nw_z {w : Cond} (hn : am_nest w = true) {A : Array Value} {s : State} (h : w.before A s = true) : va_Nw w s := by
  cases w <;> first | (cases hn; done) | exact va_tabs rfl rfl h | skip
  case arrayOver t =>
    cases t <;> first | (cases hn; done) | exact va_AO.of h
set_option maxHeartbeats 4000000 in
set_option maxRecDepth 100000 in
theorem whole_start {p : Program} {e : Env} {s : State} {m : MethodId} {below : List Frame} {meth : Method} {c : Code} (l : Launch) (hflags : l.flags = flags0) {b L : Nat} {xs : Nat → Int32} (hL : L ≤ 260) (C0 : lw_At p s m meth c b L xs) : W p l e room_1 s m #[Value.ref b] below meth c s.heap [] 0 0 (lw_Z below #[Value.ref b] s) (entryFrame m ([Value.ref b] : List Value).toArray 4) := by
  obtain ⟨hx, hb, hr, hml, hown, hts, hX, hbl, hlocks, hgv, hcode, hname⟩ := C0
  have hs := flat_of_before _ hgv
  obtain ⟨t0, ht0, hl0, hX0⟩ := st_arr (args := #[Value.ref b]) (s := s) (tm := (.static "PuppetPitches" "FIRST_SETTINGS" "[I")) (N := 6) (f := ff_0) (by decide) (hs (.arrayOf (.static "PuppetPitches" "FIRST_SETTINGS" "[I") .int) (by decide +kernel)) (va_eqt (hs (Cond.eq (.length (.static "PuppetPitches" "FIRST_SETTINGS" "[I")) (.int 6)) (by decide +kernel))) (by
      intro j hj
      rcases (show j = 0 ∨ j = 1 ∨ j = 2 ∨ j = 3 ∨ j = 4 ∨ j = 5 by omega) with rfl | rfl | rfl | rfl | rfl | rfl
      · exact va_eqt (hs (Cond.eq (.elem (.static "PuppetPitches" "FIRST_SETTINGS" "[I") (.int 0)) (.int 200)) (by decide +kernel))
      · exact va_eqt (hs (Cond.eq (.elem (.static "PuppetPitches" "FIRST_SETTINGS" "[I") (.int 1)) (.int 100)) (by decide +kernel))
      · exact va_eqt (hs (Cond.eq (.elem (.static "PuppetPitches" "FIRST_SETTINGS" "[I") (.int 2)) (.int 40)) (by decide +kernel))
      · exact va_eqt (hs (Cond.eq (.elem (.static "PuppetPitches" "FIRST_SETTINGS" "[I") (.int 3)) (.int 25)) (by decide +kernel))
      · exact va_eqt (hs (Cond.eq (.elem (.static "PuppetPitches" "FIRST_SETTINGS" "[I") (.int 4)) (.int 1)) (by decide +kernel))
      · exact va_eqt (hs (Cond.eq (.elem (.static "PuppetPitches" "FIRST_SETTINGS" "[I") (.int 5)) (.int 20)) (by decide +kernel)))
  obtain ⟨t1, ht1, hl1, hX1⟩ := st_arr (args := #[Value.ref b]) (s := s) (tm := (.static "PuppetPitches" "GREATEST_SETTINGS" "[I")) (N := 6) (f := mo_I) (by decide) (hs (.arrayOf (.static "PuppetPitches" "GREATEST_SETTINGS" "[I") .int) (by decide +kernel)) (va_eqt (hs (Cond.eq (.length (.static "PuppetPitches" "GREATEST_SETTINGS" "[I")) (.int 6)) (by decide +kernel))) (by
      intro j hj
      rcases (show j = 0 ∨ j = 1 ∨ j = 2 ∨ j = 3 ∨ j = 4 ∨ j = 5 by omega) with rfl | rfl | rfl | rfl | rfl | rfl
      · exact va_eqt (hs (Cond.eq (.elem (.static "PuppetPitches" "GREATEST_SETTINGS" "[I") (.int 0)) (.int 999)) (by decide +kernel))
      · exact va_eqt (hs (Cond.eq (.elem (.static "PuppetPitches" "GREATEST_SETTINGS" "[I") (.int 1)) (.int 999)) (by decide +kernel))
      · exact va_eqt (hs (Cond.eq (.elem (.static "PuppetPitches" "GREATEST_SETTINGS" "[I") (.int 2)) (.int 100)) (by decide +kernel))
      · exact va_eqt (hs (Cond.eq (.elem (.static "PuppetPitches" "GREATEST_SETTINGS" "[I") (.int 3)) (.int 100)) (by decide +kernel))
      · exact va_eqt (hs (Cond.eq (.elem (.static "PuppetPitches" "GREATEST_SETTINGS" "[I") (.int 4)) (.int 5)) (by decide +kernel))
      · exact va_eqt (hs (Cond.eq (.elem (.static "PuppetPitches" "GREATEST_SETTINGS" "[I") (.int 5)) (.int 100)) (by decide +kernel)))
  have n0 : b ≠ t0 := by
    intro e
    have h := hs (.not (.eq (.arg 0) (.static "PuppetPitches" "FIRST_SETTINGS" "[I"))) (by decide +kernel)
    have ha : (Term.arg 0).eval #[Value.ref b] s none [] s = some (.ref b) := rfl
    rw [← e] at ht0
    simp [Cond.before, Cond.holds, Cond.value, ht0, ha] at h
  have n1 : b ≠ t1 := by
    intro e
    have h := hs (.not (.eq (.arg 0) (.static "PuppetPitches" "GREATEST_SETTINGS" "[I"))) (by decide +kernel)
    have ha : (Term.arg 0).eval #[Value.ref b] s none [] s = some (.ref b) := rfl
    rw [← e] at ht1
    simp [Cond.before, Cond.holds, Cond.value, ht1, ha] at h
  have n01 : t0 ≠ t1 := by
    intro e
    obtain ⟨c0, a1, _, _, _, a2⟩ := hX0
    obtain ⟨c1, b1, _, _, _, b2⟩ := hX1
    rw [← e] at b1
    cases a1.symm.trans b1
    have e2 := (a2 0 (by decide)).symm.trans (b2 0 (by decide))
    cases e2
  have hk : ∀ k : Nat, ∃ v : ClassId × (Nat → Nat), ∀ q : vw_C, am_cl[k]? = some q → u_Kn s q.1 q.2.1 q.2.2 v.1 v.2 := fun k => match k with
    | 0 => by
      obtain ⟨a, i, h⟩ := u_known (C := RX1) (T := TX1) (N := 3) (n := 3) hts (fun w hw => (List.mem_filter.mp (am_uws (ci := 0) rfl w hw)).1) (hts (.instantiable RX1 3) (by decide +kernel))
      exact ⟨(a, i), fun q hq => by cases hq; exact h⟩
    | 1 => by
      obtain ⟨a, i, h⟩ := u_known (C := RX2) (T := TX2) (N := 5) (n := 5) hts (fun w hw => (List.mem_filter.mp (am_uws (ci := 1) rfl w hw)).1) (hts (.instantiable RX2 5) (by decide +kernel))
      exact ⟨(a, i), fun q hq => by cases hq; exact h⟩
    | 2 => by
      obtain ⟨a, i, h⟩ := u_known (C := RX3) (T := TX3) (N := 13) (n := 13) hts (fun w hw => (List.mem_filter.mp (am_uws (ci := 2) rfl w hw)).1) (hts (.instantiable RX3 13) (by decide +kernel))
      exact ⟨(a, i), fun q hq => by cases hq; exact h⟩
    | 3 => by
      obtain ⟨a, i, h⟩ := u_known (C := RX4) (T := TX4) (N := 5) (n := 5) hts (fun w hw => (List.mem_filter.mp (am_uws (ci := 3) rfl w hw)).1) (hts (.instantiable RX4 5) (by decide +kernel))
      exact ⟨(a, i), fun q hq => by cases hq; exact h⟩
    | 4 => by
      obtain ⟨a, i, h⟩ := u_known (C := RX5) (T := TX5) (N := 3) (n := 3) hts (fun w hw => (List.mem_filter.mp (am_uws (ci := 4) rfl w hw)).1) (hts (.instantiable RX5 3) (by decide +kernel))
      exact ⟨(a, i), fun q hq => by cases hq; exact h⟩
    | 5 => by
      obtain ⟨a, i, h⟩ := u_known (C := RX6) (T := TX6) (N := 6) (n := 6) hts (fun w hw => (List.mem_filter.mp (am_uws (ci := 5) rfl w hw)).1) (hts (.instantiable RX6 6) (by decide +kernel))
      exact ⟨(a, i), fun q hq => by cases hq; exact h⟩
    | n + 6 => ⟨(m.cls, fun _ => 0), fun q hq => by cases hq⟩
  obtain ⟨D, hD⟩ : ∃ D : va_G, ∀ (k : Nat) (q : vw_C), am_cl[k]? = some q → u_Kn s q.1 q.2.1 q.2.2 (D.1 k) (D.2 k) := ⟨(fun k => (Classical.choose (hk k)).1, fun k => (Classical.choose (hk k)).2), fun k => Classical.choose_spec (hk k)⟩
  have hH : am_HR D s (ad_0 t0 t1 b) (lw0 L xs ff_0 mo_I) s.heap := by
    refine ⟨fun k c h => ?_, fun j k c d h1 h2 e => ?_⟩
    · rcases lw0_cell h with ⟨rfl, rfl⟩ | ⟨rfl, rfl⟩ | ⟨rfl, rfl⟩
      · obtain ⟨cell, a1, a2, a3, a4, a5⟩ := hX0
        exact ⟨cell, a1, a2, a3, a4, (by decide : 6 < 2147483648), a5⟩
      · obtain ⟨cell, a1, a2, a3, a4, a5⟩ := hX1
        exact ⟨cell, a1, a2, a3, a4, (by decide : 6 < 2147483648), a5⟩
      · obtain ⟨cell, a1, a2, a3, a4, a5⟩ := hX
        exact ⟨cell, a1, a2, a3, a4, (show L < 2147483648 by omega), a5⟩
    · rcases lw0_cell h1 with ⟨rfl, rfl⟩ | ⟨rfl, rfl⟩ | ⟨rfl, rfl⟩ <;> rcases lw0_cell h2 with ⟨rfl, rfl⟩ | ⟨rfl, rfl⟩ | ⟨rfl, rfl⟩
      · rfl
      · exact absurd e n01
      · exact absurd (show b = t0 from e.symm) n0
      · exact absurd (show t0 = t1 from e.symm) n01
      · rfl
      · exact absurd (show b = t1 from e.symm) n1
      · exact absurd (show b = t0 from e) n0
      · exact absurd (show b = t1 from e) n1
      · rfl
  have hA : ∀ a : Nat, a < s.heap.size → ¬ am_FP (ad_0 t0 t1 b) (lw0 L xs ff_0 mo_I) s.heap.size a := fun a h q => absurd (fp_0 q) (Nat.not_le.mpr h)
  have hE : am_E D (am_FP (ad_0 t0 t1 b) (lw0 L xs ff_0 mo_I) s.heap.size) (ad_0 t0 t1 b) s s.heap := ⟨⟨hD, fun k q h => by simp at h⟩, fun w hw => nw_z (List.mem_filter.mp hw).2 (hts w (List.mem_filter.mp hw).1), va_Zref (hts (.laysStatic "PuppetPitches" "FIRST_SETTINGS" "[I") (by decide +kernel)) (hts (.initialized "PuppetPitches") (by decide +kernel)) ht0 hA, va_Zref (hts (.laysStatic "PuppetPitches" "GREATEST_SETTINGS" "[I") (by decide +kernel)) (hts (.initialized "PuppetPitches") (by decide +kernel)) ht1 hA⟩
  have T : am_St (lw0 L xs ff_0 mo_I) D s (ad_0 t0 t1 b) (ad_0 t0 t1 b) (lw0 L xs ff_0 mo_I) s.heap [] := ⟨hH, fun k c hk => ⟨c, hk⟩, fun _ _ => rfl, fun k hk => absurd hk.1 hk.2, fun k c hk hw => Or.inl ⟨k, c, hk, hw, rfl⟩, va_S.rf, hE, rfl, rfl⟩
  have hl := lv_entry ([Value.ref b]) (n := 4) (Nat.le_of_ble_eq_true rfl)
  have Ll : am_L (am_n mL_law) (ad_0 t0 t1 b) _ [some (.ref 99), none, none, none] := am_L.of hl fun i v hi => by
    match i, hi with
    | 0, hi => cases hi; exact List.mem_cons_self
    | 1, hi => cases hi
    | 2, hi => cases hi
    | 3, hi => cases hi
    | i + 4, hi => cases hi
  have Cx : am_Cx mL_law p room_1 s m #[Value.ref b] meth c := ⟨hx, hb, hml, hown, fun w hw => by
    rcases List.mem_cons.mp hw with e | hw
    · rw [e]; exact hcode
    · exact hts w (List.mem_filter.mp hw).1, hname, by decide, by decide, by decide, by decide⟩
  rw [lg_entry_eq]
  refine law_0 xs (ff := ff_0) (gg := mo_I) ⟨rfl, rfl, rfl, rfl, rfl, rfl⟩ (fun k _ => rfl) p l e room_1 s m #[Value.ref b] below meth c D (ad_0 t0 t1 b) (lw_Z below #[Value.ref b] s) Cx ?_ (ad_0 t0 t1 b) s.heap [] _ T Ll
  intro r h1 ad1 H locs kc ks ls pc hkc hks hp T1 hri
  have hp' : r = some (.int 1) := hp
  subst hp'
  refine va_forget (fun q hq => fp_0 (T1.2.2.2.2.2.1.2.2 q hq)) ?_
  refine W.widen (k := 600000) (n := 7302250) hkc hks ?_
  exact lw_ret hx hb hr hlocks hri.2

set_option maxHeartbeats 4000000 in
theorem lw_walk (l : Launch) (hflags : l.flags = flags0) (b : Addr) (xs : List Int32) : MetFree l x (headSpec (Jvm.Cond.code x code maxLocals ret :: tables_1) room_1) (lw_P b xs) (fun _ _ _ _ _ => True) lw_Q := by
  refine MetFree.of_bodyS (code := code) (maxLocals := maxLocals) (ret := ret) (by decide) ?_ ?_
  · intro args s m h hn
    obtain ⟨meth, c, h1, h2, h3, h4, h5, h6, -, -⟩ := Cond.code_spec hn (atoms_spec (ws := Jvm.Cond.code x code maxLocals ret :: tables_1) h _ List.mem_cons_self)
    exact ⟨meth, c, h1, h2, h3, h4, h5, h6⟩
  · intro p e s m args below meth c s₁ B hml0 hP _
    obtain ⟨rfl, hx, hbd, hgv⟩ := hP
    obtain ⟨scr, harrAt, hlist, hof, hsmall⟩ := hx
    obtain ⟨hcb, hkn, -, -⟩ := State.arrayAt?_spec harrAt
    have hown : s.vm.findClass R_law = some m.cls := findClass_of_methodNamed B.named
    have hts0 : ∀ c ∈ (Jvm.Cond.code x code maxLocals ret :: tables_1), c.before #[Value.ref b] s = true := atoms_spec (ws := Jvm.Cond.code x code maxLocals ret :: tables_1) B.pre
    have hts : ∀ w ∈ lw_tbl, w.before #[Value.ref b] s = true := k2_hts_sels lw_privs (fun w hw => hts0 w (List.mem_cons_of_mem _ hw)) lw_privs_ok
    have hml : c.maxLocals = 4 := B.maxLocals_eq (hts0 _ List.mem_cons_self)
    have X₀ : Stand p l e room_1 s m #[Value.ref b] below meth c s₁ [] 0 0 := Stand.of_body B
    have hh0 : s₁.heap = s.heap := by rw [B.state]; rfl
    have hsz : scr.slots.size = xs.length := by rw [← Array.length_toList, hlist, List.length_map]
    have hval : ∀ j : Nat, j < xs.length → scr.slots[j]? = some (.int (xs.getD j 0)) := fun j hj => by
      rw [← Array.getElem?_toList, hlist]
      simp [hj]
    have hbl : b < s.heap.size := (Array.getElem?_eq_some_iff.mp hcb).1
    have hX : va_X b xs.length (fun j => xs.getD j 0) s s.heap := ⟨scr, hcb, hof, hkn, hsz, hval⟩
    have K : W p l e room_1 s m #[Value.ref b] below meth c s₁.heap [] 0 0 (lw_Z below #[Value.ref b] s) (entryFrame m ([Value.ref b] : List Value).toArray 4) := by
      rw [hh0]
      exact whole_start l hflags hbd ⟨B.exec, B.bytes, B.returns, hml, hown, hts, hX, hbl, B.notSynchronized, hgv, hts0 _ List.mem_cons_self, (name_of_methodNamed B.named B.method).1⟩
    obtain ⟨t, a1, o, b1, b2, b3⟩ := K s₁ rfl X₀
    exact ⟨t, o, a1, b1, b2, b3⟩
theorem lw_pre_spec {args : Array Value} {s : State} (h : (Jvm.Cond.and given_1 narrow_1).before args s = true) (hr : rest_1_c.before args s = true) : ∃ (b : Addr) (xs : List Int32), lw_P b xs args s := by
  have hs := flat_of_before _ h
  have hq := flat_of_before _ hr
  have hc : (Cond.count 1).before args s = true := hs _ (by decide +kernel)
  have harr : (Cond.arrayOf (.arg 0) .int).before args s = true := hs _ (by decide +kernel)
  have hle : (Cond.le (.length (.arg 0)) (.int 260)).before args s = true := hs _ (by decide +kernel)
  have hlen : (Cond.isInt (.length (.arg 0))).before args s = true := hq _ (by decide +kernel)
  have hall : (Cond.all (.arg 0) (.isInt (.elem (.arg 0) (.index 0)))).before args s = true := hq _ (by decide +kernel)
  obtain ⟨b, xs, hb, hx⟩ := State.ints_of_pre rfl harr hlen hall
  have hsm : xs.length < 2 ^ 31 := hx.choose_spec.2.2.2
  have hev : (Term.length (.arg 0)).eval args s none [] s = some (.int xs.length.toInt32) := hx.length_eval hb
  have hv := Cond.le_ints hev (show (Term.int 260).eval args s none [] s = some (.int 260) from rfl)
  have hd : xs.length.toInt32 ≤ 260 := by
    simpa [Cond.before, Cond.holds, hv] using hle
  have hN : xs.length ≤ 260 := (Int32.ofNat_le_ofNat hsm (by decide)).mp (show Int32.ofNat xs.length ≤ Int32.ofNat 260 from hd)
  exact ⟨b, xs, Cond.one_arg hc (show args[0]? = some (.ref b) from hb), hx, hN, h⟩
theorem lw_comes (l : Launch) (hflags : l.flags = flags0) : Comes l x (Jvm.Cond.code x code maxLocals ret :: tables_1) room_1 (fun tb e args s => Calls_1 tb e args s ∧ rest_1 tb e args s ∧ Pre_1 tb e args s)
    (fun _ _ args s o t => lw_Q args s o t) := by
  intro p e ha hc hk s m args below hf hfit hheap happ hpre
  obtain ⟨b, xs, hP⟩ := lw_pre_spec hpre.2.2 hpre.2.1
  obtain ⟨k, o, h1, h2, h3, hQ⟩ := lw_walk l hflags b xs p e ha hc hk s m args below hf ((Spec.applies_iff_loose hf).mp happ).1 hP trivial
  exact ⟨k, o, h1, h2, h3, hQ⟩
theorem lw_frame {s t : State} {o : Outcome} {args : Array Value} (h : Framed s o t [] 600000 7302250) :
    Framed s o t (fieldLocs frame_1_writes args s ++ arrayLocs frame_1_arrays args s ++ staticLocs frame_1_statics s) 600000 7302250 := h
theorem lw_limb (L : Cond) (hL : ∀ (args : Array Value) (s t : State), L.after args s (.returned (some (.int 1))) t = true) :
    ArmFor flags0 classFile x code maxLocals ret World_1 tables_1 room_1 Calls_1 rest_1 Pre_1
      (fun tb e a s o t => postC L tb e a s o t ∧ Framed s o t (fieldLocs frame_1_writes a s ++ arrayLocs frame_1_arrays a s ++ staticLocs frame_1_statics s) 600000 7302250) := by
  intro l hflags _ _ p e ha hc hk s m args below hf hfit hheap happ hpre
  obtain ⟨k, o, h1, h2, h3, rfl, hF⟩ := lw_comes l hflags p e ha hc hk s m args below hf hfit hheap happ hpre
  exact ⟨k, _, h1, h2, h3, hL args s _, lw_frame hF⟩
theorem i_vc : Claimed_1_1 ∧ Claimed_1_2 := ⟨lw_limb limb_1_1 (fun args s t => by simp [limb_1_1, Cond.after, Cond.holds, Cond.value]), lw_limb limb_1_2 (fun args s t => Cond.after_iff.mpr (by
  first | (rw [show limb_1_2 = Cond.eq .result (.int 1) from rfl, Cond.eq_ints (x := 1) (y := 1) rfl rfl]; simp; done) | (simp [limb_1_2, Cond.value, Term.eval]; done)))⟩
