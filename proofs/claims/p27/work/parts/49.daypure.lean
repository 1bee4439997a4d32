/-! a day, as the reference goes about it: the booths by lot -/
theorem bop_sp (cr : Nat → Int32) (op : Nat → Prop) : ∀ k, (bopC cr op k).1 = -6 ∨ ∃ j, j < k ∧ op j ∧ (bopC cr op k).1 = nI j
  | 0 => Or.inl rfl
  | k + 1 => by
    by_cases c : (bopC cr op k).2 < cr k ∧ op k
    · rw [bopC_s cr op k c]
      exact Or.inr ⟨k, by omega, c.2, rfl⟩
    · rw [bopC_n cr op k c]
      rcases bop_sp cr op k with h | ⟨j, h1, h2, h3⟩
      · exact Or.inl h
      · exact Or.inr ⟨j, by omega, h2, h3⟩
theorem bst_S {a b : SV} (h : vS a = vS b) (tp : Nat → Int32) (x : Int32) : bst a tp x = bst b tp x := by
  unfold bst
  rw [h]
theorem upd_self {f : Nat → Int32} {b : Nat} {x : Int32} (h : f b = x) : upd f b x = f := by
  funext j
  by_cases e : j = b
  · subst e; rw [pk_us, h]
  · rw [pk_un e]
theorem inP_6 : ¬ inP (-6) := by
  rintro ⟨h, -⟩
  rw [ti_m6] at h
  omega
theorem st_put {w : SV} {n b : Nat} {tp : Nat → Int32} (h8 : n ≤ 8) (hb : b < n) (hb6 : vP w b = -6) (D : di_D w n) (pl : pl_D w n) (he : he_D w n) (hg : 0 ≤ vS w 4) (T : to_T w n 8 tp) (B : Int32) (hB : B = -6 ∨ ∃ j, j < 12 ∧ opP tp j (vS w 4) ∧ B = nI j) : to_T (ch_W w b B) n 8 (rsT tp B (vH w b)) ∧ di_D (ch_W w b B) n ∧ pl_D (ch_W w b B) n := by
  have eP : vP (ch_W w b B) = upd (vP w) b B := rfl
  have eH : vH (ch_W w b B) = vH w := rfl
  rcases hB with rfl | ⟨j, hj, ho, rfl⟩
  · have e : upd (vP w) b (-6) = vP w := upd_self hb6
    rw [e] at eP
    refine ⟨?_, ?_, ?_⟩
    · rw [rsT, if_neg inP_6]
      intro q hq
      rw [eP, eH]
      exact T q hq
    · intro i k
      rw [eP]
      exact D i k
    · intro k
      rw [eP]
      exact pl k
  · have D2 : di_D (ch_W w b (nI j)) n := di_put D hj ((fr_op h8 hj T pl he hg).mpr ho)
    have ebb : vP (ch_W w b (nI j)) b = nI j := by rw [eP, pk_us]
    refine ⟨?_, D2, ?_⟩
    · rw [rsT, if_pos (in_p hj), ix_nI (by omega)]
      intro q hq
      by_cases e : q = j
      · subst e
        rw [pk_us]
        refine ⟨fun k _ hk _ ek => ?_, fun h => absurd ebb (h b (by omega) hb (by omega))⟩
        rw [eH, D2 k b hk hb (fun z => nI_m6 (q := q) (by omega) (ek.symm.trans z)) (ek.trans ebb.symm)]
      · rw [pk_un e]
        obtain ⟨t1, t2⟩ := T q hq
        refine ⟨fun k k8 hk kx ek => ?_, fun h => t2 fun k k8 hk kx ek => ?_⟩
        · have kb : k ≠ b := fun z => by
            subst z
            exact e ((nI_eq (by omega) (by omega)).mp (ebb.symm.trans ek)).symm
          rw [eP, pk_un kb] at ek
          exact t1 k k8 hk kx ek
        · have kb : k ≠ b := fun z => by
            subst z
            exact nI_m6 (q := q) (by omega) (ek.symm.trans hb6)
          refine h k k8 hk kx ?_
          rw [eP, pk_un kb]
          exact ek
    · intro k hk
      rw [eP]
      by_cases e : k = b
      · subst e; rw [pk_us]; exact Or.inr (in_p hj)
      · rw [pk_un e]; exact pl k hk
/-- the first in the row of lots counts once more -/
def ff_W (w : SV) (k b : Nat) : SV := uF w (upd (vF w) b (vF w b + (if k = 0 then 1 else 0)))
/-- the State of the reference behind k lots: w0 before them, d the class's State with its lots -/
noncomputable def kw_W (d : SV) (n : Nat) (w0 : SV) (k : Nat) : SV := Nat.rec (motive := fun _ => SV) w0 (fun k w => ch_W (ff_W w k (ix (vL d k))) (ix (vL d k)) (bst d (chs d n k).1 (vH d (ix (vL d k))))) k
theorem kw_0 (d : SV) (n : Nat) (w0 : SV) : kw_W d n w0 0 = w0 := rfl
theorem kw_s (d : SV) (n : Nat) (w0 : SV) (k : Nat) : kw_W d n w0 (k + 1) = ch_W (ff_W (kw_W d n w0 k) k (ix (vL d k))) (ix (vL d k)) (bst d (chs d n k).1 (vH d (ix (vL d k)))) := rfl
/-- what a change of pitch and counts leaves -/
def sm_E (w v : SV) : Prop := vS w = vS v ∧ vX w = vX v ∧ vRo w = vRo v ∧ vDa w = vDa v ∧ vRa w = vRa v ∧ vTa w = vTa v ∧ vH w = vH v ∧ vT w = vT v ∧ vL w = vL v
theorem sm_ch (w : SV) (k b b' : Nat) (B : Int32) : sm_E (ch_W (ff_W w k b) b' B) w := ⟨rfl, rfl, rfl, rfl, rfl, rfl, rfl, rfl, rfl⟩
theorem sm_ff (w : SV) (k b : Nat) : sm_E (ff_W w k b) w := ⟨rfl, rfl, rfl, rfl, rfl, rfl, rfl, rfl, rfl⟩
theorem sm_tr {a b c : SV} (h : sm_E a b) (h2 : sm_E b c) : sm_E a c := by
  obtain ⟨a1, a2, a3, a4, a5, a6, a7, a8, a9⟩ := h
  obtain ⟨b1, b2, b3, b4, b5, b6, b7, b8, b9⟩ := h2
  exact ⟨a1.trans b1, a2.trans b2, a3.trans b3, a4.trans b4, a5.trans b5, a6.trans b6, a7.trans b7, a8.trans b8, a9.trans b9⟩
theorem sm_kw (d : SV) (n : Nat) (w0 : SV) : ∀ k, sm_E (kw_W d n w0 k) w0
  | 0 => ⟨rfl, rfl, rfl, rfl, rfl, rfl, rfl, rfl, rfl⟩
  | k + 1 => by
    rw [kw_s]
    exact sm_tr (sm_ch _ _ _ _ _) (sm_kw d n w0 k)
abbrev dn_K (f : Nat → Int32) (k b : Nat) : Prop := ∃ i, i < k ∧ f i = nI b
/-- how the reference's State and the class's tops and places stand behind k lots -/
def kw_I (d : SV) (n : Nat) (w0 : SV) (k : Nat) (w : SV) : Prop :=
  (∀ b, b < n → dn_K (vL d) k b → vP w b = (chs d n k).2 b ∧ vI w b = (if (chs d n k).2 b = -6 then vI w0 b + 1 else vI w0 b)) ∧
  (∀ b, b < n → ¬ dn_K (vL d) k b → vP w b = -6 ∧ vI w b = vI w0 b) ∧ to_T w n 8 (chs d n k).1 ∧ di_D w n ∧ pl_D w n ∧
  ∀ b, vF w b = if 0 < k then upd (vF w0) (ix (vL d 0)) (vF w0 (ix (vL d 0)) + 1) b else vF w0 b
theorem add_0' (x : Int32) : x + 0 = x := by
  refine Int32.toInt_inj.mp ?_
  simp
theorem kw_inv {d : SV} {n : Nat} {w0 : SV} (h8 : n ≤ 8) (L : pe_D n (vL d)) (eS : vS w0 = vS d) (eH : vH w0 = vH d) (he : he_D d n) (hg : 0 ≤ vS d 4) (h6 : ∀ b, b < n → vP w0 b = -6) : ∀ k, k ≤ n → kw_I d n w0 k (kw_W d n w0 k)
  | 0, _ => by
    refine ⟨fun b _ h => ?_, fun b hb _ => ⟨h6 b hb, rfl⟩, ?_, fun i k hi hk hn => absurd (h6 i hi) hn, fun b hb => Or.inl (h6 b hb), fun _ => rfl⟩
    · obtain ⟨i, hi, -⟩ := h
      exact absurd hi (Nat.not_lt_zero i)
    · intro q hq
      exact ⟨fun k _ hk _ e => absurd ((h6 k hk).symm.trans e).symm (nI_m6 (by omega)), fun _ => rfl⟩
  | k + 1, hk => by
    have I := kw_inv h8 L eS eH he hg h6 k (by omega)
    rw [kw_s]
    obtain ⟨b, hb, eb⟩ := L.1 k (by omega)
    have ebx : ix (vL d k) = b := by rw [eb, ix_nI (by omega)]
    have ec : chs d n (k + 1) = (rsT (chs d n k).1 (bst d (chs d n k).1 (vH d b)) (vH d b), upd (chs d n k).2 b (bst d (chs d n k).1 (vH d b))) := by
      have := chs_y (v := d) (n := n) (k := k) (tp := (chs d n k).1) (pl := (chs d n k).2) rfl rfl (by rw [eb]; exact bk_j h8 hb) rfl
      rw [ebx] at this
      exact this
    rw [ebx]
    unfold kw_I
    rw [ec]
    generalize hB : bst d (chs d n k).1 (vH d b) = B
    have hB2 : B = -6 ∨ ∃ j, j < 12 ∧ opP (chs d n k).1 j (vS d 4) ∧ B = nI j := by
      subst hB
      exact bop_sp _ _ 12
    obtain ⟨i1, i2, i3, i4, i5, i6⟩ := I
    have E := sm_kw d n w0 k
    generalize kw_W d n w0 k = w at i1 i2 i3 i4 i5 i6 E ⊢
    generalize (chs d n k).1 = tp at i1 i2 i3 i4 i5 i6 hB2 ⊢
    generalize (chs d n k).2 = P at i1 i2 i3 i4 i5 i6 ⊢
    have nd : ¬ dn_K (vL d) k b := fun ⟨i, hi, e⟩ => by
      have := L.2.1 i k (by omega) (by omega) (e.trans eb.symm)
      omega
    have hb6 := (i2 b hb nd).1
    have S : vS w = vS d := E.1.trans eS
    have H : vH w = vH d := E.2.2.2.2.2.2.1.trans eH
    have st := st_put (w := ff_W w k b) (tp := tp) h8 hb hb6 i4 i5 (fun x hx => by rw [show vH (ff_W w k b) = vH d from H]; exact he x hx) (by rw [show vS (ff_W w k b) = vS d from S]; exact hg) i3 B (by rw [show vS (ff_W w k b) = vS d from S]; exact hB2)
    rw [show vH (ff_W w k b) b = vH d b by rw [show vH (ff_W w k b) = vH d from H]] at st
    have eP : vP (ch_W (ff_W w k b) b B) = upd (vP w) b B := rfl
    have eI : vI (ch_W (ff_W w k b) b B) = upd (vI w) b (vI w b + (if B = -6 then 1 else 0)) := rfl
    have eF : vF (ch_W (ff_W w k b) b B) = upd (vF w) b (vF w b + (if k = 0 then 1 else 0)) := rfl
    refine ⟨fun c hc h => ?_, fun c hc h => ?_, st.1, st.2.1, st.2.2, fun c => ?_⟩
    · show _ = upd P b B c ∧ _ = if upd P b B c = -6 then _ else _
      rw [eP, eI]
      by_cases e : c = b
      · subst e
        rw [pk_us, pk_us, pk_us, (i2 c hc nd).2]
        refine ⟨rfl, ?_⟩
        by_cases e6 : B = -6
        · rw [if_pos e6, if_pos e6]
        · rw [if_neg e6, if_neg e6, add_0']
      · rw [pk_un e, pk_un e, pk_un e]
        obtain ⟨i, hi, ei⟩ := h
        refine i1 c hc ⟨i, ?_, ei⟩
        by_cases ik : i = k
        · subst ik
          exact absurd ((nI_eq (by omega) (by omega)).mp (ei.symm.trans eb)) e
        · omega
    · have e : c ≠ b := fun z => h ⟨k, by omega, by rw [z]; exact eb⟩
      rw [eP, eI, pk_un e, pk_un e]
      exact i2 c hc fun ⟨i, hi, ei⟩ => h ⟨i, by omega, ei⟩
    · rw [eF, if_pos (show 0 < k + 1 by omega)]
      by_cases k0 : k = 0
      · subst k0
        rw [if_pos rfl, show ix (vL d 0) = b from ebx]
        have f0 : vF w = vF w0 := funext fun x => i6 x
        rw [f0]
      · rw [if_neg k0, add_0', upd_self rfl, i6 c, if_pos (show 0 < k by omega)]
theorem chs_end {d : SV} {n : Nat} (L : pe_D n (vL d)) : ∀ m, n + m ≤ 8 → chs d n (n + m) = chs d n n
  | 0, _ => rfl
  | m + 1, h => by
    have e := L.2.2.1 (n + m) (by omega) (by omega)
    rw [← chs_end L m (by omega), show n + (m + 1) = n + m + 1 by omega, chs_s, chstep, if_neg]
    rw [e]
    rintro ⟨z, -⟩
    rw [ti_m6] at z
    omega
theorem kw_end {d : SV} {n : Nat} {w0 : SV} (h8 : n ≤ 8) (L : pe_D n (vL d)) {w : SV} (I : kw_I d n w0 n w) : (∀ b, b < n → vP w b = (chs d n 8).2 b ∧ vI w b = (if (chs d n 8).2 b = -6 then vI w0 b + 1 else vI w0 b)) ∧ to_T w n 8 (chs d n 8).1 := by
  have e : chs d n 8 = chs d n n := by
    have := chs_end L (8 - n) (by omega)
    rw [show n + (8 - n) = 8 by omega] at this
    exact this
  rw [e]
  refine ⟨fun b hb => I.1 b hb ?_, I.2.2.1⟩
  obtain ⟨k, hk, ek⟩ := L.2.2.2 b hb
  exact ⟨k, hk, ek⟩
