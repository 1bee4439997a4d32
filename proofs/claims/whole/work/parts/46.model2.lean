/-! the reference: who stops where -/
/-- no two that stand share a pitch; all stand at pitches -/
def di_D (w : SV) (n : Nat) : Prop := ∀ j k, j < n → k < n → vP w j ≠ -6 → vP w j = vP w k → j = k
def pl_D (w : SV) (n : Nat) : Prop := ∀ k, k < n → vP w k = -6 ∨ inP (vP w k)
/-- the tops without the booth x -/
def to_K (w : SV) (n x m : Nat) (tp : Nat → Int32) : Prop := ∀ q, q < 12 → (∀ k, k < m → k < n → k ≠ x → vP w k = nI q → tp q = vH w k) ∧ ((∀ k, k < m → k < n → k ≠ x → vP w k ≠ nI q) → tp q = 0)
abbrev to_T (w : SV) (n x : Nat) (tp : Nat → Int32) : Prop := to_K w n x 8 tp
def tpV (w : SV) (n q : Nat) : Int32 := match ffi (atQ w n (nI q)) 8 0 with
  | none => 0
  | some k => vH w k
theorem nI_m6 {q : Nat} (h : q < 100) : nI q ≠ -6 := by
  intro z
  have := congrArg Int32.toInt z
  rw [ti_m6, nI_toInt (by omega)] at this
  omega
theorem atQ_t {w : SV} {n q k : Nat} (hq : q < 12) (h1 : k < n) (h2 : vP w k = nI q) : atQ w n (nI q) k = true := decide_eq_true ⟨⟨h1, fun z => nI_m6 (q := q) (by omega) (h2.symm.trans z)⟩, h2⟩
theorem atQ_s {w : SV} {n q k : Nat} (h : atQ w n (nI q) k = true) : k < n ∧ vP w k = nI q := by
  have := of_decide_eq_true h
  exact ⟨this.1.1, this.2⟩
theorem tp_some {w : SV} {n q k : Nat} (D : di_D w n) (h8 : n ≤ 8) (hq : q < 12) (h1 : k < n) (h2 : vP w k = nI q) : ffi (atQ w n (nI q)) 8 0 = some k := by
  cases e : ffi (atQ w n (nI q)) 8 0 with
  | none =>
    have := ffi_none 8 0 e k (by omega) (by omega)
    rw [atQ_t hq h1 h2] at this
    cases this
  | some j =>
    obtain ⟨-, h3, h4, -⟩ := ffi_spec 8 0 j e
    obtain ⟨h5, h6⟩ := atQ_s h4
    rw [D j k h5 h1 (fun z => nI_m6 (q := q) (by omega) (h6.symm.trans z)) (h6.trans h2.symm)]
theorem to_tpV {w : SV} {n : Nat} (D : di_D w n) (h8 : n ≤ 8) : to_T w n 8 (tpV w n) := by
  intro q hq
  refine ⟨fun k _ h1 _ h2 => ?_, fun h => ?_⟩
  · unfold tpV
    rw [tp_some D h8 hq h1 h2]
  · unfold tpV
    cases e : ffi (atQ w n (nI q)) 8 0 with
    | none => rfl
    | some j =>
      obtain ⟨-, h3, h4, -⟩ := ffi_spec 8 0 j e
      obtain ⟨h5, h6⟩ := atQ_s h4
      exact absurd h6 (h j (by omega) h5 (by omega))
theorem to_lk {w : SV} {n x : Nat} {wx : Int32} (D : di_D w n) (hx : ∀ k, k < 8 → (nI k = wx ↔ k = x)) : ∀ m, m ≤ 8 → to_K w n x m (lkT w n wx m)
  | 0, _ => fun q hq => ⟨fun k h => absurd h (Nat.not_lt_zero k), fun _ => rfl⟩
  | m + 1, hm => by
    have ih := to_lk D hx m (by omega)
    intro q hq
    obtain ⟨i1, i2⟩ := ih q hq
    rw [lkT]
    by_cases c : ¬ nI m = wx ∧ stP w n m
    · rw [if_pos c]
      have hmx : m ≠ x := fun z => c.1 ((hx m (by omega)).mpr z)
      unfold rsT
      by_cases ip : inP (vP w m)
      · rw [if_pos ip]
        have e : vP w m = nI (ix (vP w m)) := ix_eq ip.1
        by_cases eq : q = ix (vP w m)
        · subst eq
          refine ⟨fun k h1 h2 h3 h4 => ?_, fun h => absurd e (h m (by omega) c.2.1 hmx)⟩
          rw [pk_us]
          by_cases ek : k = m
          · rw [ek]
          · exact absurd (D k m h2 c.2.1 (fun z => c.2.2 ((e.trans h4.symm).trans z)) (h4.trans e.symm)) ek
        · have ne : vP w m ≠ nI q := fun z => eq ((nI_eq (by omega) (by have := ip; unfold ix; omega)).mp (z.symm.trans e))
          rw [pk_un eq]
          refine ⟨fun k h1 h2 h3 h4 => ?_, fun h => i2 fun k h1 h2 h3 => h k (by omega) h2 h3⟩
          by_cases ek : k = m
          · subst ek; exact absurd h4 ne
          · exact i1 k (by omega) h2 h3 h4
      · rw [if_neg ip]
        have ne : vP w m ≠ nI q := fun z => ip (by rw [z]; exact in_p hq)
        refine ⟨fun k h1 h2 h3 h4 => ?_, fun h => i2 fun k h1 h2 h3 => h k (by omega) h2 h3⟩
        by_cases ek : k = m
        · subst ek; exact absurd h4 ne
        · exact i1 k (by omega) h2 h3 h4
    · rw [if_neg c]
      have no : m < n → m ≠ x → vP w m = nI q → False := fun a1 a2 a3 => c ⟨fun z => a2 ((hx m (by omega)).mp z), a1, fun z => nI_m6 (q := q) (by omega) (a3.symm.trans z)⟩
      refine ⟨fun k h1 h2 h3 h4 => ?_, fun h => i2 fun k h1 h2 h3 => h k (by omega) h2 h3⟩
      by_cases ek : k = m
      · subst ek; exact (no h2 h3 h4).elim
      · exact i1 k (by omega) h2 h3 h4
theorem to_lkT {w : SV} {n b : Nat} (D : di_D w n) (hb : b < 8) : to_T w n b (lkT w n (nI b) 8) :=
  to_lk D (fun k hk => nI_eq (by omega) (by omega)) 8 (Nat.le_refl 8)
theorem to_lk6 {w : SV} {n : Nat} (D : di_D w n) : to_T w n 8 (lkT w n (-6) 8) :=
  to_lk D (fun k hk => ⟨fun z => absurd z (nI_m6 (by omega)), fun z => by omega⟩) 8 (Nat.le_refl 8)
theorem to_uniq {w : SV} {n x : Nat} {t t' : Nat → Int32} (h8 : n ≤ 8) (h : to_T w n x t) (h' : to_T w n x t') {q : Nat} (hq : q < 12) : t q = t' q := by
  by_cases c : ∃ k, k < n ∧ k ≠ x ∧ vP w k = nI q
  · obtain ⟨k, c1, c2, c3⟩ := c
    rw [(h q hq).1 k (by omega) c1 c2 c3, (h' q hq).1 k (by omega) c1 c2 c3]
  · rw [(h q hq).2 fun k _ c1 c2 c3 => c ⟨k, c1, c2, c3⟩, (h' q hq).2 fun k _ c1 c2 c3 => c ⟨k, c1, c2, c3⟩]
/-- the same tops but at the pitch of a booth that is put there -/
theorem to_move {w : SV} {n b j : Nat} {t t' : Nat → Int32} (h8 : n ≤ 8) (hb : b < n) (h : to_T w n b t) (h' : to_T (uP w (upd (vP w) b (nI j))) n 8 t') (hj : j < 12) {q : Nat} (hq : q < 12) (hne : q ≠ j) : t q = t' q := by
  by_cases c : ∃ k, k < n ∧ k ≠ b ∧ vP w k = nI q
  · obtain ⟨k, c1, c2, c3⟩ := c
    rw [(h q hq).1 k (by omega) c1 c2 c3, (h' q hq).1 k (by omega) c1 (by omega) ((pk_un c2).trans c3)]
    rfl
  · rw [(h q hq).2 fun k _ c1 c2 c3 => c ⟨k, c1, c2, c3⟩, (h' q hq).2 fun k _ c1 c2 c3 => ?_]
    by_cases e : k = b
    · subst e
      have c3 : upd (vP w) k (nI j) k = nI q := c3
      rw [pk_us] at c3
      exact hne ((nI_eq (by omega) (by omega)).mp c3).symm
    · have c3 : upd (vP w) b (nI j) k = nI q := c3
      rw [pk_un e] at c3
      exact c ⟨k, c1, e, c3⟩
theorem wk_cong {t t' : Nat → Int32} {w s : Int32} : ∀ k, (∀ j, j < k → t j = t' j) → wk t w s k = wk t' w s k
  | 0, _ => rfl
  | k + 1, h => by
    have ih := wk_cong (w := w) (s := s) k (fun j hj => h j (by omega))
    rw [wk, wk, ih, h k (by omega)]
theorem wk_nn {t : Nat → Int32} {w s : Int32} : ∀ k, 0 ≤ (wk t w s k).2
  | 0 => Int32.le_refl 0
  | k + 1 => by
    rw [wk]
    by_cases c : (wk t w s k).2 < t k
    · rw [if_pos c]
      exact Int32.le_of_lt (Int32.lt_of_le_of_lt (wk_nn k) c)
    · rw [if_neg c]
      exact wk_nn k
theorem stpV_cong {l : Int32} {t t' : Nat → Int32} {w s p h : Int32} (e : ∀ q, q < 12 → nI q ≠ p → t q = t' q) : stpV (arF l t w s) (taF l t w s) s p h = stpV (arF l t' w s) (taF l t' w s) s p h := by
  unfold stpV
  by_cases c : inP p
  · have ep : p = nI (ix p) := ix_eq c.1
    have lp : ix p < 12 := by have := c; unfold ix; omega
    have hw : wkt l t w s (pi l (ix p)) = wkt l t' w s (pi l (ix p)) := by
      refine wk_cong _ (fun j hj => e _ (pi_lt (by have := pi_lt (l := l) lp; omega)) (fun z => ?_))
      rw [ep] at z
      have z2 := (nI_eq (by have := pi_lt (l := l) (k := j) (by have := pi_lt (l := l) lp; omega); omega) (by omega)).mp z
      have := pi_pi (l := l) (k := j) (by have := pi_lt (l := l) lp; omega)
      rw [z2] at this
      omega
    unfold arF taF
    rw [hw]
  · rw [if_neg (fun z => c z.1), if_neg (fun z => c z.1)]
theorem crA_cong {v : SV} {t t' : Nat → Int32} {p h : Int32} (e : ∀ q, q < 12 → nI q ≠ p → t q = t' q) : crA v t p h = crA v t' p h := by
  unfold crA
  rw [stpV_cong e, stpV_cong e]
theorem paF_cong {l : Int32} {t t' : Nat → Int32} {w s : Int32} (e : ∀ q, q < 12 → t q = t' q) : paF l t w s = paF l t' w s := by
  unfold paF
  rw [show wkt l t w s 12 = wkt l t' w s 12 from wk_cong 12 (fun j hj => e _ (pi_lt hj))]
/-- what the stops are behind k steps -/
def go_I (w : SV) (n : Nat) (l W sh : Int32) (sd : Nat) (st0 : Nat → Int32) (k : Nat) (st : Nat → Int32) : Prop :=
  (∀ b, b < n → st (2 * b + sd) = if inP (vP w b) ∧ pi l (ix (vP w b)) < k then stpV (arF l (tpV w n) W sh) (taF l (tpV w n) W sh) sh (vP w b) (vH w b) else 0) ∧ ∀ b, st (2 * b + (1 - sd)) = st0 (2 * b + (1 - sd))
theorem go_at {w : SV} {l : Int32} {b k : Nat} (hk : k < 12) (hp : inP (vP w b)) (e : pi l (ix (vP w b)) = k) : vP w b = nI (pi l k) := by
  rw [← e, pi_pi (by have := hp; unfold ix; omega)]
  exact ix_eq hp.1
theorem go_skip {w : SV} {n : Nat} {l W sh : Int32} {sd : Nat} {st0 st : Nat → Int32} {k : Nat} (hk : k < 12) (h : ∀ b, b < n → vP w b = nI (pi l k) → ¬ (wkt l (tpV w n) W sh k).2 < vH w b) (I : go_I w n l W sh sd st0 k st) : go_I w n l W sh sd st0 (k + 1) st := by
  refine ⟨fun b hb => ?_, I.2⟩
  rw [I.1 b hb]
  by_cases c : inP (vP w b)
  · by_cases e : pi l (ix (vP w b)) = k
    · rw [if_neg (by omega), if_pos ⟨c, by omega⟩, stpV, if_neg]
      rintro ⟨-, z⟩
      unfold taF at z
      rw [e] at z
      exact h b hb (go_at hk c e) z
    · by_cases e2 : pi l (ix (vP w b)) < k
      · rw [if_pos ⟨c, e2⟩, if_pos ⟨c, by omega⟩]
      · rw [if_neg (by omega), if_neg (by omega)]
  · rw [if_neg (fun z => c z.1), if_neg (fun z => c z.1)]
theorem go_put {w : SV} {n : Nat} {l W sh : Int32} {sd : Nat} {st0 st : Nat → Int32} {k b0 : Nat} (hs : sd ≤ 1) (D : di_D w n) (hk : k < 12) (hb0 : b0 < n) (hp : vP w b0 = nI (pi l k)) (h : (wkt l (tpV w n) W sh k).2 < vH w b0) (I : go_I w n l W sh sd st0 k st) : go_I w n l W sh sd st0 (k + 1) (upd st (2 * b0 + sd) ((wkt l (tpV w n) W sh k).1 * sh / 100)) := by
  have ip : inP (vP w b0) := by rw [hp]; exact in_p (pi_lt hk)
  have ei : pi l (ix (vP w b0)) = k := by rw [hp, ix_nI (by have := pi_lt (l := l) hk; omega), pi_pi hk]
  refine ⟨fun b hb => ?_, fun b => (pk_un (by omega)).trans (I.2 b)⟩
  by_cases eb : b = b0
  · subst eb
    rw [pk_us, if_pos ⟨ip, by omega⟩, stpV, if_pos]
    · unfold arF
      rw [ei]
    · refine ⟨ip, ?_⟩
      unfold taF
      rw [ei]
      exact h
  · rw [pk_un (by omega), I.1 b hb]
    by_cases c : inP (vP w b)
    · have ne : pi l (ix (vP w b)) ≠ k := fun e => eb (D b b0 hb hb0 (fun z => nI_m6 (q := pi l k) (by have := pi_lt (l := l) hk; omega) ((go_at hk c e).symm.trans z)) ((go_at hk c e).trans hp.symm))
      by_cases e2 : pi l (ix (vP w b)) < k
      · rw [if_pos ⟨c, e2⟩, if_pos ⟨c, by omega⟩]
      · rw [if_neg (by omega), if_neg (by omega)]
    · rw [if_neg (fun z => c z.1), if_neg (fun z => c z.1)]
theorem go_0 {w : SV} {n : Nat} {l W sh : Int32} {sd : Nat} {st : Nat → Int32} (h : ∀ b, b < n → st (2 * b + sd) = 0) : go_I w n l W sh sd st 0 st :=
  ⟨fun b hb => by rw [h b hb, if_neg (by omega)], fun _ => rfl⟩
theorem go_12 {w : SV} {n : Nat} {l W sh : Int32} {sd : Nat} {st0 st : Nat → Int32} (I : go_I w n l W sh sd st0 12 st) : ∀ b, b < n → st (2 * b + sd) = stpV (arF l (tpV w n) W sh) (taF l (tpV w n) W sh) sh (vP w b) (vH w b) := by
  intro b hb
  rw [I.1 b hb]
  by_cases c : inP (vP w b)
  · rw [if_pos ⟨c, pi_lt (by have := c; unfold ix; omega)⟩]
  · rw [if_neg (fun z => c z.1), stpV, if_neg (fun z => c z.1)]
theorem wk_y {t : Nat → Int32} {w s : Int32} {k : Nat} {r h x : Int32} (e1 : r = (wk t w s k).1) (e2 : h = (wk t w s k).2) (ex : x = t k) (c : h < x) : r - r * s / 100 = (wk t w s (k + 1)).1 ∧ x = (wk t w s (k + 1)).2 := by
  subst e1
  subst e2
  subst ex
  rw [wk, if_pos c]
  exact ⟨rfl, rfl⟩
theorem wk_n {t : Nat → Int32} {w s : Int32} {k : Nat} {r h x : Int32} (e1 : r = (wk t w s k).1) (e2 : h = (wk t w s k).2) (ex : x = t k) (c : ¬ h < x) : r = (wk t w s (k + 1)).1 ∧ h = (wk t w s (k + 1)).2 := by
  subst e1
  subst e2
  subst ex
  rw [wk, if_neg c]
  exact ⟨rfl, rfl⟩
set_option maxHeartbeats 4000000 in
set_option maxRecDepth 100000 in
theorem lX7_goes0_23 (h0 : am_H) (q : RV) (p n : Nat) (hp : p ≤ 60) (w : SV) (R : ro_R p n w (rq_S q)) (h8 : n ≤ 8) (D : di_D w n) : ∀ (d k : Nat) (r h : Int32) (o6 o7 : Option Value) (st : Nat → Int32), k + d = 12 → r = (wkt 1 (tpV w n) (vS w 0) (vS w 2) k).1 → h = (wkt 1 (tpV w n) (vS w 0) (vS w 2) k).2 → go_I w n 1 (vS w 0) (vS w 2) 0 (rq_T q) k st → am_RW mX7_goes h0 (fun r h1 => ∃ st, r = some (.int (paF 1 (tpV w n) (vS w 0) (vS w 2))) ∧ h1 = md_H (ru_T q st) ∧ (∀ b, b < n → st (2 * b + 0) = stpV (arF 1 (tpV w n) (vS w 0) (vS w 2)) (taF 1 (tpV w n) (vS w 0) (vS w 2)) (vS w 2) (vP w b) (vH w b)) ∧ ∀ b, st (2 * b + (1 - 0)) = rq_T q (2 * b + (1 - 0))) 0 0 23 [some (.ref 2), some (.int (nI p)), some (.int 0), some (.int r), some (.int h), some (.int (nI k)), o6, o7] [] (md_H (ru_T q st)) := by
  intro d
  induction d with
  | zero =>
    intro k r h o6 o7 st hk er eh I
    have e : k = 12 := by omega
    subst e
    refine ar_iload (pc := 23) dX7_goes_23 rfl ?_
    refine ar_bipush (pc := 25) dX7_goes_25 q_bipush_12 ?_
    refine ar_icmp_ge (pc := 27) (tgt := 132) dX7_goes_27 (by decide) (fun c27 => ?_) (fun c27 => False.elim (by (simp (disch := omega) only [Int32.lt_iff_toInt_lt, Int32.le_iff_toInt_le, ← Int32.toInt_inj, ti_m6, ti_m1, ti_0, ti_1, ti_2, ti_3, ti_4, ti_5, ti_6, ti_7, ti_8, ti_9, ti_12, ti_100, ti_9999, ti_60, nI_toInt] at c27); omega))
    refine ar_iload_n (i := 3) (pc := 132) dX7_goes_132 rfl rfl ?_
    exact ar_iret (pc := 133) dX7_goes_133 rfl rfl rfl ⟨st, by rw [er]; rfl, rfl, go_12 I, I.2⟩
  | succ d ih =>
    intro k r h o6 o7 st hk er eh I
    have hk12 : k < 12 := by omega
    have hba := sX7_boothAt (ru_T q st) p n hp w R h8 (pi 1 k) (pi_lt hk12)
    rw [show nI (pi 1 k) = nI k by unfold pi; rfl] at hba
    cases eo : ffi (atQ w n (nI (pi 1 k))) 8 0 with
    | none =>
      rw [show ffi (atQ w n (nI k)) 8 0 = none from eo] at hba
      refine ar_iload (pc := 23) dX7_goes_23 rfl ?_
      refine ar_bipush (pc := 25) dX7_goes_25 q_bipush_12 ?_
      refine ar_icmp_ge (pc := 27) (tgt := 132) dX7_goes_27 (by decide) (fun c27 => False.elim (by (simp (disch := omega) only [Int32.lt_iff_toInt_lt, Int32.le_iff_toInt_le, ← Int32.toInt_inj, ti_m6, ti_m1, ti_0, ti_1, ti_2, ti_3, ti_4, ti_5, ti_6, ti_7, ti_8, ti_9, ti_12, ti_100, ti_9999, ti_60, nI_toInt] at c27); omega)) (fun c27 => ?_)
      refine ar_aload_n (i := 0) (pc := 30) dX7_goes_30 rfl rfl ?_
      refine ar_iload_n (i := 1) (pc := 31) dX7_goes_31 rfl rfl ?_
      refine ar_iload_n (i := 2) (pc := 32) dX7_goes_32 rfl rfl ?_
      refine ar_if_ne (pc := 33) (tgt := 41) dX7_goes_33 (by decide) (fun c33 => absurd rfl c33) (fun c33 => ?_)
      refine ar_iload (pc := 36) dX7_goes_36 rfl ?_
      refine ar_goto (tgt := 46) (pc := 38) dX7_goes_38 (by decide) ?_
      refine ar_idV (pc := 46) dX7_goes_46 cal_X7_boothAt kX7_44 rfl (hba) rfl rfl rfl rfl rfl rfl rfl (fun r h1 hp => ?_)
      obtain ⟨rfl, rfl⟩ := hp
      refine ⟨rfl, ?_⟩
      refine ar_istore (pc := 49) dX7_goes_49 (Nat.le_of_ble_eq_true rfl) rfl ?_
      refine ar_iload (pc := 51) dX7_goes_51 rfl ?_
      refine ar_bipush (pc := 53) dX7_goes_53 q_bipush_m6 ?_
      refine ar_icmp_ne (pc := 55) (tgt := 62) dX7_goes_55 (by decide) (fun c55 => absurd rfl c55) (fun c55 => ?_)
      refine ar_iconst (pc := 58) dX7_goes_58 q_iconst_0 ?_
      refine ar_goto (tgt := 75) (pc := 59) dX7_goes_59 (by decide) ?_
      refine ar_istore (pc := 75) dX7_goes_75 (Nat.le_of_ble_eq_true rfl) rfl ?_
      refine ar_iload (pc := 77) dX7_goes_77 rfl ?_
      refine ar_iload (pc := 79) dX7_goes_79 rfl ?_
      refine ar_icmp_le (pc := 81) (tgt := 126) dX7_goes_81 (by decide) (fun c81 => ?_) (fun c81 => absurd (by rw [eh]; exact wk_nn k) c81)
      refine ar_iinc (pc := 126) dX7_goes_126 rfl (ni_inc _) (Nat.le_of_ble_eq_true rfl) rfl ?_
      refine ar_goto (tgt := 23) (pc := 129) dX7_goes_129 (by decide) ?_
      obtain ⟨f1, f2⟩ := wk_n (t := fun k => tpV w n (pi 1 k)) er eh (show (0 : Int32) = tpV w n (pi 1 k) by unfold tpV; rw [eo]) (Int32.not_lt.mpr c81)
      exact ih (k + 1) r h _ _ st (by omega) f1 f2 (go_skip hk12 (fun b hb z => by rw [tp_some D h8 (pi_lt hk12) hb z] at eo; cases eo) I)
    | some b =>
      obtain ⟨-, hb8, hat, -⟩ := ffi_spec 8 0 b eo
      obtain ⟨hbn, hpb⟩ := atQ_s hat
      rw [show ffi (atQ w n (nI k)) 8 0 = some b from eo, show o2i (some b) = nI b from rfl] at hba
      refine ar_iload (pc := 23) dX7_goes_23 rfl ?_
      refine ar_bipush (pc := 25) dX7_goes_25 q_bipush_12 ?_
      refine ar_icmp_ge (pc := 27) (tgt := 132) dX7_goes_27 (by decide) (fun c27 => False.elim (by (simp (disch := omega) only [Int32.lt_iff_toInt_lt, Int32.le_iff_toInt_le, ← Int32.toInt_inj, ti_m6, ti_m1, ti_0, ti_1, ti_2, ti_3, ti_4, ti_5, ti_6, ti_7, ti_8, ti_9, ti_12, ti_100, ti_9999, ti_60, nI_toInt] at c27); omega)) (fun c27 => ?_)
      refine ar_aload_n (i := 0) (pc := 30) dX7_goes_30 rfl rfl ?_
      refine ar_iload_n (i := 1) (pc := 31) dX7_goes_31 rfl rfl ?_
      refine ar_iload_n (i := 2) (pc := 32) dX7_goes_32 rfl rfl ?_
      refine ar_if_ne (pc := 33) (tgt := 41) dX7_goes_33 (by decide) (fun c33 => absurd rfl c33) (fun c33 => ?_)
      refine ar_iload (pc := 36) dX7_goes_36 rfl ?_
      refine ar_goto (tgt := 46) (pc := 38) dX7_goes_38 (by decide) ?_
      refine ar_idV (pc := 46) dX7_goes_46 cal_X7_boothAt kX7_44 rfl (hba) rfl rfl rfl rfl rfl rfl rfl (fun r h1 hp => ?_)
      obtain ⟨rfl, rfl⟩ := hp
      refine ⟨rfl, ?_⟩
      refine ar_istore (pc := 49) dX7_goes_49 (Nat.le_of_ble_eq_true rfl) rfl ?_
      refine ar_iload (pc := 51) dX7_goes_51 rfl ?_
      refine ar_bipush (pc := 53) dX7_goes_53 q_bipush_m6 ?_
      refine ar_icmp_ne (pc := 55) (tgt := 62) dX7_goes_55 (by decide) (fun c55 => ?_) (fun c55 => absurd c55 (nI_m6 (q := b) (by omega)))
      refine ar_aload_n (i := 0) (pc := 62) dX7_goes_62 rfl rfl ?_
      refine ar_getf (pc := 63) dX7_goes_63 fX7_7 rfl rfl ?_
      refine ar_iload_n (i := 1) (pc := 66) dX7_goes_66 rfl rfl ?_
      refine ar_iload (pc := 67) dX7_goes_67 rfl ?_
      refine ar_idS (pc := 69) dX7_goes_69 cal_X7_at kX7_36 rfl (sX7_at (md_H (ru_T q st)) p b) rfl rfl rfl rfl rfl (fun r h1 hp => ?_)
      obtain ⟨rfl, rfl⟩ := hp
      refine ⟨rfl, ?_⟩
      refine ar_iconst (pc := 72) dX7_goes_72 q_iconst_0 ?_
      refine ar_iadd (pc := 73) dX7_goes_73 ?_
      refine ar_iald (pc := 74) dX7_goes_74 rfl (show p + 20 + 5 * b < 120 by omega) (nI_add _ 0) ?_
      rw [rq_ST, roH R hbn]
      refine ar_istore (pc := 75) dX7_goes_75 (Nat.le_of_ble_eq_true rfl) rfl ?_
      refine ar_iload (pc := 77) dX7_goes_77 rfl ?_
      refine ar_iload (pc := 79) dX7_goes_79 rfl ?_
      refine ar_icmp_le (pc := 81) (tgt := 126) dX7_goes_81 (by decide) (fun c81 => ?_) (fun c81 => ?_)
      · refine ar_iinc (pc := 126) dX7_goes_126 rfl (ni_inc _) (Nat.le_of_ble_eq_true rfl) rfl ?_
        refine ar_goto (tgt := 23) (pc := 129) dX7_goes_129 (by decide) ?_
        obtain ⟨f1, f2⟩ := wk_n (t := fun k => tpV w n (pi 1 k)) er eh (show vH w b = tpV w n (pi 1 k) by unfold tpV; rw [eo]) (Int32.not_lt.mpr c81)
        exact ih (k + 1) r h _ _ st (by omega) f1 f2 (go_skip hk12 (fun b' hb z => by rw [tp_some D h8 (pi_lt hk12) hb z] at eo; cases eo; rw [← eh]; exact Int32.not_lt.mpr c81) I)
      · refine ar_iload (pc := 84) dX7_goes_84 rfl ?_
        refine ar_istore (pc := 86) dX7_goes_86 (Nat.le_of_ble_eq_true rfl) rfl ?_
        refine ar_aload_n (i := 0) (pc := 88) dX7_goes_88 rfl rfl ?_
        refine ar_getf (pc := 89) dX7_goes_89 fX7_26 rfl rfl ?_
        refine ar_iconst (pc := 92) dX7_goes_92 q_iconst_2 ?_
        refine ar_iload (pc := 93) dX7_goes_93 rfl ?_
        refine ar_imul (pc := 95) dX7_goes_95 ?_
        refine ar_iload_n (i := 2) (pc := 96) dX7_goes_96 rfl rfl ?_
        refine ar_iadd (pc := 97) dX7_goes_97 ?_
        refine ar_iload_n (i := 3) (pc := 98) dX7_goes_98 rfl rfl ?_
        refine ar_aload_n (i := 0) (pc := 99) dX7_goes_99 rfl rfl ?_
        refine ar_getf (pc := 100) dX7_goes_100 fX7_7 rfl rfl ?_
        refine ar_iload_n (i := 1) (pc := 103) dX7_goes_103 rfl rfl ?_
        refine ar_iconst (pc := 104) dX7_goes_104 q_iconst_2 ?_
        refine ar_iadd (pc := 105) dX7_goes_105 ?_
        refine ar_iald (pc := 106) dX7_goes_106 rfl (show p + 2 < 120 by omega) (nI_add p 2) ?_
        rw [rq_ST, roS R 2 (by omega)]
        refine ar_imul (pc := 107) dX7_goes_107 ?_
        refine ar_bipush (pc := 108) dX7_goes_108 q_bipush_100 ?_
        refine ar_idiv (pc := 110) dX7_goes_110 (by decide) ?_
        refine ar_iast (pc := 111) dX7_goes_111 rfl (show 2 * b + 0 < 16 by omega) (by rw [show (2 : Int32) = nI 2 from rfl, pk_mul]; exact nI_add _ 0) ?_
        rw [md_T]
        refine ar_iload_n (i := 3) (pc := 112) dX7_goes_112 rfl rfl ?_
        refine ar_aload_n (i := 0) (pc := 113) dX7_goes_113 rfl rfl ?_
        refine ar_getf (pc := 114) dX7_goes_114 fX7_26 rfl rfl ?_
        refine ar_iconst (pc := 117) dX7_goes_117 q_iconst_2 ?_
        refine ar_iload (pc := 118) dX7_goes_118 rfl ?_
        refine ar_imul (pc := 120) dX7_goes_120 ?_
        refine ar_iload_n (i := 2) (pc := 121) dX7_goes_121 rfl rfl ?_
        refine ar_iadd (pc := 122) dX7_goes_122 ?_
        refine ar_iald (pc := 123) dX7_goes_123 rfl (show 2 * b + 0 < 16 by omega) (by rw [show (2 : Int32) = nI 2 from rfl, pk_mul]; exact nI_add _ 0) ?_
        rw [rq_TT, pk_us]
        refine ar_isub (pc := 124) dX7_goes_124 ?_
        refine ar_istore_n (i := 3) (pc := 125) dX7_goes_125 rfl (Nat.le_of_ble_eq_true rfl) rfl ?_
        refine ar_iinc (pc := 126) dX7_goes_126 rfl (ni_inc _) (Nat.le_of_ble_eq_true rfl) rfl ?_
        refine ar_goto (tgt := 23) (pc := 129) dX7_goes_129 (by decide) ?_
        obtain ⟨f1, f2⟩ := wk_y (t := fun k => tpV w n (pi 1 k)) er eh (show vH w b = tpV w n (pi 1 k) by unfold tpV; rw [eo]) (Int32.not_le.mp c81)
        rw [ru_TT]
        refine ih (k + 1) _ _ _ _ (upd st (2 * b + 0) (r * vS w 2 / 100)) (by omega) f1 f2 ?_
        rw [er]
        exact go_put (by omega) D hk12 hbn hpb (by rw [← eh]; exact Int32.not_le.mp c81) I
set_option maxHeartbeats 4000000 in
set_option maxRecDepth 100000 in
theorem sX7_goes0 (q : RV) (p n : Nat) (hp : p ≤ 60) (w : SV) (R : ro_R p n w (rq_S q)) (h8 : n ≤ 8) (D : di_D w n) (hz : ∀ b, b < n → rq_T q (2 * b + 0) = 0) : am_Sp mX7_goes [.ref 2, .int (nI p), .int 0] (md_H q) ((fun r h1 => ∃ st, r = some (.int (paF 1 (tpV w n) (vS w 0) (vS w 2))) ∧ h1 = md_H (ru_T q st) ∧ (∀ b, b < n → st (2 * b + 0) = stpV (arF 1 (tpV w n) (vS w 0) (vS w 2)) (taF 1 (tpV w n) (vS w 0) (vS w 2)) (vS w 2) (vP w b) (vH w b)) ∧ ∀ b, st (2 * b + (1 - 0)) = rq_T q (2 * b + (1 - 0)))) := by
  refine am_intro (by decide) (Nat.le_of_ble_eq_true rfl) ?_
  refine ar_aload_n (i := 0) (pc := 0) dX7_goes_0 rfl rfl ?_
  refine ar_getf (pc := 1) dX7_goes_1 fX7_7 rfl rfl ?_
  refine ar_iload_n (i := 1) (pc := 4) dX7_goes_4 rfl rfl ?_
  refine ar_iload_n (i := 2) (pc := 5) dX7_goes_5 rfl rfl ?_
  refine ar_if_ne (pc := 6) (tgt := 13) dX7_goes_6 (by decide) (fun c6 => absurd rfl c6) (fun c6 => ?_)
  refine ar_iconst (pc := 9) dX7_goes_9 q_iconst_0 ?_
  refine ar_goto (tgt := 14) (pc := 10) dX7_goes_10 (by decide) ?_
  refine ar_iadd (pc := 14) dX7_goes_14 ?_
  refine ar_iald (pc := 15) dX7_goes_15 rfl (show p + 0 < 120 by omega) (nI_add p 0) ?_
  rw [roS R 0 (by omega)]
  refine ar_istore_n (i := 3) (pc := 16) dX7_goes_16 rfl (Nat.le_of_ble_eq_true rfl) rfl ?_
  refine ar_iconst (pc := 17) dX7_goes_17 q_iconst_0 ?_
  refine ar_istore (pc := 18) dX7_goes_18 (Nat.le_of_ble_eq_true rfl) rfl ?_
  refine ar_iconst (pc := 20) dX7_goes_20 q_iconst_0 ?_
  refine ar_istore (pc := 21) dX7_goes_21 (Nat.le_of_ble_eq_true rfl) rfl ?_
  rw [← nI_0]
  exact lX7_goes0_23 _ q p n hp w R h8 D 12 0 _ _ _ _ (rq_T q) (by omega) rfl nI_0 (go_0 hz)

set_option maxHeartbeats 4000000 in
set_option maxRecDepth 100000 in
theorem lX7_goes1_23 (h0 : am_H) (q : RV) (p n : Nat) (hp : p ≤ 60) (w : SV) (R : ro_R p n w (rq_S q)) (h8 : n ≤ 8) (D : di_D w n) : ∀ (d k : Nat) (r h : Int32) (o6 o7 : Option Value) (st : Nat → Int32), k + d = 12 → r = (wkt 0 (tpV w n) (vS w 1) (vS w 2) k).1 → h = (wkt 0 (tpV w n) (vS w 1) (vS w 2) k).2 → go_I w n 0 (vS w 1) (vS w 2) 1 (rq_T q) k st → am_RW mX7_goes h0 (fun r h1 => ∃ st, r = some (.int (paF 0 (tpV w n) (vS w 1) (vS w 2))) ∧ h1 = md_H (ru_T q st) ∧ (∀ b, b < n → st (2 * b + 1) = stpV (arF 0 (tpV w n) (vS w 1) (vS w 2)) (taF 0 (tpV w n) (vS w 1) (vS w 2)) (vS w 2) (vP w b) (vH w b)) ∧ ∀ b, st (2 * b + (1 - 1)) = rq_T q (2 * b + (1 - 1))) 0 0 23 [some (.ref 2), some (.int (nI p)), some (.int 1), some (.int r), some (.int h), some (.int (nI k)), o6, o7] [] (md_H (ru_T q st)) := by
  intro d
  induction d with
  | zero =>
    intro k r h o6 o7 st hk er eh I
    have e : k = 12 := by omega
    subst e
    refine ar_iload (pc := 23) dX7_goes_23 rfl ?_
    refine ar_bipush (pc := 25) dX7_goes_25 q_bipush_12 ?_
    refine ar_icmp_ge (pc := 27) (tgt := 132) dX7_goes_27 (by decide) (fun c27 => ?_) (fun c27 => False.elim (by (simp (disch := omega) only [Int32.lt_iff_toInt_lt, Int32.le_iff_toInt_le, ← Int32.toInt_inj, ti_m6, ti_m1, ti_0, ti_1, ti_2, ti_3, ti_4, ti_5, ti_6, ti_7, ti_8, ti_9, ti_12, ti_100, ti_9999, ti_60, nI_toInt] at c27); omega))
    refine ar_iload_n (i := 3) (pc := 132) dX7_goes_132 rfl rfl ?_
    exact ar_iret (pc := 133) dX7_goes_133 rfl rfl rfl ⟨st, by rw [er]; rfl, rfl, go_12 I, I.2⟩
  | succ d ih =>
    intro k r h o6 o7 st hk er eh I
    have hk12 : k < 12 := by omega
    have hba := sX7_boothAt (ru_T q st) p n hp w R h8 (pi 0 k) (pi_lt hk12)
    rw [show nI (pi 0 k) = nI (11 - k) by unfold pi; rfl] at hba
    cases eo : ffi (atQ w n (nI (pi 0 k))) 8 0 with
    | none =>
      rw [show ffi (atQ w n (nI (11 - k))) 8 0 = none from eo] at hba
      refine ar_iload (pc := 23) dX7_goes_23 rfl ?_
      refine ar_bipush (pc := 25) dX7_goes_25 q_bipush_12 ?_
      refine ar_icmp_ge (pc := 27) (tgt := 132) dX7_goes_27 (by decide) (fun c27 => False.elim (by (simp (disch := omega) only [Int32.lt_iff_toInt_lt, Int32.le_iff_toInt_le, ← Int32.toInt_inj, ti_m6, ti_m1, ti_0, ti_1, ti_2, ti_3, ti_4, ti_5, ti_6, ti_7, ti_8, ti_9, ti_12, ti_100, ti_9999, ti_60, nI_toInt] at c27); omega)) (fun c27 => ?_)
      refine ar_aload_n (i := 0) (pc := 30) dX7_goes_30 rfl rfl ?_
      refine ar_iload_n (i := 1) (pc := 31) dX7_goes_31 rfl rfl ?_
      refine ar_iload_n (i := 2) (pc := 32) dX7_goes_32 rfl rfl ?_
      refine ar_if_ne (pc := 33) (tgt := 41) dX7_goes_33 (by decide) (fun c33 => ?_) (fun c33 => absurd c33 (by decide))
      refine ar_bipush (pc := 41) dX7_goes_41 q_bipush_11 ?_
      refine ar_iload (pc := 43) dX7_goes_43 rfl ?_
      refine ar_isub (pc := 45) dX7_goes_45 ?_
      rw [sub11 hk12]
      refine ar_idV (pc := 46) dX7_goes_46 cal_X7_boothAt kX7_44 rfl (hba) rfl rfl rfl rfl rfl rfl rfl (fun r h1 hp => ?_)
      obtain ⟨rfl, rfl⟩ := hp
      refine ⟨rfl, ?_⟩
      refine ar_istore (pc := 49) dX7_goes_49 (Nat.le_of_ble_eq_true rfl) rfl ?_
      refine ar_iload (pc := 51) dX7_goes_51 rfl ?_
      refine ar_bipush (pc := 53) dX7_goes_53 q_bipush_m6 ?_
      refine ar_icmp_ne (pc := 55) (tgt := 62) dX7_goes_55 (by decide) (fun c55 => absurd rfl c55) (fun c55 => ?_)
      refine ar_iconst (pc := 58) dX7_goes_58 q_iconst_0 ?_
      refine ar_goto (tgt := 75) (pc := 59) dX7_goes_59 (by decide) ?_
      refine ar_istore (pc := 75) dX7_goes_75 (Nat.le_of_ble_eq_true rfl) rfl ?_
      refine ar_iload (pc := 77) dX7_goes_77 rfl ?_
      refine ar_iload (pc := 79) dX7_goes_79 rfl ?_
      refine ar_icmp_le (pc := 81) (tgt := 126) dX7_goes_81 (by decide) (fun c81 => ?_) (fun c81 => absurd (by rw [eh]; exact wk_nn k) c81)
      refine ar_iinc (pc := 126) dX7_goes_126 rfl (ni_inc _) (Nat.le_of_ble_eq_true rfl) rfl ?_
      refine ar_goto (tgt := 23) (pc := 129) dX7_goes_129 (by decide) ?_
      obtain ⟨f1, f2⟩ := wk_n (t := fun k => tpV w n (pi 0 k)) er eh (show (0 : Int32) = tpV w n (pi 0 k) by unfold tpV; rw [eo]) (Int32.not_lt.mpr c81)
      exact ih (k + 1) r h _ _ st (by omega) f1 f2 (go_skip hk12 (fun b hb z => by rw [tp_some D h8 (pi_lt hk12) hb z] at eo; cases eo) I)
    | some b =>
      obtain ⟨-, hb8, hat, -⟩ := ffi_spec 8 0 b eo
      obtain ⟨hbn, hpb⟩ := atQ_s hat
      rw [show ffi (atQ w n (nI (11 - k))) 8 0 = some b from eo, show o2i (some b) = nI b from rfl] at hba
      refine ar_iload (pc := 23) dX7_goes_23 rfl ?_
      refine ar_bipush (pc := 25) dX7_goes_25 q_bipush_12 ?_
      refine ar_icmp_ge (pc := 27) (tgt := 132) dX7_goes_27 (by decide) (fun c27 => False.elim (by (simp (disch := omega) only [Int32.lt_iff_toInt_lt, Int32.le_iff_toInt_le, ← Int32.toInt_inj, ti_m6, ti_m1, ti_0, ti_1, ti_2, ti_3, ti_4, ti_5, ti_6, ti_7, ti_8, ti_9, ti_12, ti_100, ti_9999, ti_60, nI_toInt] at c27); omega)) (fun c27 => ?_)
      refine ar_aload_n (i := 0) (pc := 30) dX7_goes_30 rfl rfl ?_
      refine ar_iload_n (i := 1) (pc := 31) dX7_goes_31 rfl rfl ?_
      refine ar_iload_n (i := 2) (pc := 32) dX7_goes_32 rfl rfl ?_
      refine ar_if_ne (pc := 33) (tgt := 41) dX7_goes_33 (by decide) (fun c33 => ?_) (fun c33 => absurd c33 (by decide))
      refine ar_bipush (pc := 41) dX7_goes_41 q_bipush_11 ?_
      refine ar_iload (pc := 43) dX7_goes_43 rfl ?_
      refine ar_isub (pc := 45) dX7_goes_45 ?_
      rw [sub11 hk12]
      refine ar_idV (pc := 46) dX7_goes_46 cal_X7_boothAt kX7_44 rfl (hba) rfl rfl rfl rfl rfl rfl rfl (fun r h1 hp => ?_)
      obtain ⟨rfl, rfl⟩ := hp
      refine ⟨rfl, ?_⟩
      refine ar_istore (pc := 49) dX7_goes_49 (Nat.le_of_ble_eq_true rfl) rfl ?_
      refine ar_iload (pc := 51) dX7_goes_51 rfl ?_
      refine ar_bipush (pc := 53) dX7_goes_53 q_bipush_m6 ?_
      refine ar_icmp_ne (pc := 55) (tgt := 62) dX7_goes_55 (by decide) (fun c55 => ?_) (fun c55 => absurd c55 (nI_m6 (q := b) (by omega)))
      refine ar_aload_n (i := 0) (pc := 62) dX7_goes_62 rfl rfl ?_
      refine ar_getf (pc := 63) dX7_goes_63 fX7_7 rfl rfl ?_
      refine ar_iload_n (i := 1) (pc := 66) dX7_goes_66 rfl rfl ?_
      refine ar_iload (pc := 67) dX7_goes_67 rfl ?_
      refine ar_idS (pc := 69) dX7_goes_69 cal_X7_at kX7_36 rfl (sX7_at (md_H (ru_T q st)) p b) rfl rfl rfl rfl rfl (fun r h1 hp => ?_)
      obtain ⟨rfl, rfl⟩ := hp
      refine ⟨rfl, ?_⟩
      refine ar_iconst (pc := 72) dX7_goes_72 q_iconst_0 ?_
      refine ar_iadd (pc := 73) dX7_goes_73 ?_
      refine ar_iald (pc := 74) dX7_goes_74 rfl (show p + 20 + 5 * b < 120 by omega) (nI_add _ 0) ?_
      rw [rq_ST, roH R hbn]
      refine ar_istore (pc := 75) dX7_goes_75 (Nat.le_of_ble_eq_true rfl) rfl ?_
      refine ar_iload (pc := 77) dX7_goes_77 rfl ?_
      refine ar_iload (pc := 79) dX7_goes_79 rfl ?_
      refine ar_icmp_le (pc := 81) (tgt := 126) dX7_goes_81 (by decide) (fun c81 => ?_) (fun c81 => ?_)
      · refine ar_iinc (pc := 126) dX7_goes_126 rfl (ni_inc _) (Nat.le_of_ble_eq_true rfl) rfl ?_
        refine ar_goto (tgt := 23) (pc := 129) dX7_goes_129 (by decide) ?_
        obtain ⟨f1, f2⟩ := wk_n (t := fun k => tpV w n (pi 0 k)) er eh (show vH w b = tpV w n (pi 0 k) by unfold tpV; rw [eo]) (Int32.not_lt.mpr c81)
        exact ih (k + 1) r h _ _ st (by omega) f1 f2 (go_skip hk12 (fun b' hb z => by rw [tp_some D h8 (pi_lt hk12) hb z] at eo; cases eo; rw [← eh]; exact Int32.not_lt.mpr c81) I)
      · refine ar_iload (pc := 84) dX7_goes_84 rfl ?_
        refine ar_istore (pc := 86) dX7_goes_86 (Nat.le_of_ble_eq_true rfl) rfl ?_
        refine ar_aload_n (i := 0) (pc := 88) dX7_goes_88 rfl rfl ?_
        refine ar_getf (pc := 89) dX7_goes_89 fX7_26 rfl rfl ?_
        refine ar_iconst (pc := 92) dX7_goes_92 q_iconst_2 ?_
        refine ar_iload (pc := 93) dX7_goes_93 rfl ?_
        refine ar_imul (pc := 95) dX7_goes_95 ?_
        refine ar_iload_n (i := 2) (pc := 96) dX7_goes_96 rfl rfl ?_
        refine ar_iadd (pc := 97) dX7_goes_97 ?_
        refine ar_iload_n (i := 3) (pc := 98) dX7_goes_98 rfl rfl ?_
        refine ar_aload_n (i := 0) (pc := 99) dX7_goes_99 rfl rfl ?_
        refine ar_getf (pc := 100) dX7_goes_100 fX7_7 rfl rfl ?_
        refine ar_iload_n (i := 1) (pc := 103) dX7_goes_103 rfl rfl ?_
        refine ar_iconst (pc := 104) dX7_goes_104 q_iconst_2 ?_
        refine ar_iadd (pc := 105) dX7_goes_105 ?_
        refine ar_iald (pc := 106) dX7_goes_106 rfl (show p + 2 < 120 by omega) (nI_add p 2) ?_
        rw [rq_ST, roS R 2 (by omega)]
        refine ar_imul (pc := 107) dX7_goes_107 ?_
        refine ar_bipush (pc := 108) dX7_goes_108 q_bipush_100 ?_
        refine ar_idiv (pc := 110) dX7_goes_110 (by decide) ?_
        refine ar_iast (pc := 111) dX7_goes_111 rfl (show 2 * b + 1 < 16 by omega) (by rw [show (2 : Int32) = nI 2 from rfl, pk_mul]; exact nI_add _ 1) ?_
        rw [md_T]
        refine ar_iload_n (i := 3) (pc := 112) dX7_goes_112 rfl rfl ?_
        refine ar_aload_n (i := 0) (pc := 113) dX7_goes_113 rfl rfl ?_
        refine ar_getf (pc := 114) dX7_goes_114 fX7_26 rfl rfl ?_
        refine ar_iconst (pc := 117) dX7_goes_117 q_iconst_2 ?_
        refine ar_iload (pc := 118) dX7_goes_118 rfl ?_
        refine ar_imul (pc := 120) dX7_goes_120 ?_
        refine ar_iload_n (i := 2) (pc := 121) dX7_goes_121 rfl rfl ?_
        refine ar_iadd (pc := 122) dX7_goes_122 ?_
        refine ar_iald (pc := 123) dX7_goes_123 rfl (show 2 * b + 1 < 16 by omega) (by rw [show (2 : Int32) = nI 2 from rfl, pk_mul]; exact nI_add _ 1) ?_
        rw [rq_TT, pk_us]
        refine ar_isub (pc := 124) dX7_goes_124 ?_
        refine ar_istore_n (i := 3) (pc := 125) dX7_goes_125 rfl (Nat.le_of_ble_eq_true rfl) rfl ?_
        refine ar_iinc (pc := 126) dX7_goes_126 rfl (ni_inc _) (Nat.le_of_ble_eq_true rfl) rfl ?_
        refine ar_goto (tgt := 23) (pc := 129) dX7_goes_129 (by decide) ?_
        obtain ⟨f1, f2⟩ := wk_y (t := fun k => tpV w n (pi 0 k)) er eh (show vH w b = tpV w n (pi 0 k) by unfold tpV; rw [eo]) (Int32.not_le.mp c81)
        rw [ru_TT]
        refine ih (k + 1) _ _ _ _ (upd st (2 * b + 1) (r * vS w 2 / 100)) (by omega) f1 f2 ?_
        rw [er]
        exact go_put (by omega) D hk12 hbn hpb (by rw [← eh]; exact Int32.not_le.mp c81) I
set_option maxHeartbeats 4000000 in
set_option maxRecDepth 100000 in
theorem sX7_goes1 (q : RV) (p n : Nat) (hp : p ≤ 60) (w : SV) (R : ro_R p n w (rq_S q)) (h8 : n ≤ 8) (D : di_D w n) (hz : ∀ b, b < n → rq_T q (2 * b + 1) = 0) : am_Sp mX7_goes [.ref 2, .int (nI p), .int 1] (md_H q) ((fun r h1 => ∃ st, r = some (.int (paF 0 (tpV w n) (vS w 1) (vS w 2))) ∧ h1 = md_H (ru_T q st) ∧ (∀ b, b < n → st (2 * b + 1) = stpV (arF 0 (tpV w n) (vS w 1) (vS w 2)) (taF 0 (tpV w n) (vS w 1) (vS w 2)) (vS w 2) (vP w b) (vH w b)) ∧ ∀ b, st (2 * b + (1 - 1)) = rq_T q (2 * b + (1 - 1)))) := by
  refine am_intro (by decide) (Nat.le_of_ble_eq_true rfl) ?_
  refine ar_aload_n (i := 0) (pc := 0) dX7_goes_0 rfl rfl ?_
  refine ar_getf (pc := 1) dX7_goes_1 fX7_7 rfl rfl ?_
  refine ar_iload_n (i := 1) (pc := 4) dX7_goes_4 rfl rfl ?_
  refine ar_iload_n (i := 2) (pc := 5) dX7_goes_5 rfl rfl ?_
  refine ar_if_ne (pc := 6) (tgt := 13) dX7_goes_6 (by decide) (fun c6 => ?_) (fun c6 => absurd c6 (by decide))
  refine ar_iconst (pc := 13) dX7_goes_13 q_iconst_1 ?_
  refine ar_iadd (pc := 14) dX7_goes_14 ?_
  refine ar_iald (pc := 15) dX7_goes_15 rfl (show p + 1 < 120 by omega) (nI_add p 1) ?_
  rw [roS R 1 (by omega)]
  refine ar_istore_n (i := 3) (pc := 16) dX7_goes_16 rfl (Nat.le_of_ble_eq_true rfl) rfl ?_
  refine ar_iconst (pc := 17) dX7_goes_17 q_iconst_0 ?_
  refine ar_istore (pc := 18) dX7_goes_18 (Nat.le_of_ble_eq_true rfl) rfl ?_
  refine ar_iconst (pc := 20) dX7_goes_20 q_iconst_0 ?_
  refine ar_istore (pc := 21) dX7_goes_21 (Nat.le_of_ble_eq_true rfl) rfl ?_
  rw [← nI_0]
  exact lX7_goes1_23 _ q p n hp w R h8 D 12 0 _ _ _ _ (rq_T q) (by omega) rfl nI_0 (go_0 hz)

