/-! the class State: its methods -/
abbrev bkP (n : Nat) (b : Int32) : Prop := 0 ≤ b.toInt ∧ b.toInt < n
set_option maxHeartbeats 4000000 in
set_option maxRecDepth 100000 in
theorem sX3_isStanding0 (v : SV) (n : Nat) (hn : vBo v = nI n) (h8 : n ≤ 8) (b : Int32) : am_Sp mX3_isStanding [.ref 2, .int b] (stH v) (am_bp ((0 ≤ b.toInt ∧ b.toInt < n) ∧ vP v (ix b) ≠ -6) (stH v)) := by
  refine am_intro (by decide) (Nat.le_of_ble_eq_true rfl) ?_
  refine ar_aload_n (i := 0) (pc := 0) dX3_isStanding_0 rfl rfl ?_
  refine ar_iload_n (i := 1) (pc := 1) dX3_isStanding_1 rfl rfl ?_
  refine ar_idV (pc := 2) dX3_isStanding_2 cal_X3_isBooth kX3_67 rfl (sX3_isBooth v n hn h8 _) rfl rfl rfl rfl rfl rfl rfl (fun r h1 hp => ?_)
  obtain ⟨⟨h2, rfl⟩ | ⟨h2, rfl⟩, rfl⟩ := hp
  · refine ⟨rfl, ?_⟩
    refine ar_if_eq (pc := 5) (tgt := 23) dX3_isStanding_5 (by decide) (fun c5 => absurd c5 (by decide)) (fun c5 => ?_)
    refine ar_aload_n (i := 0) (pc := 8) dX3_isStanding_8 rfl rfl ?_
    refine ar_getf (pc := 9) dX3_isStanding_9 fX3_29 rfl rfl ?_
    refine ar_iload_n (i := 1) (pc := 12) dX3_isStanding_12 rfl rfl ?_
    refine ar_iald (pc := 13) dX3_isStanding_13 rfl (show ix b < 8 by unfold ix; omega) (ix_eq h2.1) ?_
    refine ar_bipush (pc := 14) dX3_isStanding_14 q_bipush_m6 ?_
    refine ar_icmp_eq (pc := 16) (tgt := 23) dX3_isStanding_16 (by decide) (fun c16 => ?_) (fun c16 => ?_)
    · refine ar_iconst (pc := 23) dX3_isStanding_23 q_iconst_0 ?_
      first
        | exact ar_zret (pc := 24) dX3_isStanding_24 rfl (Or.inr rfl) rfl rfl ⟨Or.inl ⟨⟨h2, c16⟩, rfl⟩, rfl⟩
        | exact ar_zret (pc := 24) dX3_isStanding_24 rfl (Or.inl rfl) rfl rfl ⟨Or.inr ⟨(fun z => by first | exact h2 z.1 | exact z.2 c16), rfl⟩, rfl⟩
    · refine ar_iconst (pc := 19) dX3_isStanding_19 q_iconst_1 ?_
      refine ar_goto (tgt := 24) (pc := 20) dX3_isStanding_20 (by decide) ?_
      first
        | exact ar_zret (pc := 24) dX3_isStanding_24 rfl (Or.inr rfl) rfl rfl ⟨Or.inl ⟨⟨h2, c16⟩, rfl⟩, rfl⟩
        | exact ar_zret (pc := 24) dX3_isStanding_24 rfl (Or.inl rfl) rfl rfl ⟨Or.inr ⟨(fun z => by first | exact h2 z.1 | exact z.2 c16), rfl⟩, rfl⟩
  · refine ⟨rfl, ?_⟩
    refine ar_if_eq (pc := 5) (tgt := 23) dX3_isStanding_5 (by decide) (fun c5 => ?_) (fun c5 => absurd c5 (by decide))
    refine ar_iconst (pc := 23) dX3_isStanding_23 q_iconst_0 ?_
    first
      | exact ar_zret (pc := 24) dX3_isStanding_24 rfl (Or.inr rfl) rfl rfl ⟨Or.inl ⟨⟨h2, c16⟩, rfl⟩, rfl⟩
      | exact ar_zret (pc := 24) dX3_isStanding_24 rfl (Or.inl rfl) rfl rfl ⟨Or.inr ⟨(fun z => by first | exact h2 z.1 | exact z.2 c16), rfl⟩, rfl⟩

theorem sX3_isStanding (v : SV) (n : Nat) (hn : vBo v = nI n) (h8 : n ≤ 8) {k : Nat} (hk : k < 8) : am_Sp mX3_isStanding [.ref 2, .int (nI k)] (stH v) (am_bp (stP v n k) (stH v)) := by
  have h := sX3_isStanding0 v n hn h8 (nI k)
  rw [ix_nI (by omega), nI_toInt (by omega)] at h
  rwa [show ((0 ≤ (k : Int) ∧ (k : Int) < n) ∧ vP v k ≠ -6) = stP v n k from propext ⟨fun z => ⟨by omega, z.2⟩, fun z => ⟨⟨by omega, by have := z.1; omega⟩, z.2⟩⟩] at h
def cst (v : SV) (n : Nat) : Nat → Nat
  | 0 => 0
  | k + 1 => cst v n k + (if stP v n k then 1 else 0)
set_option maxHeartbeats 4000000 in
set_option maxRecDepth 100000 in
theorem lX3_countStanding (v : SV) (n : Nat) (hn : vBo v = nI n) (h8 : n ≤ 8) : ∀ (d k : Nat), k + d = 8 → am_RW mX3_countStanding (stH v) (am_rp (nI (cst v n 8)) (stH v)) 0 0 4 [some (.ref 2), some (.int (nI (cst v n k))), some (.int (nI k))] [] (stH v) := by
  intro d
  induction d with
  | zero =>
    intro k hk
    have e : k = 8 := by omega
    subst e
    refine ar_iload_n (i := 2) (pc := 4) dX3_countStanding_4 rfl rfl ?_
    refine ar_bipush (pc := 5) dX3_countStanding_5 q_bipush_8 ?_
    refine ar_icmp_ge (pc := 7) (tgt := 27) dX3_countStanding_7 (by decide) (fun c7 => ?_) (fun c7 => False.elim (by (simp (disch := omega) only [Int32.lt_iff_toInt_lt, Int32.le_iff_toInt_le, ← Int32.toInt_inj, ti_m6, ti_m1, ti_0, ti_1, ti_2, ti_5, ti_6, ti_8, ti_9, ti_12, ti_100, ti_9999, ti_60, nI_toInt] at c7) <;> omega))
    refine ar_iload_n (i := 1) (pc := 27) dX3_countStanding_27 rfl rfl ?_
    exact ar_iret (pc := 28) dX3_countStanding_28 rfl rfl rfl ⟨rfl, rfl⟩
  | succ d ih =>
    intro k hk
    refine ar_iload_n (i := 2) (pc := 4) dX3_countStanding_4 rfl rfl ?_
    refine ar_bipush (pc := 5) dX3_countStanding_5 q_bipush_8 ?_
    refine ar_icmp_ge (pc := 7) (tgt := 27) dX3_countStanding_7 (by decide) (fun c7 => False.elim (by (simp (disch := omega) only [Int32.lt_iff_toInt_lt, Int32.le_iff_toInt_le, ← Int32.toInt_inj, ti_m6, ti_m1, ti_0, ti_1, ti_2, ti_5, ti_6, ti_8, ti_9, ti_12, ti_100, ti_9999, ti_60, nI_toInt] at c7) <;> omega)) (fun c7 => ?_)
    refine ar_aload_n (i := 0) (pc := 10) dX3_countStanding_10 rfl rfl ?_
    refine ar_iload_n (i := 2) (pc := 11) dX3_countStanding_11 rfl rfl ?_
    refine ar_idV (pc := 12) dX3_countStanding_12 cal_X3_isStanding kX3_70 rfl (sX3_isStanding v n hn h8 (by omega)) rfl rfl rfl rfl rfl rfl rfl (fun r h1 hp => ?_)
    obtain ⟨⟨h12, rfl⟩ | ⟨h12, rfl⟩, rfl⟩ := hp
    · refine ⟨rfl, ?_⟩
      refine ar_if_eq (pc := 15) (tgt := 21) dX3_countStanding_15 (by decide) (fun c15 => absurd c15 (by decide)) (fun c15 => ?_)
      refine ar_iinc (pc := 18) dX3_countStanding_18 rfl (ni_inc _) (Nat.le_of_ble_eq_true rfl) rfl ?_
      refine ar_iinc (pc := 21) dX3_countStanding_21 rfl (ni_inc _) (Nat.le_of_ble_eq_true rfl) rfl ?_
      refine ar_goto (tgt := 4) (pc := 24) dX3_countStanding_24 (by decide) ?_
      have ih' := ih (k + 1) (by omega)
      first
        | (rw [show cst v n (k + 1) = cst v n k + 1 by rw [cst, if_pos h12]] at ih'; exact ih')
        | (rw [show cst v n (k + 1) = cst v n k by rw [cst, if_neg h12, Nat.add_zero]] at ih'; exact ih')
    · refine ⟨rfl, ?_⟩
      refine ar_if_eq (pc := 15) (tgt := 21) dX3_countStanding_15 (by decide) (fun c15 => ?_) (fun c15 => absurd c15 (by decide))
      refine ar_iinc (pc := 21) dX3_countStanding_21 rfl (ni_inc _) (Nat.le_of_ble_eq_true rfl) rfl ?_
      refine ar_goto (tgt := 4) (pc := 24) dX3_countStanding_24 (by decide) ?_
      have ih' := ih (k + 1) (by omega)
      first
        | (rw [show cst v n (k + 1) = cst v n k + 1 by rw [cst, if_pos h12]] at ih'; exact ih')
        | (rw [show cst v n (k + 1) = cst v n k by rw [cst, if_neg h12, Nat.add_zero]] at ih'; exact ih')

set_option maxHeartbeats 4000000 in
set_option maxRecDepth 100000 in
theorem sX3_countStanding (v : SV) (n : Nat) (hn : vBo v = nI n) (h8 : n ≤ 8) : am_Sp mX3_countStanding [.ref 2] (stH v) ((am_rp (nI (cst v n 8)) (stH v))) := by
  refine am_intro (by decide) (Nat.le_of_ble_eq_true rfl) ?_
  refine ar_iconst (pc := 0) dX3_countStanding_0 q_iconst_0 ?_
  refine ar_istore_n (i := 1) (pc := 1) dX3_countStanding_1 rfl (Nat.le_of_ble_eq_true rfl) rfl ?_
  refine ar_iconst (pc := 2) dX3_countStanding_2 q_iconst_0 ?_
  refine ar_istore_n (i := 2) (pc := 3) dX3_countStanding_3 rfl (Nat.le_of_ble_eq_true rfl) rfl ?_
  exact lX3_countStanding v n hn h8 8 0 (by omega)

abbrev atQ (v : SV) (n : Nat) (p : Int32) : Nat → Bool := fun k => decide (stP v n k ∧ vP v k = p)
set_option maxHeartbeats 4000000 in
set_option maxRecDepth 100000 in
theorem lX3_boothAt (v : SV) (n : Nat) (hn : vBo v = nI n) (h8 : n ≤ 8) (p : Int32) (o : Option Nat) : ∀ (d k : Nat), k + d = 8 → ffi (atQ v n p) d k = o → am_RW mX3_boothAt (stH v) (am_rp (o2i o) (stH v)) 0 0 2 [some (.ref 2), some (.int p), some (.int (nI k))] [] (stH v) := by
  intro d
  induction d with
  | zero =>
    intro k hk ho
    have e : k = 8 := by omega
    subst e
    subst ho
    refine ar_iload_n (i := 2) (pc := 2) dX3_boothAt_2 rfl rfl ?_
    refine ar_bipush (pc := 3) dX3_boothAt_3 q_bipush_8 ?_
    refine ar_icmp_ge (pc := 5) (tgt := 34) dX3_boothAt_5 (by decide) (fun c5 => ?_) (fun c5 => False.elim (by (simp (disch := omega) only [Int32.lt_iff_toInt_lt, Int32.le_iff_toInt_le, ← Int32.toInt_inj, ti_m6, ti_m1, ti_0, ti_1, ti_2, ti_5, ti_6, ti_8, ti_9, ti_12, ti_100, ti_9999, ti_60, nI_toInt] at c5) <;> omega))
    refine ar_bipush (pc := 34) dX3_boothAt_34 q_bipush_m6 ?_
    exact ar_iret (pc := 36) dX3_boothAt_36 rfl rfl rfl ⟨rfl, rfl⟩
  | succ d ih =>
    intro k hk ho
    refine ar_iload_n (i := 2) (pc := 2) dX3_boothAt_2 rfl rfl ?_
    refine ar_bipush (pc := 3) dX3_boothAt_3 q_bipush_8 ?_
    refine ar_icmp_ge (pc := 5) (tgt := 34) dX3_boothAt_5 (by decide) (fun c5 => False.elim (by (simp (disch := omega) only [Int32.lt_iff_toInt_lt, Int32.le_iff_toInt_le, ← Int32.toInt_inj, ti_m6, ti_m1, ti_0, ti_1, ti_2, ti_5, ti_6, ti_8, ti_9, ti_12, ti_100, ti_9999, ti_60, nI_toInt] at c5) <;> omega)) (fun c5 => ?_)
    refine ar_aload_n (i := 0) (pc := 8) dX3_boothAt_8 rfl rfl ?_
    refine ar_iload_n (i := 2) (pc := 9) dX3_boothAt_9 rfl rfl ?_
    refine ar_idV (pc := 10) dX3_boothAt_10 cal_X3_isStanding kX3_70 rfl (sX3_isStanding v n hn h8 (by omega)) rfl rfl rfl rfl rfl rfl rfl (fun r h1 hp => ?_)
    obtain ⟨⟨h10, rfl⟩ | ⟨h10, rfl⟩, rfl⟩ := hp
    · refine ⟨rfl, ?_⟩
      refine ar_if_eq (pc := 13) (tgt := 28) dX3_boothAt_13 (by decide) (fun c13 => absurd c13 (by decide)) (fun c13 => ?_)
      refine ar_aload_n (i := 0) (pc := 16) dX3_boothAt_16 rfl rfl ?_
      refine ar_getf (pc := 17) dX3_boothAt_17 fX3_29 rfl rfl ?_
      refine ar_iload_n (i := 2) (pc := 20) dX3_boothAt_20 rfl rfl ?_
      refine ar_iald (pc := 21) dX3_boothAt_21 rfl (by omega) rfl ?_
      refine ar_iload_n (i := 1) (pc := 22) dX3_boothAt_22 rfl rfl ?_
      refine ar_icmp_ne (pc := 23) (tgt := 28) dX3_boothAt_23 (by decide) (fun c23 => ?_) (fun c23 => ?_)
      · refine ar_iinc (pc := 28) dX3_boothAt_28 rfl (ni_inc _) (Nat.le_of_ble_eq_true rfl) rfl ?_
        refine ar_goto (tgt := 2) (pc := 31) dX3_boothAt_31 (by decide) ?_
        refine ih (k + 1) (by omega) ?_
        rw [← ho, ffi, if_neg]
        intro z
        have z := of_decide_eq_true z
        first | exact h10 z.1 | exact c23 z.2
      · refine ar_iload_n (i := 2) (pc := 26) dX3_boothAt_26 rfl rfl ?_
        exact ar_iret (pc := 27) dX3_boothAt_27 rfl rfl rfl ⟨by rw [← ho, ffi, if_pos (decide_eq_true ⟨h10, c23⟩)]; rfl, rfl⟩
    · refine ⟨rfl, ?_⟩
      refine ar_if_eq (pc := 13) (tgt := 28) dX3_boothAt_13 (by decide) (fun c13 => ?_) (fun c13 => absurd c13 (by decide))
      refine ar_iinc (pc := 28) dX3_boothAt_28 rfl (ni_inc _) (Nat.le_of_ble_eq_true rfl) rfl ?_
      refine ar_goto (tgt := 2) (pc := 31) dX3_boothAt_31 (by decide) ?_
      refine ih (k + 1) (by omega) ?_
      rw [← ho, ffi, if_neg]
      intro z
      have z := of_decide_eq_true z
      first | exact h10 z.1 | exact c23 z.2

set_option maxHeartbeats 4000000 in
set_option maxRecDepth 100000 in
theorem sX3_boothAt (v : SV) (n : Nat) (hn : vBo v = nI n) (h8 : n ≤ 8) (p : Int32) : am_Sp mX3_boothAt [.ref 2, .int p] (stH v) (am_rp (o2i (ffi (atQ v n p) 8 0)) (stH v)) := by
  refine am_intro (by decide) (Nat.le_of_ble_eq_true rfl) ?_
  refine ar_iconst (pc := 0) dX3_boothAt_0 q_iconst_0 ?_
  refine ar_istore_n (i := 2) (pc := 1) dX3_boothAt_1 rfl (Nat.le_of_ble_eq_true rfl) rfl ?_
  exact lX3_boothAt v n hn h8 p _ 8 0 (by omega) rfl

theorem ffi_spec {q : Nat → Bool} : ∀ (d k j : Nat), ffi q d k = some j → k ≤ j ∧ j < k + d ∧ q j = true ∧ ∀ i, k ≤ i → i < j → q i = false
  | 0, k, j, h => by cases h
  | d + 1, k, j, h => by
    rw [ffi] at h
    by_cases c : q k = true
    · rw [if_pos c] at h; cases h
      exact ⟨Nat.le_refl _, by omega, c, fun i h1 h2 => by omega⟩
    · rw [if_neg c] at h
      obtain ⟨h1, h2, h3, h4⟩ := ffi_spec d (k + 1) j h
      refine ⟨by omega, by omega, h3, fun i i1 i2 => ?_⟩
      by_cases e : i = k
      · subst e; simpa using c
      · exact h4 i (by omega) i2
theorem ffi_none {q : Nat → Bool} : ∀ (d k : Nat), ffi q d k = none → ∀ i, k ≤ i → i < k + d → q i = false
  | 0, k, _, i, h1, h2 => by omega
  | d + 1, k, h, i, h1, h2 => by
    rw [ffi] at h
    by_cases c : q k = true
    · rw [if_pos c] at h; cases h
    · rw [if_neg c] at h
      by_cases e : i = k
      · subst e; simpa using c
      · exact ffi_none d (k + 1) h i (by omega) (by omega)
abbrev tkP (v : SV) (n : Nat) (p : Int32) (j : Nat) : Prop := ∃ k, ffi (atQ v n p) 8 0 = some k ∧ k ≠ j
theorem tk_1 {o : Option Nat} {j : Nat} (h1 : ¬ o2i o = -6) (h2 : ¬ o2i o = nI j) : ∃ k, o = some k ∧ k ≠ j := by
  cases o with
  | none => exact absurd rfl h1
  | some k => exact ⟨k, rfl, fun e => h2 (by rw [e]; rfl)⟩
theorem tk_2 {k : Nat} {p : Prop} (hk : k < 0 + 8) (h : o2i (some k) = -6) : p := by
  have h : nI k = -6 := h
  simp (disch := omega) only [Int32.lt_iff_toInt_lt, Int32.le_iff_toInt_le, ← Int32.toInt_inj, ti_m6, ti_m1, ti_0, ti_1, ti_2, ti_5, ti_6, ti_8, ti_9, ti_12, ti_100, ti_9999, ti_60, nI_toInt] at h
  omega
theorem tk_3 {k j : Nat} {p : Prop} (hk : k < 0 + 8) (hj : j < 8) (hn : k ≠ j) (h : o2i (some k) = nI j) : p := by
  have h : nI k = nI j := h
  simp (disch := omega) only [Int32.lt_iff_toInt_lt, Int32.le_iff_toInt_le, ← Int32.toInt_inj, ti_m6, ti_m1, ti_0, ti_1, ti_2, ti_5, ti_6, ti_8, ti_9, ti_12, ti_100, ti_9999, ti_60, nI_toInt] at h
  omega
set_option maxHeartbeats 4000000 in
set_option maxRecDepth 100000 in
theorem sX3_isTakenByOther (v : SV) (n : Nat) (hn : vBo v = nI n) (h8 : n ≤ 8) (p : Int32) {j : Nat} (hj : j < 8) : am_Sp mX3_isTakenByOther [.ref 2, .int p, .int (nI j)] (stH v) (am_bp (tkP v n p j) (stH v)) := by
  refine am_intro (by decide) (Nat.le_of_ble_eq_true rfl) ?_
  refine ar_aload_n (i := 0) (pc := 0) dX3_isTakenByOther_0 rfl rfl ?_
  refine ar_iload_n (i := 1) (pc := 1) dX3_isTakenByOther_1 rfl rfl ?_
  refine ar_idV (pc := 2) dX3_isTakenByOther_2 cal_X3_boothAt kX3_73 rfl (sX3_boothAt v n hn h8 _) rfl rfl rfl rfl rfl rfl rfl (fun r h1 hp => ?_)
  obtain ⟨rfl, rfl⟩ := hp
  refine ⟨rfl, ?_⟩
  refine ar_istore_n (i := 3) (pc := 5) dX3_isTakenByOther_5 rfl (Nat.le_of_ble_eq_true rfl) rfl ?_
  refine ar_iload_n (i := 3) (pc := 6) dX3_isTakenByOther_6 rfl rfl ?_
  refine ar_bipush (pc := 7) dX3_isTakenByOther_7 q_bipush_m6 ?_
  refine ar_icmp_eq (pc := 9) (tgt := 21) dX3_isTakenByOther_9 (by decide) (fun c9 => ?_) (fun c9 => ?_)
  · refine ar_iconst (pc := 21) dX3_isTakenByOther_21 q_iconst_0 ?_
    first
      | exact ar_zret (pc := 22) dX3_isTakenByOther_22 rfl (Or.inr rfl) rfl rfl ⟨Or.inl ⟨tk_1 c9 c14, rfl⟩, rfl⟩
      | exact ar_zret (pc := 22) dX3_isTakenByOther_22 rfl (Or.inl rfl) rfl rfl ⟨Or.inr ⟨(fun z => by obtain ⟨k, z1, z2⟩ := z; have z3 := (ffi_spec _ _ _ z1).2.1; first | exact tk_2 z3 (by rw [← z1]; exact c9) | exact tk_3 z3 hj z2 (by rw [← z1]; exact c14)), rfl⟩, rfl⟩
  · refine ar_iload_n (i := 3) (pc := 12) dX3_isTakenByOther_12 rfl rfl ?_
    refine ar_iload_n (i := 2) (pc := 13) dX3_isTakenByOther_13 rfl rfl ?_
    refine ar_icmp_eq (pc := 14) (tgt := 21) dX3_isTakenByOther_14 (by decide) (fun c14 => ?_) (fun c14 => ?_)
    · refine ar_iconst (pc := 21) dX3_isTakenByOther_21 q_iconst_0 ?_
      first
        | exact ar_zret (pc := 22) dX3_isTakenByOther_22 rfl (Or.inr rfl) rfl rfl ⟨Or.inl ⟨tk_1 c9 c14, rfl⟩, rfl⟩
        | exact ar_zret (pc := 22) dX3_isTakenByOther_22 rfl (Or.inl rfl) rfl rfl ⟨Or.inr ⟨(fun z => by obtain ⟨k, z1, z2⟩ := z; have z3 := (ffi_spec _ _ _ z1).2.1; first | exact tk_2 z3 (by rw [← z1]; exact c9) | exact tk_3 z3 hj z2 (by rw [← z1]; exact c14)), rfl⟩, rfl⟩
    · refine ar_iconst (pc := 17) dX3_isTakenByOther_17 q_iconst_1 ?_
      refine ar_goto (tgt := 22) (pc := 18) dX3_isTakenByOther_18 (by decide) ?_
      first
        | exact ar_zret (pc := 22) dX3_isTakenByOther_22 rfl (Or.inr rfl) rfl rfl ⟨Or.inl ⟨tk_1 c9 c14, rfl⟩, rfl⟩
        | exact ar_zret (pc := 22) dX3_isTakenByOther_22 rfl (Or.inl rfl) rfl rfl ⟨Or.inr ⟨(fun z => by obtain ⟨k, z1, z2⟩ := z; have z3 := (ffi_spec _ _ _ z1).2.1; first | exact tk_2 z3 (by rw [← z1]; exact c9) | exact tk_3 z3 hj z2 (by rw [← z1]; exact c14)), rfl⟩, rfl⟩

abbrev hdP (v : SV) (n : Nat) (k j : Nat) (l : Int32) : Prop := stP v n k ∧ stP v n j ∧ vH v j ≤ vH v k ∧ (¬ l = 0 → vP v k < vP v j) ∧ (l = 0 → vP v j < vP v k)
set_option maxHeartbeats 4000000 in
set_option maxRecDepth 100000 in
theorem sX3_hides (v : SV) (n : Nat) (hn : vBo v = nI n) (h8 : n ≤ 8) {k j : Nat} (hk : k < 8) (hj : j < 8) (l : Int32) : am_Sp mX3_hides [.ref 2, .int (nI k), .int (nI j), .int l] (stH v) (am_bp (hdP v n k j l) (stH v)) := by
  refine am_intro (by decide) (Nat.le_of_ble_eq_true rfl) ?_
  refine ar_aload_n (i := 0) (pc := 0) dX3_hides_0 rfl rfl ?_
  refine ar_iload_n (i := 1) (pc := 1) dX3_hides_1 rfl rfl ?_
  refine ar_idV (pc := 2) dX3_hides_2 cal_X3_isStanding kX3_70 rfl (sX3_isStanding v n hn h8 hk) rfl rfl rfl rfl rfl rfl rfl (fun r h1 hp => ?_)
  obtain ⟨⟨h2, rfl⟩ | ⟨h2, rfl⟩, rfl⟩ := hp
  · refine ⟨rfl, ?_⟩
    refine ar_if_eq (pc := 5) (tgt := 31) dX3_hides_5 (by decide) (fun c5 => absurd c5 (by decide)) (fun c5 => ?_)
    refine ar_aload_n (i := 0) (pc := 8) dX3_hides_8 rfl rfl ?_
    refine ar_iload_n (i := 2) (pc := 9) dX3_hides_9 rfl rfl ?_
    refine ar_idV (pc := 10) dX3_hides_10 cal_X3_isStanding kX3_70 rfl (sX3_isStanding v n hn h8 hj) rfl rfl rfl rfl rfl rfl rfl (fun r h1 hp => ?_)
    obtain ⟨⟨h10, rfl⟩ | ⟨h10, rfl⟩, rfl⟩ := hp
    · refine ⟨rfl, ?_⟩
      refine ar_if_eq (pc := 13) (tgt := 31) dX3_hides_13 (by decide) (fun c13 => absurd c13 (by decide)) (fun c13 => ?_)
      refine ar_aload_n (i := 0) (pc := 16) dX3_hides_16 rfl rfl ?_
      refine ar_getf (pc := 17) dX3_hides_17 fX3_26 rfl rfl ?_
      refine ar_iload_n (i := 1) (pc := 20) dX3_hides_20 rfl rfl ?_
      refine ar_iald (pc := 21) dX3_hides_21 rfl (by assumption) rfl ?_
      refine ar_aload_n (i := 0) (pc := 22) dX3_hides_22 rfl rfl ?_
      refine ar_getf (pc := 23) dX3_hides_23 fX3_26 rfl rfl ?_
      refine ar_iload_n (i := 2) (pc := 26) dX3_hides_26 rfl rfl ?_
      refine ar_iald (pc := 27) dX3_hides_27 rfl (by assumption) rfl ?_
      refine ar_icmp_ge (pc := 28) (tgt := 33) dX3_hides_28 (by decide) (fun c28 => ?_) (fun c28 => ?_)
      · refine ar_iload_n (i := 3) (pc := 33) dX3_hides_33 rfl rfl ?_
        refine ar_if_eq (pc := 34) (tgt := 60) dX3_hides_34 (by decide) (fun c34 => ?_) (fun c34 => ?_)
        · refine ar_aload_n (i := 0) (pc := 60) dX3_hides_60 rfl rfl ?_
          refine ar_getf (pc := 61) dX3_hides_61 fX3_29 rfl rfl ?_
          refine ar_iload_n (i := 1) (pc := 64) dX3_hides_64 rfl rfl ?_
          refine ar_iald (pc := 65) dX3_hides_65 rfl (by assumption) rfl ?_
          refine ar_aload_n (i := 0) (pc := 66) dX3_hides_66 rfl rfl ?_
          refine ar_getf (pc := 67) dX3_hides_67 fX3_29 rfl rfl ?_
          refine ar_iload_n (i := 2) (pc := 70) dX3_hides_70 rfl rfl ?_
          refine ar_iald (pc := 71) dX3_hides_71 rfl (by assumption) rfl ?_
          refine ar_icmp_le (pc := 72) (tgt := 79) dX3_hides_72 (by decide) (fun c72 => ?_) (fun c72 => ?_)
          · refine ar_iconst (pc := 79) dX3_hides_79 q_iconst_0 ?_
            first
              | exact ar_zret (pc := 80) dX3_hides_80 rfl (Or.inr rfl) rfl rfl ⟨Or.inl ⟨⟨h2, h10, c28, fun z => by first | exact (Int32.not_le.mp c49) | exact absurd c34 z, fun z => by first | exact (Int32.not_le.mp c72) | exact absurd z c34⟩, rfl⟩, rfl⟩
              | exact ar_zret (pc := 80) dX3_hides_80 rfl (Or.inl rfl) rfl rfl ⟨Or.inr ⟨(fun z => by first | exact h2 z.1 | exact h10 z.2.1 | exact c28 z.2.2.1 | exact (Int32.not_lt.mpr c49) (z.2.2.2.1 c34) | exact (Int32.not_lt.mpr c72) (z.2.2.2.2 c34)), rfl⟩, rfl⟩
          · refine ar_iconst (pc := 75) dX3_hides_75 q_iconst_1 ?_
            refine ar_goto (tgt := 80) (pc := 76) dX3_hides_76 (by decide) ?_
            first
              | exact ar_zret (pc := 80) dX3_hides_80 rfl (Or.inr rfl) rfl rfl ⟨Or.inl ⟨⟨h2, h10, c28, fun z => by first | exact (Int32.not_le.mp c49) | exact absurd c34 z, fun z => by first | exact (Int32.not_le.mp c72) | exact absurd z c34⟩, rfl⟩, rfl⟩
              | exact ar_zret (pc := 80) dX3_hides_80 rfl (Or.inl rfl) rfl rfl ⟨Or.inr ⟨(fun z => by first | exact h2 z.1 | exact h10 z.2.1 | exact c28 z.2.2.1 | exact (Int32.not_lt.mpr c49) (z.2.2.2.1 c34) | exact (Int32.not_lt.mpr c72) (z.2.2.2.2 c34)), rfl⟩, rfl⟩
        · refine ar_aload_n (i := 0) (pc := 37) dX3_hides_37 rfl rfl ?_
          refine ar_getf (pc := 38) dX3_hides_38 fX3_29 rfl rfl ?_
          refine ar_iload_n (i := 1) (pc := 41) dX3_hides_41 rfl rfl ?_
          refine ar_iald (pc := 42) dX3_hides_42 rfl (by assumption) rfl ?_
          refine ar_aload_n (i := 0) (pc := 43) dX3_hides_43 rfl rfl ?_
          refine ar_getf (pc := 44) dX3_hides_44 fX3_29 rfl rfl ?_
          refine ar_iload_n (i := 2) (pc := 47) dX3_hides_47 rfl rfl ?_
          refine ar_iald (pc := 48) dX3_hides_48 rfl (by assumption) rfl ?_
          refine ar_icmp_ge (pc := 49) (tgt := 56) dX3_hides_49 (by decide) (fun c49 => ?_) (fun c49 => ?_)
          · refine ar_iconst (pc := 56) dX3_hides_56 q_iconst_0 ?_
            refine ar_goto (tgt := 80) (pc := 57) dX3_hides_57 (by decide) ?_
            first
              | exact ar_zret (pc := 80) dX3_hides_80 rfl (Or.inr rfl) rfl rfl ⟨Or.inl ⟨⟨h2, h10, c28, fun z => by first | exact (Int32.not_le.mp c49) | exact absurd c34 z, fun z => by first | exact (Int32.not_le.mp c72) | exact absurd z c34⟩, rfl⟩, rfl⟩
              | exact ar_zret (pc := 80) dX3_hides_80 rfl (Or.inl rfl) rfl rfl ⟨Or.inr ⟨(fun z => by first | exact h2 z.1 | exact h10 z.2.1 | exact c28 z.2.2.1 | exact (Int32.not_lt.mpr c49) (z.2.2.2.1 c34) | exact (Int32.not_lt.mpr c72) (z.2.2.2.2 c34)), rfl⟩, rfl⟩
          · refine ar_iconst (pc := 52) dX3_hides_52 q_iconst_1 ?_
            refine ar_goto (tgt := 80) (pc := 53) dX3_hides_53 (by decide) ?_
            first
              | exact ar_zret (pc := 80) dX3_hides_80 rfl (Or.inr rfl) rfl rfl ⟨Or.inl ⟨⟨h2, h10, c28, fun z => by first | exact (Int32.not_le.mp c49) | exact absurd c34 z, fun z => by first | exact (Int32.not_le.mp c72) | exact absurd z c34⟩, rfl⟩, rfl⟩
              | exact ar_zret (pc := 80) dX3_hides_80 rfl (Or.inl rfl) rfl rfl ⟨Or.inr ⟨(fun z => by first | exact h2 z.1 | exact h10 z.2.1 | exact c28 z.2.2.1 | exact (Int32.not_lt.mpr c49) (z.2.2.2.1 c34) | exact (Int32.not_lt.mpr c72) (z.2.2.2.2 c34)), rfl⟩, rfl⟩
      · refine ar_iconst (pc := 31) dX3_hides_31 q_iconst_0 ?_
        first
          | exact ar_zret (pc := 32) dX3_hides_32 rfl (Or.inr rfl) rfl rfl ⟨Or.inl ⟨⟨h2, h10, c28, fun z => by first | exact (Int32.not_le.mp c49) | exact absurd c34 z, fun z => by first | exact (Int32.not_le.mp c72) | exact absurd z c34⟩, rfl⟩, rfl⟩
          | exact ar_zret (pc := 32) dX3_hides_32 rfl (Or.inl rfl) rfl rfl ⟨Or.inr ⟨(fun z => by first | exact h2 z.1 | exact h10 z.2.1 | exact c28 z.2.2.1 | exact (Int32.not_lt.mpr c49) (z.2.2.2.1 c34) | exact (Int32.not_lt.mpr c72) (z.2.2.2.2 c34)), rfl⟩, rfl⟩
    · refine ⟨rfl, ?_⟩
      refine ar_if_eq (pc := 13) (tgt := 31) dX3_hides_13 (by decide) (fun c13 => ?_) (fun c13 => absurd c13 (by decide))
      refine ar_iconst (pc := 31) dX3_hides_31 q_iconst_0 ?_
      first
        | exact ar_zret (pc := 32) dX3_hides_32 rfl (Or.inr rfl) rfl rfl ⟨Or.inl ⟨⟨h2, h10, c28, fun z => by first | exact (Int32.not_le.mp c49) | exact absurd c34 z, fun z => by first | exact (Int32.not_le.mp c72) | exact absurd z c34⟩, rfl⟩, rfl⟩
        | exact ar_zret (pc := 32) dX3_hides_32 rfl (Or.inl rfl) rfl rfl ⟨Or.inr ⟨(fun z => by first | exact h2 z.1 | exact h10 z.2.1 | exact c28 z.2.2.1 | exact (Int32.not_lt.mpr c49) (z.2.2.2.1 c34) | exact (Int32.not_lt.mpr c72) (z.2.2.2.2 c34)), rfl⟩, rfl⟩
  · refine ⟨rfl, ?_⟩
    refine ar_if_eq (pc := 5) (tgt := 31) dX3_hides_5 (by decide) (fun c5 => ?_) (fun c5 => absurd c5 (by decide))
    refine ar_iconst (pc := 31) dX3_hides_31 q_iconst_0 ?_
    first
      | exact ar_zret (pc := 32) dX3_hides_32 rfl (Or.inr rfl) rfl rfl ⟨Or.inl ⟨⟨h2, h10, c28, fun z => by first | exact (Int32.not_le.mp c49) | exact absurd c34 z, fun z => by first | exact (Int32.not_le.mp c72) | exact absurd z c34⟩, rfl⟩, rfl⟩
      | exact ar_zret (pc := 32) dX3_hides_32 rfl (Or.inl rfl) rfl rfl ⟨Or.inr ⟨(fun z => by first | exact h2 z.1 | exact h10 z.2.1 | exact c28 z.2.2.1 | exact (Int32.not_lt.mpr c49) (z.2.2.2.1 c34) | exact (Int32.not_lt.mpr c72) (z.2.2.2.2 c34)), rfl⟩, rfl⟩

set_option maxHeartbeats 4000000 in
set_option maxRecDepth 100000 in
theorem lX3_isHidden (v : SV) (n : Nat) (hn : vBo v = nI n) (h8 : n ≤ 8) {j : Nat} (hj : j < 8) (l : Int32) : ∀ (d k : Nat), k + d = 8 → (∀ i, i < k → i ≠ j → ¬ hdP v n i j l) → am_RW mX3_isHidden (stH v) (am_bp (∃ i, i < 8 ∧ i ≠ j ∧ hdP v n i j l) (stH v)) 0 0 2 [some (.ref 2), some (.int (nI j)), some (.int l), some (.int (nI k))] [] (stH v) := by
  intro d
  induction d with
  | zero =>
    intro k hk hq
    have e : k = 8 := by omega
    subst e
    refine ar_iload_n (i := 3) (pc := 2) dX3_isHidden_2 rfl rfl ?_
    refine ar_bipush (pc := 3) dX3_isHidden_3 q_bipush_8 ?_
    refine ar_icmp_ge (pc := 5) (tgt := 31) dX3_isHidden_5 (by decide) (fun c5 => ?_) (fun c5 => False.elim (by (simp (disch := omega) only [Int32.lt_iff_toInt_lt, Int32.le_iff_toInt_le, ← Int32.toInt_inj, ti_m6, ti_m1, ti_0, ti_1, ti_2, ti_5, ti_6, ti_8, ti_9, ti_12, ti_100, ti_9999, ti_60, nI_toInt] at c5) <;> omega))
    refine ar_iconst (pc := 31) dX3_isHidden_31 q_iconst_0 ?_
    first
      | exact ar_zret (pc := 32) dX3_isHidden_32 rfl (Or.inr rfl) rfl rfl ⟨Or.inl ⟨(hq.elim), rfl⟩, rfl⟩
      | exact ar_zret (pc := 32) dX3_isHidden_32 rfl (Or.inl rfl) rfl rfl ⟨Or.inr ⟨(fun z => by obtain ⟨i, z1, z2, z3⟩ := z; exact hq i z1 z2 z3), rfl⟩, rfl⟩
  | succ d ih =>
    intro k hk hq
    refine ar_iload_n (i := 3) (pc := 2) dX3_isHidden_2 rfl rfl ?_
    refine ar_bipush (pc := 3) dX3_isHidden_3 q_bipush_8 ?_
    refine ar_icmp_ge (pc := 5) (tgt := 31) dX3_isHidden_5 (by decide) (fun c5 => False.elim (by (simp (disch := omega) only [Int32.lt_iff_toInt_lt, Int32.le_iff_toInt_le, ← Int32.toInt_inj, ti_m6, ti_m1, ti_0, ti_1, ti_2, ti_5, ti_6, ti_8, ti_9, ti_12, ti_100, ti_9999, ti_60, nI_toInt] at c5) <;> omega)) (fun c5 => ?_)
    refine ar_iload_n (i := 3) (pc := 8) dX3_isHidden_8 rfl rfl ?_
    refine ar_iload_n (i := 1) (pc := 9) dX3_isHidden_9 rfl rfl ?_
    refine ar_icmp_eq (pc := 10) (tgt := 25) dX3_isHidden_10 (by decide) (fun c10 => ?_) (fun c10 => ?_)
    · refine ar_iinc (pc := 25) dX3_isHidden_25 rfl (ni_inc _) (Nat.le_of_ble_eq_true rfl) rfl ?_
      refine ar_goto (tgt := 2) (pc := 28) dX3_isHidden_28 (by decide) ?_
      refine ih (k + 1) (by omega) fun i i1 i2 => ?_
      by_cases e : i = k
      · subst e
        first | exact h17 | exact absurd (by simp (disch := omega) only [Int32.lt_iff_toInt_lt, Int32.le_iff_toInt_le, ← Int32.toInt_inj, ti_m6, ti_m1, ti_0, ti_1, ti_2, ti_5, ti_6, ti_8, ti_9, ti_12, ti_100, ti_9999, ti_60, nI_toInt] at c10; omega) i2
      · exact hq i (by omega) i2
    · refine ar_aload_n (i := 0) (pc := 13) dX3_isHidden_13 rfl rfl ?_
      refine ar_iload_n (i := 3) (pc := 14) dX3_isHidden_14 rfl rfl ?_
      refine ar_iload_n (i := 1) (pc := 15) dX3_isHidden_15 rfl rfl ?_
      refine ar_iload_n (i := 2) (pc := 16) dX3_isHidden_16 rfl rfl ?_
      refine ar_idV (pc := 17) dX3_isHidden_17 cal_X3_hides kX3_77 rfl (sX3_hides v n hn h8 (by omega) hj l) rfl rfl rfl rfl rfl rfl rfl (fun r h1 hp => ?_)
      obtain ⟨⟨h17, rfl⟩ | ⟨h17, rfl⟩, rfl⟩ := hp
      · refine ⟨rfl, ?_⟩
        refine ar_if_eq (pc := 20) (tgt := 25) dX3_isHidden_20 (by decide) (fun c20 => absurd c20 (by decide)) (fun c20 => ?_)
        refine ar_iconst (pc := 23) dX3_isHidden_23 q_iconst_1 ?_
        first
          | exact ar_zret (pc := 24) dX3_isHidden_24 rfl (Or.inr rfl) rfl rfl ⟨Or.inl ⟨⟨k, by omega, fun e => c10 (by rw [e]), h17⟩, rfl⟩, rfl⟩
          | exact ar_zret (pc := 24) dX3_isHidden_24 rfl (Or.inl rfl) rfl rfl ⟨Or.inr ⟨(hq.elim), rfl⟩, rfl⟩
      · refine ⟨rfl, ?_⟩
        refine ar_if_eq (pc := 20) (tgt := 25) dX3_isHidden_20 (by decide) (fun c20 => ?_) (fun c20 => absurd c20 (by decide))
        refine ar_iinc (pc := 25) dX3_isHidden_25 rfl (ni_inc _) (Nat.le_of_ble_eq_true rfl) rfl ?_
        refine ar_goto (tgt := 2) (pc := 28) dX3_isHidden_28 (by decide) ?_
        refine ih (k + 1) (by omega) fun i i1 i2 => ?_
        by_cases e : i = k
        · subst e
          first | exact h17 | exact absurd (by simp (disch := omega) only [Int32.lt_iff_toInt_lt, Int32.le_iff_toInt_le, ← Int32.toInt_inj, ti_m6, ti_m1, ti_0, ti_1, ti_2, ti_5, ti_6, ti_8, ti_9, ti_12, ti_100, ti_9999, ti_60, nI_toInt] at c10; omega) i2
        · exact hq i (by omega) i2

set_option maxHeartbeats 4000000 in
set_option maxRecDepth 100000 in
theorem sX3_isHidden (v : SV) (n : Nat) (hn : vBo v = nI n) (h8 : n ≤ 8) {j : Nat} (hj : j < 8) (l : Int32) : am_Sp mX3_isHidden [.ref 2, .int (nI j), .int l] (stH v) ((am_bp (∃ i, i < 8 ∧ i ≠ j ∧ hdP v n i j l) (stH v))) := by
  refine am_intro (by decide) (Nat.le_of_ble_eq_true rfl) ?_
  refine ar_iconst (pc := 0) dX3_isHidden_0 q_iconst_0 ?_
  refine ar_istore_n (i := 3) (pc := 1) dX3_isHidden_1 rfl (Nat.le_of_ble_eq_true rfl) rfl ?_
  exact lX3_isHidden v n hn h8 hj l 8 0 (by omega) (fun i i1 => absurd i1 (Nat.not_lt_zero i))
