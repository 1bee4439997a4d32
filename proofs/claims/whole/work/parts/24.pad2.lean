/-! the class Pad: the fault, the letters -/
theorem pd_00 (l : Int32) (t : Nat → Int32) (q : PQ) : (pdH l t q).set 2 (some (.inl (1, ([.ref 3, .int l, .int (nI q.1), .ref 4, .ref 5] : List Value).set 2 (.int 0)))) = pdH l t (0, q.2) := by rw [← nI_0]; rfl
theorem rdP_le (q : PQ) (h8 : q.1 ≤ 8) (p : Int32) : (rdP q p).1 ≤ 8 := by
  rw [rdP]
  by_cases h : 1 ≤ q.1
  · rw [if_pos h]; exact h8
  · rw [if_neg h]; exact h8
theorem rdC_le (q : PQ) (c : Int32) : rdC q c ≤ 5 := by
  rw [rdC]
  split <;> omega
theorem stA_le {s : Nat} (hs : s < 5) {q : PQ} (h8 : q.1 ≤ 8) (c : Int32) : (stA s q c).1.1 ≤ 8 ∧ (stA s q c).2 ≤ 5 := by
  match s, hs with
  | 0, _ =>
    show (rdH q c).1.1 ≤ 8 ∧ (rdH q c).2 ≤ 5
    rw [rdH]
    by_cases h : 49 ≤ c ∧ c ≤ 57 ∧ q.1 < 8
    · rw [if_pos h]; exact ⟨h.2.2, by show 1 ≤ 5; omega⟩
    · rw [if_neg h]; exact ⟨h8, Nat.le_refl 5⟩
  | 1, _ =>
    refine ⟨h8, ?_⟩
    show (if c = 64 then 2 else rdC q c) ≤ 5
    by_cases h : c = 64
    · rw [if_pos h]; omega
    · rw [if_neg h]; exact rdC_le q c
  | 2, _ =>
    show (rdD q c).1.1 ≤ 8 ∧ (rdD q c).2 ≤ 5
    rw [rdD]
    by_cases h : 48 ≤ c ∧ c ≤ 57
    · rw [if_pos h]; refine ⟨rdP_le q h8 _, ?_⟩
      show (if c = 49 then 3 else 4) ≤ 5
      split <;> omega
    · rw [if_neg h]; exact ⟨h8, Nat.le_refl 5⟩
  | 3, _ =>
    show (if c = 48 ∨ c = 49 then (rdP q (10 + c - 48), 4) else (q, rdC q c) : PQ × Nat).1.1 ≤ 8 ∧ (if c = 48 ∨ c = 49 then (rdP q (10 + c - 48), 4) else (q, rdC q c) : PQ × Nat).2 ≤ 5
    by_cases h : c = 48 ∨ c = 49
    · rw [if_pos h]; exact ⟨rdP_le q h8 _, by show 4 ≤ 5; omega⟩
    · rw [if_neg h]; exact ⟨h8, rdC_le q c⟩
  | 4, _ => exact ⟨h8, rdC_le q c⟩
/-- the reading from the letter i on, d letters more -/
def fnF (t : Nat → Int32) : Nat → Nat → Nat → PQ → PQ × Int32
  | 0, i, s, q => (q, if s = 0 ∨ s = 2 then nI i else -6)
  | d + 1, i, s, q => if (stA s q (t i)).2 = 5 then ((stA s q (t i)).1, nI i) else fnF t d (i + 1) (stA s q (t i)).2 (stA s q (t i)).1
theorem fnF_y {t : Nat → Int32} {d i s : Nat} {q : PQ} {r : PQ × Nat} (er : r = stA s q (t i)) (h : r.2 = 5) : fnF t (d + 1) i s q = (r.1, nI i) := by
  subst er
  rw [fnF, if_pos h]
theorem fnF_n {t : Nat → Int32} {d i s : Nat} {q : PQ} {r : PQ × Nat} (er : r = stA s q (t i)) (h : ¬ r.2 = 5) : fnF t (d + 1) i s q = fnF t d (i + 1) r.2 r.1 := by
  subst er
  rw [fnF, if_neg h]
def fnP (x : PQ × Int32) (l : Int32) (t : Nat → Int32) : Option Value → am_H → Prop := fun r h1 => r = some (.int x.2) ∧ h1 = pdH l t x.1
theorem cd_n {s : Nat} (h : ¬ s = 5) : cd s = nI s := by rw [cd, if_neg h]
theorem cd_w {s : Nat} (h : cd s = -1) (h5 : s ≤ 5) : s = 5 := by
  by_cases e : s = 5
  · exact e
  · rw [cd_n e] at h
    simp (disch := omega) only [Int32.lt_iff_toInt_lt, Int32.le_iff_toInt_le, ← Int32.toInt_inj, ti_m6, ti_m1, ti_0, ti_1, ti_2, ti_3, ti_4, ti_5, ti_6, ti_7, ti_8, ti_9, ti_12, ti_100, ti_9999, ti_60, nI_toInt] at h
    omega
set_option maxHeartbeats 4000000 in
set_option maxRecDepth 100000 in
theorem lX2_findFault_9 (h0 : am_H) (t : Nat → Int32) (L : Nat) (hL : L ≤ 60) : ∀ (d i s : Nat) (q : PQ), i + d = L → q.1 ≤ 8 → s < 5 → am_RW mX2_findFault h0 (fnP (fnF t d i s q) (nI L) t) 0 0 9 [some (.ref 2), some (.int (nI s)), some (.int (nI i))] [] (pdH (nI L) t q) := by
  intro d
  induction d with
  | zero =>
    intro i s q hi h8 hs
    have e : i = L := by omega
    subst e
    refine ar_iload_n (i := 2) (pc := 9) dX2_findFault_9 rfl rfl ?_
    refine ar_aload_n (i := 0) (pc := 10) dX2_findFault_10 rfl rfl ?_
    refine ar_getf (pc := 11) dX2_findFault_11 fX2_28 rfl rfl ?_
    refine ar_icmp_ge (pc := 14) (tgt := 51) dX2_findFault_14 (by decide) (fun c14 => ?_) (fun c14 => False.elim (by (simp (disch := omega) only [Int32.lt_iff_toInt_lt, Int32.le_iff_toInt_le, ← Int32.toInt_inj, ti_m6, ti_m1, ti_0, ti_1, ti_2, ti_3, ti_4, ti_5, ti_6, ti_7, ti_8, ti_9, ti_12, ti_100, ti_9999, ti_60, nI_toInt] at c14) <;> omega))
    refine ar_iload_n (i := 1) (pc := 51) dX2_findFault_51 rfl rfl ?_
    refine ar_if_eq (pc := 52) (tgt := 60) dX2_findFault_52 (by decide) (fun c52 => ?_) (fun c52 => ?_)
    · refine ar_aload_n (i := 0) (pc := 60) dX2_findFault_60 rfl rfl ?_
      refine ar_getf (pc := 61) dX2_findFault_61 fX2_28 rfl rfl ?_
      refine ar_goto (tgt := 69) (pc := 64) dX2_findFault_64 (by decide) ?_
      exact ar_iret (pc := 69) dX2_findFault_69 rfl rfl rfl ⟨by rw [fnF, if_pos (Or.inl (by (simp (disch := omega) only [Int32.lt_iff_toInt_lt, Int32.le_iff_toInt_le, ← Int32.toInt_inj, ti_m6, ti_m1, ti_0, ti_1, ti_2, ti_3, ti_4, ti_5, ti_6, ti_7, ti_8, ti_9, ti_12, ti_100, ti_9999, ti_60, nI_toInt] at c52); omega))], by rw [fnF]⟩
    · refine ar_iload_n (i := 1) (pc := 55) dX2_findFault_55 rfl rfl ?_
      refine ar_iconst (pc := 56) dX2_findFault_56 q_iconst_2 ?_
      refine ar_icmp_ne (pc := 57) (tgt := 67) dX2_findFault_57 (by decide) (fun c57 => ?_) (fun c57 => ?_)
      · refine ar_bipush (pc := 67) dX2_findFault_67 q_bipush_m6 ?_
        exact ar_iret (pc := 69) dX2_findFault_69 rfl rfl rfl ⟨by rw [fnF, if_neg (fun z => z.elim (fun z => c52 (by rw [z, nI_0])) (fun z => c57 (by rw [z]; decide +kernel)))], by rw [fnF]⟩
      · refine ar_aload_n (i := 0) (pc := 60) dX2_findFault_60 rfl rfl ?_
        refine ar_getf (pc := 61) dX2_findFault_61 fX2_28 rfl rfl ?_
        refine ar_goto (tgt := 69) (pc := 64) dX2_findFault_64 (by decide) ?_
        exact ar_iret (pc := 69) dX2_findFault_69 rfl rfl rfl ⟨by rw [fnF, if_pos (Or.inr (by (simp (disch := omega) only [Int32.lt_iff_toInt_lt, Int32.le_iff_toInt_le, ← Int32.toInt_inj, ti_m6, ti_m1, ti_0, ti_1, ti_2, ti_3, ti_4, ti_5, ti_6, ti_7, ti_8, ti_9, ti_12, ti_100, ti_9999, ti_60, nI_toInt] at c57); omega))], by rw [fnF]⟩
  | succ d ih =>
    intro i s q hi h8 hs
    refine ar_iload_n (i := 2) (pc := 9) dX2_findFault_9 rfl rfl ?_
    refine ar_aload_n (i := 0) (pc := 10) dX2_findFault_10 rfl rfl ?_
    refine ar_getf (pc := 11) dX2_findFault_11 fX2_28 rfl rfl ?_
    refine ar_icmp_ge (pc := 14) (tgt := 51) dX2_findFault_14 (by decide) (fun c14 => False.elim (by (simp (disch := omega) only [Int32.lt_iff_toInt_lt, Int32.le_iff_toInt_le, ← Int32.toInt_inj, ti_m6, ti_m1, ti_0, ti_1, ti_2, ti_3, ti_4, ti_5, ti_6, ti_7, ti_8, ti_9, ti_12, ti_100, ti_9999, ti_60, nI_toInt] at c14) <;> omega)) (fun c14 => ?_)
    refine ar_iload_n (i := 2) (pc := 17) dX2_findFault_17 rfl rfl ?_
    refine ar_aload_n (i := 0) (pc := 18) dX2_findFault_18 rfl rfl ?_
    refine ar_getf (pc := 19) dX2_findFault_19 fX2_9 rfl rfl ?_
    refine ar_alen (pc := 22) dX2_findFault_22 rfl ?_
    refine ar_icmp_ge (pc := 23) (tgt := 51) dX2_findFault_23 (by decide) (fun c23 => False.elim (by (simp (disch := omega) only [Int32.lt_iff_toInt_lt, Int32.le_iff_toInt_le, ← Int32.toInt_inj, ti_m6, ti_m1, ti_0, ti_1, ti_2, ti_3, ti_4, ti_5, ti_6, ti_7, ti_8, ti_9, ti_12, ti_100, ti_9999, ti_60, nI_toInt] at c23) <;> omega)) (fun c23 => ?_)
    refine ar_aload_n (i := 0) (pc := 26) dX2_findFault_26 rfl rfl ?_
    refine ar_iload_n (i := 1) (pc := 27) dX2_findFault_27 rfl rfl ?_
    refine ar_aload_n (i := 0) (pc := 28) dX2_findFault_28 rfl rfl ?_
    refine ar_getf (pc := 29) dX2_findFault_29 fX2_9 rfl rfl ?_
    refine ar_iload_n (i := 2) (pc := 32) dX2_findFault_32 rfl rfl ?_
    refine ar_cald (pc := 33) dX2_findFault_33 rfl (show i < 60 by omega) rfl ?_
    refine ar_idV (pc := 34) dX2_findFault_34 cal_X2_stageAfter kX2_35 rfl (sX2_stageAfter (nI L) t q h8 s hs (t i)) rfl rfl rfl rfl rfl rfl rfl (fun r h1 hp => ?_)
    obtain ⟨rfl, rfl⟩ := hp
    refine ⟨pat_pd .., ?_⟩
    have h34 := stA_le hs h8 (t i)
    obtain ⟨r34, e34⟩ : ∃ r, r = stA s q (t i) := ⟨_, rfl⟩
    rw [← e34]
    rw [← e34] at h34
    refine ar_istore_n (i := 1) (pc := 37) dX2_findFault_37 rfl (Nat.le_of_ble_eq_true rfl) rfl ?_
    refine ar_iload_n (i := 1) (pc := 38) dX2_findFault_38 rfl rfl ?_
    refine ar_iconst (pc := 39) dX2_findFault_39 q_iconst_m1 ?_
    refine ar_icmp_ne (pc := 40) (tgt := 45) dX2_findFault_40 (by decide) (fun c40 => ?_) (fun c40 => ?_)
    · refine ar_iinc (pc := 45) dX2_findFault_45 rfl (ni_inc _) (Nat.le_of_ble_eq_true rfl) rfl ?_
      refine ar_goto (tgt := 9) (pc := 48) dX2_findFault_48 (by decide) ?_
      have h5 : ¬ r34.2 = 5 := fun z => c40 (by rw [z, cd_5])
      rw [fnF_n e34 h5, cd_n h5]
      exact ih (i + 1) r34.2 r34.1 (by omega) h34.1 (by omega)
    · refine ar_iload_n (i := 2) (pc := 43) dX2_findFault_43 rfl rfl ?_
      exact ar_iret (pc := 44) dX2_findFault_44 rfl rfl rfl ⟨by rw [fnF_y e34 (cd_w c40 h34.2)], by rw [fnF_y e34 (cd_w c40 h34.2)]⟩
set_option maxHeartbeats 4000000 in
set_option maxRecDepth 100000 in
theorem sX2_findFault (t : Nat → Int32) (L : Nat) (hL : L ≤ 60) (q : PQ) : am_Sp mX2_findFault [.ref 2] (pdH (nI L) t q) (fnP (fnF t L 0 0 (0, q.2)) (nI L) t) := by
  refine am_intro (by decide) (Nat.le_of_ble_eq_true rfl) ?_
  refine ar_aload_n (i := 0) (pc := 0) dX2_findFault_0 rfl rfl ?_
  refine ar_iconst (pc := 1) dX2_findFault_1 q_iconst_0 ?_
  refine ar_putf (pc := 2) dX2_findFault_2 fX2_32 rfl (Nat.le_of_ble_eq_true rfl) (fun _ => ⟨rfl, rfl⟩) ?_
  rw [pd_00]
  refine ar_iconst (pc := 5) dX2_findFault_5 q_iconst_0 ?_
  refine ar_istore_n (i := 1) (pc := 6) dX2_findFault_6 rfl (Nat.le_of_ble_eq_true rfl) rfl ?_
  refine ar_iconst (pc := 7) dX2_findFault_7 q_iconst_0 ?_
  refine ar_istore_n (i := 2) (pc := 8) dX2_findFault_8 rfl (Nat.le_of_ble_eq_true rfl) rfl ?_
  have h := lX2_findFault_9 (pdH (nI L) t q) t L hL L 0 0 (0, q.2) (by omega) (by show 0 ≤ 8; omega) (by omega)
  rw [nI_0] at h
  exact h

