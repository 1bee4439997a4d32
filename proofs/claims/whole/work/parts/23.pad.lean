/-! the class Pad -/
/-- the parts a Pad has read: how many, their heights, their pitches -/
abbrev PQ : Type := Nat × (Nat → Int32) × (Nat → Int32)
def pdB (b : Nat) (l : Int32) (t : Nat → Int32) (q : PQ) : am_H := [some (.inl (1, [.ref (b + 1), .int l, .int (nI q.1), .ref (b + 2), .ref (b + 3)])), some (.inr (.inl (.char, true, 60, t))), some (am_ia 8 q.2.1), some (am_ia 8 q.2.2)]
def pdH (l : Int32) (t : Nat → Int32) (q : PQ) : am_H := none :: none :: pdB 2 l t q
theorem pd_0 (l : Int32) (t : Nat → Int32) (q : PQ) (m : Nat) : (pdH l t q).set 2 (some (.inl (1, ([.ref 3, .int l, .int (nI q.1), .ref 4, .ref 5] : List Value).set 2 (.int (nI m))))) = pdH l t (m, q.2) := rfl
theorem pd_l (l : Int32) (t : Nat → Int32) (q : PQ) (m : Int32) : (pdH l t q).set 2 (some (.inl (1, ([.ref 3, .int l, .int (nI q.1), .ref 4, .ref 5] : List Value).set 1 (.int m)))) = pdH m t q := rfl
theorem pd_h (l : Int32) (t : Nat → Int32) (q : PQ) (f : Nat → Int32) : (pdH l t q).set 4 (some (am_ia 8 f)) = pdH l t (q.1, f, q.2.2) := rfl
theorem pd_p (l : Int32) (t : Nat → Int32) (q : PQ) (f : Nat → Int32) : (pdH l t q).set 5 (some (am_ia 8 f)) = pdH l t (q.1, q.2.1, f) := rfl
theorem pd_t (l : Int32) (t : Nat → Int32) (q : PQ) (f : Nat → Int32) : (pdH l t q).set 3 (some (.inr (.inl (.char, true, 60, f)))) = pdH l f q := rfl
theorem pat_pd (l : Int32) (t : Nat → Int32) (q : PQ) (l2 : Int32) (t2 : Nat → Int32) (q2 : PQ) : am_pat (pdH l t q) = am_pat (pdH l2 t2 q2) := rfl
/-- the stages of the reading, 5 for wrong -/
def cd (s : Nat) : Int32 := if s = 5 then -1 else nI s
def rdC (q : PQ) (c : Int32) : Nat := if c = 44 ∧ q.1 < 8 then 0 else 5
def rdP (q : PQ) (p : Int32) : PQ := if 1 ≤ q.1 then (q.1, q.2.1, upd q.2.2 (q.1 - 1) p) else q
def rdH (q : PQ) (c : Int32) : PQ × Nat := if 49 ≤ c ∧ c ≤ 57 ∧ q.1 < 8 then ((q.1 + 1, upd q.2.1 q.1 (c - 48), upd q.2.2 q.1 (-6)), 1) else (q, 5)
def rdD (q : PQ) (c : Int32) : PQ × Nat := if 48 ≤ c ∧ c ≤ 57 then (rdP q (c - 48), if c = 49 then 3 else 4) else (q, 5)
def rsP (x : PQ × Nat) (l : Int32) (t : Nat → Int32) : Option Value → am_H → Prop := fun r h1 => r = some (.int (cd x.2)) ∧ h1 = pdH l t x.1
theorem cd_5 : cd 5 = -1 := by decide +kernel
theorem cd_0 : cd 0 = 0 := by decide +kernel
theorem cd_1 : cd 1 = 1 := by decide +kernel
theorem cd_2 : cd 2 = 2 := by decide +kernel
theorem cd_3 : cd 3 = 3 := by decide +kernel
theorem cd_4 : cd 4 = 4 := by decide +kernel
set_option maxHeartbeats 4000000 in
set_option maxRecDepth 100000 in
theorem sX2_readComma (l : Int32) (t : Nat → Int32) (q : PQ) (h8 : q.1 ≤ 8) (c : Int32) : am_Sp mX2_readComma [.ref 2, .int c] (pdH l t q) (rsP (q, rdC q c) l t) := by
  refine am_intro (by decide) (Nat.le_of_ble_eq_true rfl) ?_
  refine ar_iload_n (i := 1) (pc := 0) dX2_readComma_0 rfl rfl ?_
  refine ar_bipush (pc := 1) dX2_readComma_1 q_bipush_44 ?_
  refine ar_icmp_ne (pc := 3) (tgt := 19) dX2_readComma_3 (by decide) (fun c3 => ?_) (fun c3 => ?_)
  · refine ar_iconst (pc := 19) dX2_readComma_19 q_iconst_m1 ?_
    exact ar_iret (pc := 20) dX2_readComma_20 rfl rfl rfl ⟨by rw [rdC, if_neg (fun z => c3 z.1), cd_5], rfl⟩
  · refine ar_aload_n (i := 0) (pc := 6) dX2_readComma_6 rfl rfl ?_
    refine ar_getf (pc := 7) dX2_readComma_7 fX2_32 rfl rfl ?_
    refine ar_bipush (pc := 10) dX2_readComma_10 q_bipush_8 ?_
    refine ar_icmp_ge (pc := 12) (tgt := 19) dX2_readComma_12 (by decide) (fun c12 => ?_) (fun c12 => ?_)
    · refine ar_iconst (pc := 19) dX2_readComma_19 q_iconst_m1 ?_
      exact ar_iret (pc := 20) dX2_readComma_20 rfl rfl rfl ⟨by rw [rdC, if_neg (fun z => by have := z.2; (simp (disch := omega) only [Int32.lt_iff_toInt_lt, Int32.le_iff_toInt_le, ← Int32.toInt_inj, ti_m6, ti_m1, ti_0, ti_1, ti_2, ti_3, ti_4, ti_5, ti_6, ti_7, ti_8, ti_9, ti_12, ti_100, ti_9999, ti_60, nI_toInt] at c12); omega), cd_5], rfl⟩
    · refine ar_iconst (pc := 15) dX2_readComma_15 q_iconst_0 ?_
      refine ar_goto (tgt := 20) (pc := 16) dX2_readComma_16 (by decide) ?_
      exact ar_iret (pc := 20) dX2_readComma_20 rfl rfl rfl ⟨by rw [rdC, if_pos ⟨c3, by (simp (disch := omega) only [Int32.lt_iff_toInt_lt, Int32.le_iff_toInt_le, ← Int32.toInt_inj, ti_m6, ti_m1, ti_0, ti_1, ti_2, ti_3, ti_4, ti_5, ti_6, ti_7, ti_8, ti_9, ti_12, ti_100, ti_9999, ti_60, nI_toInt] at c12); omega⟩, cd_0], rfl⟩

set_option maxHeartbeats 4000000 in
set_option maxRecDepth 100000 in
theorem sX2_readPitch (l : Int32) (t : Nat → Int32) (q : PQ) (h8 : q.1 ≤ 8) (p : Int32) : am_Sp mX2_readPitch [.ref 2, .int p] (pdH l t q) (rsP (rdP q p, 4) l t) := by
  refine am_intro (by decide) (Nat.le_of_ble_eq_true rfl) ?_
  refine ar_aload_n (i := 0) (pc := 0) dX2_readPitch_0 rfl rfl ?_
  refine ar_getf (pc := 1) dX2_readPitch_1 fX2_32 rfl rfl ?_
  refine ar_iconst (pc := 4) dX2_readPitch_4 q_iconst_1 ?_
  refine ar_icmp_lt (pc := 5) (tgt := 29) dX2_readPitch_5 (by decide) (fun c5 => ?_) (fun c5 => ?_)
  · refine ar_iconst (pc := 29) dX2_readPitch_29 q_iconst_4 ?_
    exact ar_iret (pc := 30) dX2_readPitch_30 rfl rfl rfl ⟨by rw [cd_4], by rw [rdP, if_neg (show ¬ 1 ≤ q.1 by (simp (disch := omega) only [Int32.lt_iff_toInt_lt, Int32.le_iff_toInt_le, ← Int32.toInt_inj, ti_m6, ti_m1, ti_0, ti_1, ti_2, ti_3, ti_4, ti_5, ti_6, ti_7, ti_8, ti_9, ti_12, ti_100, ti_9999, ti_60, nI_toInt] at c5); omega)]⟩
  · refine ar_aload_n (i := 0) (pc := 8) dX2_readPitch_8 rfl rfl ?_
    refine ar_getf (pc := 9) dX2_readPitch_9 fX2_32 rfl rfl ?_
    refine ar_bipush (pc := 12) dX2_readPitch_12 q_bipush_8 ?_
    refine ar_icmp_gt (pc := 14) (tgt := 29) dX2_readPitch_14 (by decide) (fun c14 => by (simp (disch := omega) only [Int32.lt_iff_toInt_lt, Int32.le_iff_toInt_le, ← Int32.toInt_inj, ti_m6, ti_m1, ti_0, ti_1, ti_2, ti_3, ti_4, ti_5, ti_6, ti_7, ti_8, ti_9, ti_12, ti_100, ti_9999, ti_60, nI_toInt] at c14) <;> omega) (fun c14 => ?_)
    refine ar_aload_n (i := 0) (pc := 17) dX2_readPitch_17 rfl rfl ?_
    refine ar_getf (pc := 18) dX2_readPitch_18 fX2_19 rfl rfl ?_
    refine ar_aload_n (i := 0) (pc := 21) dX2_readPitch_21 rfl rfl ?_
    refine ar_getf (pc := 22) dX2_readPitch_22 fX2_32 rfl rfl ?_
    refine ar_iconst (pc := 25) dX2_readPitch_25 q_iconst_1 ?_
    refine ar_isub (pc := 26) dX2_readPitch_26 ?_
    refine ar_iload_n (i := 1) (pc := 27) dX2_readPitch_27 rfl rfl ?_
    refine ar_iast (pc := 28) dX2_readPitch_28 rfl (show q.1 - 1 < 8 by omega) (by obtain ⟨m, hm⟩ : ∃ m, q.1 = m + 1 := ⟨q.1 - 1, by (simp (disch := omega) only [Int32.lt_iff_toInt_lt, Int32.le_iff_toInt_le, ← Int32.toInt_inj, ti_m6, ti_m1, ti_0, ti_1, ti_2, ti_3, ti_4, ti_5, ti_6, ti_7, ti_8, ti_9, ti_12, ti_100, ti_9999, ti_60, nI_toInt] at c5); omega⟩; rw [hm, nI_pred, Nat.add_sub_cancel]) ?_
    refine ar_iconst (pc := 29) dX2_readPitch_29 q_iconst_4 ?_
    exact ar_iret (pc := 30) dX2_readPitch_30 rfl rfl rfl ⟨by rw [cd_4], by rw [pd_p, rdP, if_pos (show 1 ≤ q.1 by (simp (disch := omega) only [Int32.lt_iff_toInt_lt, Int32.le_iff_toInt_le, ← Int32.toInt_inj, ti_m6, ti_m1, ti_0, ti_1, ti_2, ti_3, ti_4, ti_5, ti_6, ti_7, ti_8, ti_9, ti_12, ti_100, ti_9999, ti_60, nI_toInt] at c5); omega)]⟩

set_option maxHeartbeats 4000000 in
set_option maxRecDepth 100000 in
theorem sX2_readHeight (l : Int32) (t : Nat → Int32) (q : PQ) (h8 : q.1 ≤ 8) (c : Int32) : am_Sp mX2_readHeight [.ref 2, .int c] (pdH l t q) (rsP (rdH q c) l t) := by
  refine am_intro (by decide) (Nat.le_of_ble_eq_true rfl) ?_
  refine ar_iload_n (i := 1) (pc := 0) dX2_readHeight_0 rfl rfl ?_
  refine ar_bipush (pc := 1) dX2_readHeight_1 q_bipush_49 ?_
  refine ar_icmp_lt (pc := 3) (tgt := 21) dX2_readHeight_3 (by decide) (fun c3 => ?_) (fun c3 => ?_)
  · refine ar_iconst (pc := 21) dX2_readHeight_21 q_iconst_m1 ?_
    exact ar_iret (pc := 22) dX2_readHeight_22 rfl rfl rfl ⟨by rw [rdH, if_neg (fun z => Int32.not_lt.mpr z.1 c3), cd_5], by rw [rdH, if_neg (fun z => Int32.not_lt.mpr z.1 c3)]⟩
  · refine ar_iload_n (i := 1) (pc := 6) dX2_readHeight_6 rfl rfl ?_
    refine ar_bipush (pc := 7) dX2_readHeight_7 q_bipush_57 ?_
    refine ar_icmp_gt (pc := 9) (tgt := 21) dX2_readHeight_9 (by decide) (fun c9 => ?_) (fun c9 => ?_)
    · refine ar_iconst (pc := 21) dX2_readHeight_21 q_iconst_m1 ?_
      exact ar_iret (pc := 22) dX2_readHeight_22 rfl rfl rfl ⟨by rw [rdH, if_neg (fun z => Int32.not_lt.mpr z.2.1 c9), cd_5], by rw [rdH, if_neg (fun z => Int32.not_lt.mpr z.2.1 c9)]⟩
    · refine ar_aload_n (i := 0) (pc := 12) dX2_readHeight_12 rfl rfl ?_
      refine ar_getf (pc := 13) dX2_readHeight_13 fX2_32 rfl rfl ?_
      refine ar_bipush (pc := 16) dX2_readHeight_16 q_bipush_8 ?_
      refine ar_icmp_lt (pc := 18) (tgt := 23) dX2_readHeight_18 (by decide) (fun c18 => ?_) (fun c18 => ?_)
      · refine ar_aload_n (i := 0) (pc := 23) dX2_readHeight_23 rfl rfl ?_
        refine ar_getf (pc := 24) dX2_readHeight_24 fX2_15 rfl rfl ?_
        refine ar_aload_n (i := 0) (pc := 27) dX2_readHeight_27 rfl rfl ?_
        refine ar_getf (pc := 28) dX2_readHeight_28 fX2_32 rfl rfl ?_
        refine ar_iload_n (i := 1) (pc := 31) dX2_readHeight_31 rfl rfl ?_
        refine ar_bipush (pc := 32) dX2_readHeight_32 q_bipush_48 ?_
        refine ar_isub (pc := 34) dX2_readHeight_34 ?_
        refine ar_iast (pc := 35) dX2_readHeight_35 rfl (show q.1 < 8 by (simp (disch := omega) only [Int32.lt_iff_toInt_lt, Int32.le_iff_toInt_le, ← Int32.toInt_inj, ti_m6, ti_m1, ti_0, ti_1, ti_2, ti_3, ti_4, ti_5, ti_6, ti_7, ti_8, ti_9, ti_12, ti_100, ti_9999, ti_60, nI_toInt] at c18); omega) rfl ?_
        rw [pd_h]
        refine ar_aload_n (i := 0) (pc := 36) dX2_readHeight_36 rfl rfl ?_
        refine ar_getf (pc := 37) dX2_readHeight_37 fX2_19 rfl rfl ?_
        refine ar_aload_n (i := 0) (pc := 40) dX2_readHeight_40 rfl rfl ?_
        refine ar_getf (pc := 41) dX2_readHeight_41 fX2_32 rfl rfl ?_
        refine ar_bipush (pc := 44) dX2_readHeight_44 q_bipush_m6 ?_
        refine ar_iast (pc := 46) dX2_readHeight_46 rfl (show q.1 < 8 by (simp (disch := omega) only [Int32.lt_iff_toInt_lt, Int32.le_iff_toInt_le, ← Int32.toInt_inj, ti_m6, ti_m1, ti_0, ti_1, ti_2, ti_3, ti_4, ti_5, ti_6, ti_7, ti_8, ti_9, ti_12, ti_100, ti_9999, ti_60, nI_toInt] at c18); omega) rfl ?_
        rw [pd_p]
        refine ar_aload_n (i := 0) (pc := 47) dX2_readHeight_47 rfl rfl ?_
        refine ar_dup (pc := 48) dX2_readHeight_48 rfl ?_
        refine ar_getf (pc := 49) dX2_readHeight_49 fX2_32 rfl rfl ?_
        refine ar_iconst (pc := 52) dX2_readHeight_52 q_iconst_1 ?_
        refine ar_iadd (pc := 53) dX2_readHeight_53 ?_
        rw [nI_1]
        refine ar_putf (pc := 54) dX2_readHeight_54 fX2_32 rfl (Nat.le_of_ble_eq_true rfl) (fun _ => ⟨rfl, rfl⟩) ?_
        rw [pd_0]
        refine ar_iconst (pc := 57) dX2_readHeight_57 q_iconst_1 ?_
        exact ar_iret (pc := 58) dX2_readHeight_58 rfl rfl rfl ⟨by rw [rdH, if_pos ⟨Int32.not_lt.mp c3, Int32.not_lt.mp c9, by (simp (disch := omega) only [Int32.lt_iff_toInt_lt, Int32.le_iff_toInt_le, ← Int32.toInt_inj, ti_m6, ti_m1, ti_0, ti_1, ti_2, ti_3, ti_4, ti_5, ti_6, ti_7, ti_8, ti_9, ti_12, ti_100, ti_9999, ti_60, nI_toInt] at c18); omega⟩, cd_1], by rw [rdH, if_pos ⟨Int32.not_lt.mp c3, Int32.not_lt.mp c9, by (simp (disch := omega) only [Int32.lt_iff_toInt_lt, Int32.le_iff_toInt_le, ← Int32.toInt_inj, ti_m6, ti_m1, ti_0, ti_1, ti_2, ti_3, ti_4, ti_5, ti_6, ti_7, ti_8, ti_9, ti_12, ti_100, ti_9999, ti_60, nI_toInt] at c18); omega⟩]⟩
      · refine ar_iconst (pc := 21) dX2_readHeight_21 q_iconst_m1 ?_
        exact ar_iret (pc := 22) dX2_readHeight_22 rfl rfl rfl ⟨by rw [rdH, if_neg (fun z => (by have := z.2.2; (simp (disch := omega) only [Int32.lt_iff_toInt_lt, Int32.le_iff_toInt_le, ← Int32.toInt_inj, ti_m6, ti_m1, ti_0, ti_1, ti_2, ti_3, ti_4, ti_5, ti_6, ti_7, ti_8, ti_9, ti_12, ti_100, ti_9999, ti_60, nI_toInt] at c18); omega)), cd_5], by rw [rdH, if_neg (fun z => (by have := z.2.2; (simp (disch := omega) only [Int32.lt_iff_toInt_lt, Int32.le_iff_toInt_le, ← Int32.toInt_inj, ti_m6, ti_m1, ti_0, ti_1, ti_2, ti_3, ti_4, ti_5, ti_6, ti_7, ti_8, ti_9, ti_12, ti_100, ti_9999, ti_60, nI_toInt] at c18); omega))]⟩

set_option maxHeartbeats 4000000 in
set_option maxRecDepth 100000 in
theorem sX2_readFirstDigit (l : Int32) (t : Nat → Int32) (q : PQ) (h8 : q.1 ≤ 8) (c : Int32) : am_Sp mX2_readFirstDigit [.ref 2, .int c] (pdH l t q) (rsP (rdD q c) l t) := by
  refine am_intro (by decide) (Nat.le_of_ble_eq_true rfl) ?_
  refine ar_iload_n (i := 1) (pc := 0) dX2_readFirstDigit_0 rfl rfl ?_
  refine ar_bipush (pc := 1) dX2_readFirstDigit_1 q_bipush_48 ?_
  refine ar_icmp_lt (pc := 3) (tgt := 12) dX2_readFirstDigit_3 (by decide) (fun c3 => ?_) (fun c3 => ?_)
  · refine ar_iconst (pc := 12) dX2_readFirstDigit_12 q_iconst_m1 ?_
    exact ar_iret (pc := 13) dX2_readFirstDigit_13 rfl rfl rfl ⟨by rw [rdD, if_neg (fun z => Int32.not_lt.mpr z.1 c3), cd_5], by rw [rdD, if_neg (fun z => Int32.not_lt.mpr z.1 c3)]⟩
  · refine ar_iload_n (i := 1) (pc := 6) dX2_readFirstDigit_6 rfl rfl ?_
    refine ar_bipush (pc := 7) dX2_readFirstDigit_7 q_bipush_57 ?_
    refine ar_icmp_le (pc := 9) (tgt := 14) dX2_readFirstDigit_9 (by decide) (fun c9 => ?_) (fun c9 => ?_)
    · refine ar_aload_n (i := 0) (pc := 14) dX2_readFirstDigit_14 rfl rfl ?_
      refine ar_iload_n (i := 1) (pc := 15) dX2_readFirstDigit_15 rfl rfl ?_
      refine ar_bipush (pc := 16) dX2_readFirstDigit_16 q_bipush_48 ?_
      refine ar_isub (pc := 18) dX2_readFirstDigit_18 ?_
      refine ar_idV (pc := 19) dX2_readFirstDigit_19 cal_X2_readPitch kX2_49 rfl (sX2_readPitch l t q h8 (c - 48)) rfl rfl rfl rfl rfl rfl rfl (fun r h1 hp => ?_)
      obtain ⟨rfl, rfl⟩ := hp
      refine ⟨pat_pd .., ?_⟩
      refine ar_pop (pc := 22) dX2_readFirstDigit_22 rfl ?_
      refine ar_iload_n (i := 1) (pc := 23) dX2_readFirstDigit_23 rfl rfl ?_
      refine ar_bipush (pc := 24) dX2_readFirstDigit_24 q_bipush_49 ?_
      refine ar_icmp_ne (pc := 26) (tgt := 33) dX2_readFirstDigit_26 (by decide) (fun c26 => ?_) (fun c26 => ?_)
      · refine ar_iconst (pc := 33) dX2_readFirstDigit_33 q_iconst_4 ?_
        exact ar_iret (pc := 34) dX2_readFirstDigit_34 rfl rfl rfl ⟨by rw [rdD, if_pos ⟨Int32.not_lt.mp c3, c9⟩, if_neg c26, cd_4], by rw [rdD, if_pos ⟨Int32.not_lt.mp c3, c9⟩]⟩
      · refine ar_iconst (pc := 29) dX2_readFirstDigit_29 q_iconst_3 ?_
        refine ar_goto (tgt := 34) (pc := 30) dX2_readFirstDigit_30 (by decide) ?_
        exact ar_iret (pc := 34) dX2_readFirstDigit_34 rfl rfl rfl ⟨by rw [rdD, if_pos ⟨Int32.not_lt.mp c3, c9⟩, if_pos (c26), cd_3], by rw [rdD, if_pos ⟨Int32.not_lt.mp c3, c9⟩]⟩
    · refine ar_iconst (pc := 12) dX2_readFirstDigit_12 q_iconst_m1 ?_
      exact ar_iret (pc := 13) dX2_readFirstDigit_13 rfl rfl rfl ⟨by rw [rdD, if_neg (fun z => c9 z.2), cd_5], by rw [rdD, if_neg (fun z => c9 z.2)]⟩

def stA (s : Nat) (q : PQ) (c : Int32) : PQ × Nat := match s with
  | 0 => rdH q c
  | 1 => (q, if c = 64 then 2 else rdC q c)
  | 2 => rdD q c
  | 3 => if c = 48 ∨ c = 49 then (rdP q (10 + c - 48), 4) else (q, rdC q c)
  | 4 => (q, rdC q c)
  | _ => (q, 5)
set_option maxHeartbeats 4000000 in
set_option maxRecDepth 100000 in
theorem sX2_stageAfter (l : Int32) (t : Nat → Int32) (q : PQ) (h8 : q.1 ≤ 8) (s : Nat) (hs : s < 5) (c : Int32) : am_Sp mX2_stageAfter [.ref 2, .int (nI s), .int c] (pdH l t q) (rsP (stA s q c) l t) := by
  refine am_intro (by decide) (Nat.le_of_ble_eq_true rfl) ?_
  refine ar_iload_n (i := 1) (pc := 0) dX2_stageAfter_0 rfl rfl ?_
  match s, hs with
  | 0, _ =>
    refine ar_tsIn (pc := 1) (tgt := 36) (off := 35) dX2_stageAfter_1 (by decide +kernel) (by decide +kernel) (by decide +kernel) (by decide) ?_
    refine ar_aload_n (i := 0) (pc := 36) dX2_stageAfter_36 rfl rfl ?_
    refine ar_iload_n (i := 2) (pc := 37) dX2_stageAfter_37 rfl rfl ?_
    refine ar_idV (pc := 38) dX2_stageAfter_38 cal_X2_readHeight kX2_39 rfl (sX2_readHeight l t q h8 c) rfl rfl rfl rfl rfl rfl rfl (fun r h1 hp => ?_)
    obtain ⟨rfl, rfl⟩ := hp
    refine ⟨pat_pd .., ?_⟩
    exact ar_iret (pc := 41) dX2_stageAfter_41 rfl rfl rfl ⟨rfl, rfl⟩
  | 1, _ =>
    refine ar_tsIn (pc := 1) (tgt := 42) (off := 41) dX2_stageAfter_1 (by decide +kernel) (by decide +kernel) (by decide +kernel) (by decide) ?_
    refine ar_iload_n (i := 2) (pc := 42) dX2_stageAfter_42 rfl rfl ?_
    refine ar_bipush (pc := 43) dX2_stageAfter_43 q_bipush_64 ?_
    refine ar_icmp_ne (pc := 45) (tgt := 52) dX2_stageAfter_45 (by decide) (fun c45 => ?_) (fun c45 => ?_)
    · refine ar_aload_n (i := 0) (pc := 52) dX2_stageAfter_52 rfl rfl ?_
      refine ar_iload_n (i := 2) (pc := 53) dX2_stageAfter_53 rfl rfl ?_
      refine ar_idV (pc := 54) dX2_stageAfter_54 cal_X2_readComma kX2_43 rfl (sX2_readComma l t q h8 c) rfl rfl rfl rfl rfl rfl rfl (fun r h1 hp => ?_)
      obtain ⟨rfl, rfl⟩ := hp
      refine ⟨pat_pd .., ?_⟩
      exact ar_iret (pc := 57) dX2_stageAfter_57 rfl rfl rfl ⟨by rw [stA, if_neg c45], rfl⟩
    · refine ar_iconst (pc := 48) dX2_stageAfter_48 q_iconst_2 ?_
      refine ar_goto (tgt := 57) (pc := 49) dX2_stageAfter_49 (by decide) ?_
      exact ar_iret (pc := 57) dX2_stageAfter_57 rfl rfl rfl ⟨by rw [stA, if_pos (c45), cd_2], rfl⟩
  | 2, _ =>
    refine ar_tsIn (pc := 1) (tgt := 58) (off := 57) dX2_stageAfter_1 (by decide +kernel) (by decide +kernel) (by decide +kernel) (by decide) ?_
    refine ar_aload_n (i := 0) (pc := 58) dX2_stageAfter_58 rfl rfl ?_
    refine ar_iload_n (i := 2) (pc := 59) dX2_stageAfter_59 rfl rfl ?_
    refine ar_idV (pc := 60) dX2_stageAfter_60 cal_X2_readFirstDigit kX2_46 rfl (sX2_readFirstDigit l t q h8 c) rfl rfl rfl rfl rfl rfl rfl (fun r h1 hp => ?_)
    obtain ⟨rfl, rfl⟩ := hp
    refine ⟨pat_pd .., ?_⟩
    exact ar_iret (pc := 63) dX2_stageAfter_63 rfl rfl rfl ⟨rfl, rfl⟩
  | 3, _ =>
    refine ar_tsIn (pc := 1) (tgt := 64) (off := 63) dX2_stageAfter_1 (by decide +kernel) (by decide +kernel) (by decide +kernel) (by decide) ?_
    refine ar_iload_n (i := 2) (pc := 64) dX2_stageAfter_64 rfl rfl ?_
    refine ar_bipush (pc := 65) dX2_stageAfter_65 q_bipush_48 ?_
    refine ar_icmp_eq (pc := 67) (tgt := 76) dX2_stageAfter_67 (by decide) (fun c67 => ?_) (fun c67 => ?_)
    · refine ar_aload_n (i := 0) (pc := 76) dX2_stageAfter_76 rfl rfl ?_
      refine ar_bipush (pc := 77) dX2_stageAfter_77 q_bipush_10 ?_
      refine ar_iload_n (i := 2) (pc := 79) dX2_stageAfter_79 rfl rfl ?_
      refine ar_iadd (pc := 80) dX2_stageAfter_80 ?_
      refine ar_bipush (pc := 81) dX2_stageAfter_81 q_bipush_48 ?_
      refine ar_isub (pc := 83) dX2_stageAfter_83 ?_
      refine ar_idV (pc := 84) dX2_stageAfter_84 cal_X2_readPitch kX2_49 rfl (sX2_readPitch l t q h8 (10 + c - 48)) rfl rfl rfl rfl rfl rfl rfl (fun r h1 hp => ?_)
      obtain ⟨rfl, rfl⟩ := hp
      refine ⟨pat_pd .., ?_⟩
      refine ar_goto (tgt := 95) (pc := 87) dX2_stageAfter_87 (by decide) ?_
      exact ar_iret (pc := 95) dX2_stageAfter_95 rfl rfl rfl ⟨by rw [stA, if_pos (Or.inl c67)], by rw [stA, if_pos (Or.inl c67)]⟩
    · refine ar_iload_n (i := 2) (pc := 70) dX2_stageAfter_70 rfl rfl ?_
      refine ar_bipush (pc := 71) dX2_stageAfter_71 q_bipush_49 ?_
      refine ar_icmp_ne (pc := 73) (tgt := 90) dX2_stageAfter_73 (by decide) (fun c73 => ?_) (fun c73 => ?_)
      · refine ar_aload_n (i := 0) (pc := 90) dX2_stageAfter_90 rfl rfl ?_
        refine ar_iload_n (i := 2) (pc := 91) dX2_stageAfter_91 rfl rfl ?_
        refine ar_idV (pc := 92) dX2_stageAfter_92 cal_X2_readComma kX2_43 rfl (sX2_readComma l t q h8 c) rfl rfl rfl rfl rfl rfl rfl (fun r h1 hp => ?_)
        obtain ⟨rfl, rfl⟩ := hp
        refine ⟨pat_pd .., ?_⟩
        exact ar_iret (pc := 95) dX2_stageAfter_95 rfl rfl rfl ⟨by rw [stA, if_neg (fun z => z.elim c67 c73)], by rw [stA, if_neg (fun z => z.elim c67 c73)]⟩
      · refine ar_aload_n (i := 0) (pc := 76) dX2_stageAfter_76 rfl rfl ?_
        refine ar_bipush (pc := 77) dX2_stageAfter_77 q_bipush_10 ?_
        refine ar_iload_n (i := 2) (pc := 79) dX2_stageAfter_79 rfl rfl ?_
        refine ar_iadd (pc := 80) dX2_stageAfter_80 ?_
        refine ar_bipush (pc := 81) dX2_stageAfter_81 q_bipush_48 ?_
        refine ar_isub (pc := 83) dX2_stageAfter_83 ?_
        refine ar_idV (pc := 84) dX2_stageAfter_84 cal_X2_readPitch kX2_49 rfl (sX2_readPitch l t q h8 (10 + c - 48)) rfl rfl rfl rfl rfl rfl rfl (fun r h1 hp => ?_)
        obtain ⟨rfl, rfl⟩ := hp
        refine ⟨pat_pd .., ?_⟩
        refine ar_goto (tgt := 95) (pc := 87) dX2_stageAfter_87 (by decide) ?_
        exact ar_iret (pc := 95) dX2_stageAfter_95 rfl rfl rfl ⟨by rw [stA, if_pos (Or.inr (c73))], by rw [stA, if_pos (Or.inr (c73))]⟩
  | 4, _ =>
    refine ar_tsIn (pc := 1) (tgt := 96) (off := 95) dX2_stageAfter_1 (by decide +kernel) (by decide +kernel) (by decide +kernel) (by decide) ?_
    refine ar_aload_n (i := 0) (pc := 96) dX2_stageAfter_96 rfl rfl ?_
    refine ar_iload_n (i := 2) (pc := 97) dX2_stageAfter_97 rfl rfl ?_
    refine ar_idV (pc := 98) dX2_stageAfter_98 cal_X2_readComma kX2_43 rfl (sX2_readComma l t q h8 c) rfl rfl rfl rfl rfl rfl rfl (fun r h1 hp => ?_)
    obtain ⟨rfl, rfl⟩ := hp
    refine ⟨pat_pd .., ?_⟩
    exact ar_iret (pc := 101) dX2_stageAfter_101 rfl rfl rfl ⟨rfl, rfl⟩

