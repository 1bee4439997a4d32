/-! the class Pad: letters, shared pitches -/
/-- the characters behind the last one; the last one -/
def sh8 (r : Int64) : Int64 := (r.toUInt64 >>> ((8 : Int32).toInt64.toUInt64 &&& Int64.toUInt64 63)).toInt64
theorem sh8_e (r : Int64) : (r.toUInt64 >>> ((8 : Int32).toInt64.toUInt64 &&& Int64.toUInt64 63)).toInt64 = sh8 r := rfl
def chv (x : Int64) : Int32 := ((x &&& 255).toInt32.toUInt32 % 65536).toInt32.toUInt32.toUInt16.toUInt32.toInt32
theorem chv_e (r : Int64) : ((r &&& 255).toInt32.toUInt32 % 65536).toInt32.toUInt32.toUInt16.toUInt32.toInt32 = chv r := rfl
def apst (L d : Nat) (f : Int64 → (Nat → Int32) → Nat → Int32) (r : Int64) (t : Nat → Int32) : Nat → Int32 := f (sh8 r) (upd t (L + d) (chv r))
/-- the letters from the place L + d - 1 down to L -/
def apF (L d : Nat) : Int64 → (Nat → Int32) → Nat → Int32 := Nat.rec (fun _ t => t) (apst L) d
theorem apF_0 (L : Nat) (r : Int64) (t : Nat → Int32) : apF L 0 r t = t := rfl
theorem apF_f (L d : Nat) : apF L (d + 1) = apst L d (apF L d) := rfl
theorem apst_e (L d : Nat) (f : Int64 → (Nat → Int32) → Nat → Int32) (r : Int64) (t : Nat → Int32) : apst L d f r t = f (sh8 r) (upd t (L + d) (chv r)) := rfl
theorem apF_s (L d : Nat) (r : Int64) (t : Nat → Int32) : apF L (d + 1) r t = apF L d (sh8 r) (upd t (L + d) (chv r)) := by rw [apF_f, apst_e]
theorem nI_p1 {L : Nat} (h : L < 100) : nI L - 1 < nI L := by
  have : ∀ L, L < 100 → nI L - 1 < nI L := by decide +kernel
  exact this L h
theorem nI_m1 (L : Nat) : nI L + Int32.ofInt (-1) = nI L - 1 := by
  rw [show Int32.ofInt (-1) = -(1 : Int32) by decide +kernel, Int32.sub_eq_add_neg]
set_option maxHeartbeats 4000000 in
set_option maxRecDepth 100000 in
theorem lX2_append_13 (h0 : am_H) (x : Int64) (L k : Nat) (hL : L + k ≤ 60) (q : PQ) : ∀ (d : Nat) (r : Int64) (t : Nat → Int32), d ≤ k → am_RW mX2_append h0 (am_vp (pdH (nI (L + k)) (apF L d r t) q)) 0 0 13 [some (.ref 2), some (.long x), none, some (.int (nI k)), some (.long r), none, some (.int (nI (L + d) - 1))] [] (pdH (nI L) t q) := by
  intro d
  induction d with
  | zero =>
    intro r t hd
    rw [apF_0, Nat.add_zero]
    refine ar_iload (pc := 13) dX2_append_13 rfl ?_
    refine ar_aload_n (i := 0) (pc := 15) dX2_append_15 rfl rfl ?_
    refine ar_getf (pc := 16) dX2_append_16 fX2_28 rfl rfl ?_
    refine ar_icmp_lt (pc := 19) (tgt := 65) dX2_append_19 (by decide) (fun c19 => ?_) (fun c19 => absurd (nI_p1 (show L < 100 by omega)) c19)
    refine ar_aload_n (i := 0) (pc := 65) dX2_append_65 rfl rfl ?_
    refine ar_dup (pc := 66) dX2_append_66 rfl ?_
    refine ar_getf (pc := 67) dX2_append_67 fX2_28 rfl rfl ?_
    refine ar_iload_n (i := 3) (pc := 70) dX2_append_70 rfl rfl ?_
    refine ar_iadd (pc := 71) dX2_append_71 ?_
    rw [nI_add]
    refine ar_putf (pc := 72) dX2_append_72 fX2_28 rfl (Nat.le_of_ble_eq_true rfl) (fun _ => ⟨rfl, rfl⟩) ?_
    rw [pd_l]
    exact ar_vret (pc := 75) dX2_append_75 rfl rfl rfl ⟨rfl, rfl⟩
  | succ d ih =>
    intro r t hd
    rw [apF_s, show L + (d + 1) = L + d + 1 from rfl, nI_pred]
    refine ar_iload (pc := 13) dX2_append_13 rfl ?_
    refine ar_aload_n (i := 0) (pc := 15) dX2_append_15 rfl rfl ?_
    refine ar_getf (pc := 16) dX2_append_16 fX2_28 rfl rfl ?_
    refine ar_icmp_lt (pc := 19) (tgt := 65) dX2_append_19 (by decide) (fun c19 => False.elim (by (simp (disch := omega) only [Int32.lt_iff_toInt_lt, Int32.le_iff_toInt_le, ← Int32.toInt_inj, ti_m6, ti_m1, ti_0, ti_1, ti_2, ti_3, ti_4, ti_5, ti_6, ti_7, ti_8, ti_9, ti_12, ti_100, ti_9999, ti_60, nI_toInt] at c19) <;> omega)) (fun c19 => ?_)
    refine ar_iload (pc := 22) dX2_append_22 rfl ?_
    refine ar_if_lt (pc := 24) (tgt := 52) dX2_append_24 (by decide) (fun c24 => False.elim (by (simp (disch := omega) only [Int32.lt_iff_toInt_lt, Int32.le_iff_toInt_le, ← Int32.toInt_inj, ti_m6, ti_m1, ti_0, ti_1, ti_2, ti_3, ti_4, ti_5, ti_6, ti_7, ti_8, ti_9, ti_12, ti_100, ti_9999, ti_60, nI_toInt] at c24) <;> omega)) (fun c24 => ?_)
    refine ar_iload (pc := 27) dX2_append_27 rfl ?_
    refine ar_aload_n (i := 0) (pc := 29) dX2_append_29 rfl rfl ?_
    refine ar_getf (pc := 30) dX2_append_30 fX2_9 rfl rfl ?_
    refine ar_alen (pc := 33) dX2_append_33 rfl ?_
    refine ar_icmp_ge (pc := 34) (tgt := 52) dX2_append_34 (by decide) (fun c34 => False.elim (by (simp (disch := omega) only [Int32.lt_iff_toInt_lt, Int32.le_iff_toInt_le, ← Int32.toInt_inj, ti_m6, ti_m1, ti_0, ti_1, ti_2, ti_3, ti_4, ti_5, ti_6, ti_7, ti_8, ti_9, ti_12, ti_100, ti_9999, ti_60, nI_toInt] at c34) <;> omega)) (fun c34 => ?_)
    refine ar_aload_n (i := 0) (pc := 37) dX2_append_37 rfl rfl ?_
    refine ar_getf (pc := 38) dX2_append_38 fX2_9 rfl rfl ?_
    refine ar_iload (pc := 41) dX2_append_41 rfl ?_
    refine ar_lload (pc := 43) dX2_append_43 rfl ?_
    refine ar_ldc2 (pc := 45) dX2_append_45 cX2_22 ?_
    refine ar_land (pc := 48) dX2_append_48 ?_
    refine ar_l2i (pc := 49) dX2_append_49 ?_
    refine ar_i2c (pc := 50) dX2_append_50 ?_
    refine ar_cast (pc := 51) dX2_append_51 rfl (show L + d < 60 by omega) rfl rfl ?_
    rw [chv_e, pd_t]
    refine ar_lload (pc := 52) dX2_append_52 rfl ?_
    refine ar_bipush (pc := 54) dX2_append_54 q_bipush_8 ?_
    refine ar_lushr (pc := 56) dX2_append_56 ?_
    rw [sh8_e]
    refine ar_topl (fun r2 er2 => ?_)
    refine ar_lstore (pc := 57) dX2_append_57 (Nat.le_of_ble_eq_true rfl) rfl ?_
    refine ar_iinc (pc := 59) dX2_append_59 rfl (nI_m1 _) (Nat.le_of_ble_eq_true rfl) rfl ?_
    refine ar_goto (tgt := 13) (pc := 62) dX2_append_62 (by decide) ?_
    rw [← er2]
    exact ih r2 _ (by omega)
set_option maxHeartbeats 4000000 in
set_option maxRecDepth 100000 in
theorem sX2_append (x : Int64) (L k : Nat) (hL : L + k ≤ 60) (t : Nat → Int32) (q : PQ) : am_Sp mX2_append [.ref 2, .long x, .int (nI k)] (pdH (nI L) t q) (am_vp (pdH (nI (L + k)) (apF L k x t) q)) := by
  refine am_intro (by decide) (Nat.le_of_ble_eq_true rfl) ?_
  refine ar_lload_n (i := 1) (pc := 0) dX2_append_0 rfl rfl ?_
  refine ar_lstore (pc := 1) dX2_append_1 (Nat.le_of_ble_eq_true rfl) rfl ?_
  refine ar_aload_n (i := 0) (pc := 3) dX2_append_3 rfl rfl ?_
  refine ar_getf (pc := 4) dX2_append_4 fX2_28 rfl rfl ?_
  refine ar_iload_n (i := 3) (pc := 7) dX2_append_7 rfl rfl ?_
  refine ar_iadd (pc := 8) dX2_append_8 ?_
  rw [nI_add]
  refine ar_iconst (pc := 9) dX2_append_9 q_iconst_1 ?_
  refine ar_isub (pc := 10) dX2_append_10 ?_
  refine ar_istore (pc := 11) dX2_append_11 (Nat.le_of_ble_eq_true rfl) rfl ?_
  exact lX2_append_13 (pdH (nI L) t q) x L k hL q k x t (Nat.le_refl k)

abbrev clk (x : Int64) : Prop := (x &&& 255) < 33 ∨ 126 < (x &&& 255)
def clst (d : Nat) (f : Nat → Int64 → Int32) (k : Nat) (r : Int64) : Int32 := if (r &&& 255) = 0 then (if r = 0 then nI k else 0) else if clk r then 0 else f (k + 1) (sh8 r)
/-- the letters of a number: k so far, d at most to come -/
def clt (d : Nat) : Nat → Int64 → Int32 := Nat.rec (fun k r => if r = 0 then nI k else 0) clst d
theorem clt_0 (k : Nat) (r : Int64) : clt 0 k r = if r = 0 then nI k else 0 := rfl
theorem clt_f (d : Nat) : clt (d + 1) = clst d (clt d) := rfl
theorem clst_e (d : Nat) (f : Nat → Int64 → Int32) (k : Nat) (r : Int64) : clst d f k r = if (r &&& 255) = 0 then (if r = 0 then nI k else 0) else if clk r then 0 else f (k + 1) (sh8 r) := rfl
theorem clt_z {d k : Nat} {r y : Int64} (ey : y = r &&& 255) (h : y = 0) : clt (d + 1) k r = if r = 0 then nI k else 0 := by
  subst ey
  rw [clt_f, clst_e, if_pos h]
theorem clt_b {d k : Nat} {r y : Int64} (ey : y = r &&& 255) (h : ¬ y = 0) (h2 : y < 33 ∨ 126 < y) : clt (d + 1) k r = 0 := by
  subst ey
  rw [clt_f, clst_e, if_neg h, if_pos h2]
theorem clt_s {d k : Nat} {r y r2 : Int64} (ey : y = r &&& 255) (h : ¬ y = 0) (h2 : ¬ y < 33) (h3 : ¬ 126 < y) (er : r2 = sh8 r) : clt (d + 1) k r = clt d (k + 1) r2 := by
  subst ey; subst er
  rw [clt_f, clst_e, if_neg h, if_neg (fun z => z.elim h2 h3)]
set_option maxHeartbeats 4000000 in
set_option maxRecDepth 100000 in
theorem lX2_countLetters_5 (h0 h : am_H) (x : Int64) : ∀ (d k : Nat) (r : Int64) (o5 : Option Value), k + d = 8 → am_RW mX2_countLetters h0 (am_rp (clt d k r) h) 0 0 5 [some (.long x), none, some (.long r), none, some (.int (nI k)), o5, none] [] h := by
  intro d
  induction d with
  | zero =>
    intro k r o5 hk
    have e : k = 8 := by omega
    subst e
    refine ar_iload (pc := 5) dX2_countLetters_5 rfl ?_
    refine ar_bipush (pc := 7) dX2_countLetters_7 q_bipush_8 ?_
    refine ar_icmp_ge (pc := 9) (tgt := 60) dX2_countLetters_9 (by decide) (fun c9 => ?_) (fun c9 => False.elim (by (simp (disch := omega) only [Int32.lt_iff_toInt_lt, Int32.le_iff_toInt_le, ← Int32.toInt_inj, ti_m6, ti_m1, ti_0, ti_1, ti_2, ti_3, ti_4, ti_5, ti_6, ti_7, ti_8, ti_9, ti_12, ti_100, ti_9999, ti_60, nI_toInt] at c9) <;> omega))
    refine ar_lload_n (i := 2) (pc := 60) dX2_countLetters_60 rfl rfl ?_
    refine ar_lconst (pc := 61) dX2_countLetters_61 q_lconst_0 ?_
    refine ar_lcmp (pc := 62) dX2_countLetters_62 ?_
    refine ar_if_ne (pc := 63) (tgt := 71) dX2_countLetters_63 (by decide) (fun c63 => ?_) (fun c63 => ?_)
    · refine ar_iconst (pc := 71) dX2_countLetters_71 q_iconst_0 ?_
      exact ar_iret (pc := 72) dX2_countLetters_72 rfl rfl rfl ⟨by rw [clt_0, if_neg (fun z => c63 ((lg_cmp_eq _ _).mpr z))], rfl⟩
    · refine ar_iload (pc := 66) dX2_countLetters_66 rfl ?_
      refine ar_goto (tgt := 72) (pc := 68) dX2_countLetters_68 (by decide) ?_
      exact ar_iret (pc := 72) dX2_countLetters_72 rfl rfl rfl ⟨by rw [clt_0, if_pos ((lg_cmp_eq _ _).mp (c63))], rfl⟩
  | succ d ih =>
    intro k r o5 hk
    refine ar_iload (pc := 5) dX2_countLetters_5 rfl ?_
    refine ar_bipush (pc := 7) dX2_countLetters_7 q_bipush_8 ?_
    refine ar_icmp_ge (pc := 9) (tgt := 60) dX2_countLetters_9 (by decide) (fun c9 => False.elim (by (simp (disch := omega) only [Int32.lt_iff_toInt_lt, Int32.le_iff_toInt_le, ← Int32.toInt_inj, ti_m6, ti_m1, ti_0, ti_1, ti_2, ti_3, ti_4, ti_5, ti_6, ti_7, ti_8, ti_9, ti_12, ti_100, ti_9999, ti_60, nI_toInt] at c9) <;> omega)) (fun c9 => ?_)
    refine ar_lload_n (i := 2) (pc := 12) dX2_countLetters_12 rfl rfl ?_
    refine ar_ldc2 (pc := 13) dX2_countLetters_13 cX2_22 ?_
    refine ar_land (pc := 16) dX2_countLetters_16 ?_
    refine ar_topl (fun y16 e16 => ?_)
    refine ar_lconst (pc := 17) dX2_countLetters_17 q_lconst_0 ?_
    refine ar_lcmp (pc := 18) dX2_countLetters_18 ?_
    refine ar_if_eq (pc := 19) (tgt := 60) dX2_countLetters_19 (by decide) (fun c19 => ?_) (fun c19 => ?_)
    · refine ar_lload_n (i := 2) (pc := 60) dX2_countLetters_60 rfl rfl ?_
      refine ar_lconst (pc := 61) dX2_countLetters_61 q_lconst_0 ?_
      refine ar_lcmp (pc := 62) dX2_countLetters_62 ?_
      refine ar_if_ne (pc := 63) (tgt := 71) dX2_countLetters_63 (by decide) (fun c63 => ?_) (fun c63 => ?_)
      · refine ar_iconst (pc := 71) dX2_countLetters_71 q_iconst_0 ?_
        exact ar_iret (pc := 72) dX2_countLetters_72 rfl rfl rfl ⟨by rw [clt_z e16 ((lg_cmp_eq _ _).mp c19), if_neg (fun z => c63 ((lg_cmp_eq _ _).mpr z))], rfl⟩
      · refine ar_iload (pc := 66) dX2_countLetters_66 rfl ?_
        refine ar_goto (tgt := 72) (pc := 68) dX2_countLetters_68 (by decide) ?_
        exact ar_iret (pc := 72) dX2_countLetters_72 rfl rfl rfl ⟨by rw [clt_z e16 ((lg_cmp_eq _ _).mp c19), if_pos ((lg_cmp_eq _ _).mp (c63))], rfl⟩
    · refine ar_lload_n (i := 2) (pc := 22) dX2_countLetters_22 rfl rfl ?_
      refine ar_ldc2 (pc := 23) dX2_countLetters_23 cX2_22 ?_
      refine ar_land (pc := 26) dX2_countLetters_26 ?_
      refine ar_topl (fun y26 e26 => ?_)
      refine ar_lstore (pc := 27) dX2_countLetters_27 (Nat.le_of_ble_eq_true rfl) rfl ?_
      refine ar_lload (pc := 29) dX2_countLetters_29 rfl ?_
      refine ar_ldc2 (pc := 31) dX2_countLetters_31 cX2_24 ?_
      refine ar_lcmp (pc := 34) dX2_countLetters_34 ?_
      refine ar_if_lt (pc := 35) (tgt := 47) dX2_countLetters_35 (by decide) (fun c35 => ?_) (fun c35 => ?_)
      · refine ar_iconst (pc := 47) dX2_countLetters_47 q_iconst_0 ?_
        exact ar_iret (pc := 48) dX2_countLetters_48 rfl rfl rfl ⟨by rw [clt_b e26 (fun z => c19 ((lg_cmp_eq _ _).mpr (e16.trans (e26.symm.trans z)))) (Or.inl ((lg_cmp_lt _ _).mp c35))], rfl⟩
      · refine ar_lload (pc := 38) dX2_countLetters_38 rfl ?_
        refine ar_ldc2 (pc := 40) dX2_countLetters_40 cX2_26 ?_
        refine ar_lcmp (pc := 43) dX2_countLetters_43 ?_
        refine ar_if_le (pc := 44) (tgt := 49) dX2_countLetters_44 (by decide) (fun c44 => ?_) (fun c44 => ?_)
        · refine ar_lload_n (i := 2) (pc := 49) dX2_countLetters_49 rfl rfl ?_
          refine ar_bipush (pc := 50) dX2_countLetters_50 q_bipush_8 ?_
          refine ar_lushr (pc := 52) dX2_countLetters_52 ?_
          rw [sh8_e]
          refine ar_topl (fun r2 er2 => ?_)
          refine ar_lstore_n (i := 2) (pc := 53) dX2_countLetters_53 rfl (Nat.le_of_ble_eq_true rfl) rfl ?_
          refine ar_iinc (pc := 54) dX2_countLetters_54 rfl (ni_inc _) (Nat.le_of_ble_eq_true rfl) rfl ?_
          refine ar_goto (tgt := 5) (pc := 57) dX2_countLetters_57 (by decide) ?_
          rw [clt_s e26 (fun z => c19 ((lg_cmp_eq _ _).mpr (e16.trans (e26.symm.trans z)))) (fun z => c35 ((lg_cmp_lt _ _).mpr z)) (fun z => Int64.not_le.mpr z ((lg_cmp_le _ _).mp c44)) er2]
          exact ih (k + 1) r2 _ (by omega)
        · refine ar_iconst (pc := 47) dX2_countLetters_47 q_iconst_0 ?_
          exact ar_iret (pc := 48) dX2_countLetters_48 rfl rfl rfl ⟨by rw [clt_b e26 (fun z => c19 ((lg_cmp_eq _ _).mpr (e16.trans (e26.symm.trans z)))) (Or.inr (Int64.not_le.mp (fun z => c44 ((lg_cmp_le _ _).mpr z))))], rfl⟩
set_option maxHeartbeats 4000000 in
set_option maxRecDepth 100000 in
theorem sX2_countLetters (x : Int64) (h : am_H) : am_Sp mX2_countLetters [.long x] (h) (am_rp (clt 8 0 x) h) := by
  refine am_intro (by decide) (Nat.le_of_ble_eq_true rfl) ?_
  refine ar_lload_n (i := 0) (pc := 0) dX2_countLetters_0 rfl rfl ?_
  refine ar_lstore_n (i := 2) (pc := 1) dX2_countLetters_1 rfl (Nat.le_of_ble_eq_true rfl) rfl ?_
  refine ar_iconst (pc := 2) dX2_countLetters_2 q_iconst_0 ?_
  refine ar_istore (pc := 3) dX2_countLetters_3 (Nat.le_of_ble_eq_true rfl) rfl ?_
  have z := lX2_countLetters_5 h h x 8 0 x none (by omega)
  rw [nI_0] at z
  exact z

def bt1 (p : Int32) : Int32 := 1 <<< (p &&& 31)
theorem bt1_e (p : Int32) : 1 <<< (p &&& 31) = bt1 p := rfl
def shst (ps : Nat → Int32) (d : Nat) (f : Nat → Int32 → Prop) (k : Nat) (tk : Int32) : Prop := if inP (ps k) then (if tk &&& bt1 (ps k) = 0 then f (k + 1) (tk ||| bt1 (ps k)) else True) else f (k + 1) tk
/-- the places from k on, d of them, hold a pitch twice, or one of tk -/
def shd (ps : Nat → Int32) (d : Nat) : Nat → Int32 → Prop := Nat.rec (fun _ _ => False) (shst ps) d
theorem shd_0 (ps : Nat → Int32) (k : Nat) (tk : Int32) : shd ps 0 k tk = False := rfl
theorem shd_f (ps : Nat → Int32) (d : Nat) : shd ps (d + 1) = shst ps d (shd ps d) := rfl
theorem shst_e (ps : Nat → Int32) (d : Nat) (f : Nat → Int32 → Prop) (k : Nat) (tk : Int32) : shst ps d f k tk = if inP (ps k) then (if tk &&& bt1 (ps k) = 0 then f (k + 1) (tk ||| bt1 (ps k)) else True) else f (k + 1) tk := rfl
theorem shd_n {ps : Nat → Int32} {d k : Nat} {tk : Int32} (h : ¬ inP (ps k)) : shd ps (d + 1) k tk = shd ps d (k + 1) tk := by rw [shd_f, shst_e, if_neg h]
theorem shd_y {ps : Nat → Int32} {d k : Nat} {tk b : Int32} (h : inP (ps k)) (eb : b = bt1 (ps k)) (h2 : ¬ tk &&& b = 0) : shd ps (d + 1) k tk := by
  subst eb
  rw [shd_f, shst_e, if_pos h, if_neg h2]
  trivial
theorem shd_g {ps : Nat → Int32} {d k : Nat} {tk b : Int32} (h : inP (ps k)) (eb : b = bt1 (ps k)) (h2 : tk &&& b = 0) : shd ps (d + 1) k tk = shd ps d (k + 1) (tk ||| b) := by
  subst eb
  rw [shd_f, shst_e, if_pos h, if_pos h2]
set_option maxHeartbeats 4000000 in
set_option maxRecDepth 100000 in
theorem lX2_hasSharedPitch_4 (h0 : am_H) (l : Int32) (t : Nat → Int32) (q : PQ) (h8 : q.1 ≤ 8) : ∀ (d k : Nat) (tk : Int32) (o3 : Option Value), k + d = q.1 → am_RW mX2_hasSharedPitch h0 (am_bp (shd q.2.2 d k tk) (pdH l t q)) 0 0 4 [some (.ref 2), some (.int tk), some (.int (nI k)), o3] [] (pdH l t q) := by
  intro d
  induction d with
  | zero =>
    intro k tk o3 hk
    have e : k = q.1 := by omega
    subst e
    refine ar_iload_n (i := 2) (pc := 4) dX2_hasSharedPitch_4 rfl rfl ?_
    refine ar_aload_n (i := 0) (pc := 5) dX2_hasSharedPitch_5 rfl rfl ?_
    refine ar_getf (pc := 6) dX2_hasSharedPitch_6 fX2_32 rfl rfl ?_
    refine ar_icmp_ge (pc := 9) (tgt := 57) dX2_hasSharedPitch_9 (by decide) (fun c9 => ?_) (fun c9 => absurd (Int32.le_refl _) c9)
    refine ar_iconst (pc := 57) dX2_hasSharedPitch_57 q_iconst_0 ?_
    first
      | exact ar_zret (pc := 58) dX2_hasSharedPitch_58 rfl (Or.inr rfl) rfl rfl ⟨Or.inl ⟨(absurd rfl ‹_›), rfl⟩, rfl⟩
      | exact ar_zret (pc := 58) dX2_hasSharedPitch_58 rfl (Or.inl rfl) rfl rfl ⟨Or.inr ⟨(fun z => z), rfl⟩, rfl⟩
  | succ d ih =>
    intro k tk o3 hk
    refine ar_iload_n (i := 2) (pc := 4) dX2_hasSharedPitch_4 rfl rfl ?_
    refine ar_aload_n (i := 0) (pc := 5) dX2_hasSharedPitch_5 rfl rfl ?_
    refine ar_getf (pc := 6) dX2_hasSharedPitch_6 fX2_32 rfl rfl ?_
    refine ar_icmp_ge (pc := 9) (tgt := 57) dX2_hasSharedPitch_9 (by decide) (fun c9 => False.elim (by (simp (disch := omega) only [Int32.lt_iff_toInt_lt, Int32.le_iff_toInt_le, ← Int32.toInt_inj, ti_m6, ti_m1, ti_0, ti_1, ti_2, ti_3, ti_4, ti_5, ti_6, ti_7, ti_8, ti_9, ti_12, ti_100, ti_9999, ti_60, nI_toInt] at c9) <;> omega)) (fun c9 => ?_)
    refine ar_iload_n (i := 2) (pc := 12) dX2_hasSharedPitch_12 rfl rfl ?_
    refine ar_bipush (pc := 13) dX2_hasSharedPitch_13 q_bipush_8 ?_
    refine ar_icmp_ge (pc := 15) (tgt := 57) dX2_hasSharedPitch_15 (by decide) (fun c15 => False.elim (by (simp (disch := omega) only [Int32.lt_iff_toInt_lt, Int32.le_iff_toInt_le, ← Int32.toInt_inj, ti_m6, ti_m1, ti_0, ti_1, ti_2, ti_3, ti_4, ti_5, ti_6, ti_7, ti_8, ti_9, ti_12, ti_100, ti_9999, ti_60, nI_toInt] at c15) <;> omega)) (fun c15 => ?_)
    refine ar_aload_n (i := 0) (pc := 18) dX2_hasSharedPitch_18 rfl rfl ?_
    refine ar_getf (pc := 19) dX2_hasSharedPitch_19 fX2_19 rfl rfl ?_
    refine ar_iload_n (i := 2) (pc := 22) dX2_hasSharedPitch_22 rfl rfl ?_
    refine ar_iald (pc := 23) dX2_hasSharedPitch_23 rfl (show k < 8 by omega) rfl ?_
    refine ar_idSN (pc := 24) dX2_hasSharedPitch_24 cal_X6_isPitch kX2_53 rfl (sX6_isPitchB (pdH l t q) _) rfl rfl rfl rfl rfl (fun r h1 hp => ?_)
    obtain ⟨⟨h24, rfl⟩ | ⟨h24, rfl⟩, rfl⟩ := hp
    · refine ⟨rfl, ?_⟩
      refine ar_if_eq (pc := 27) (tgt := 51) dX2_hasSharedPitch_27 (by decide) (fun c27 => absurd c27 (by decide)) (fun c27 => ?_)
      refine ar_iconst (pc := 30) dX2_hasSharedPitch_30 q_iconst_1 ?_
      refine ar_aload_n (i := 0) (pc := 31) dX2_hasSharedPitch_31 rfl rfl ?_
      refine ar_getf (pc := 32) dX2_hasSharedPitch_32 fX2_19 rfl rfl ?_
      refine ar_iload_n (i := 2) (pc := 35) dX2_hasSharedPitch_35 rfl rfl ?_
      refine ar_iald (pc := 36) dX2_hasSharedPitch_36 rfl (show k < 8 by omega) rfl ?_
      refine ar_ishl (pc := 37) dX2_hasSharedPitch_37 ?_
      rw [bt1_e]
      refine ar_topi (fun y37 e37 => ?_)
      refine ar_istore_n (i := 3) (pc := 38) dX2_hasSharedPitch_38 rfl (Nat.le_of_ble_eq_true rfl) rfl ?_
      refine ar_iload_n (i := 1) (pc := 39) dX2_hasSharedPitch_39 rfl rfl ?_
      refine ar_iload_n (i := 3) (pc := 40) dX2_hasSharedPitch_40 rfl rfl ?_
      refine ar_iand (pc := 41) dX2_hasSharedPitch_41 ?_
      refine ar_if_eq (pc := 42) (tgt := 47) dX2_hasSharedPitch_42 (by decide) (fun c42 => ?_) (fun c42 => ?_)
      · refine ar_iload_n (i := 1) (pc := 47) dX2_hasSharedPitch_47 rfl rfl ?_
        refine ar_iload_n (i := 3) (pc := 48) dX2_hasSharedPitch_48 rfl rfl ?_
        refine ar_ior (pc := 49) dX2_hasSharedPitch_49 ?_
        refine ar_istore_n (i := 1) (pc := 50) dX2_hasSharedPitch_50 rfl (Nat.le_of_ble_eq_true rfl) rfl ?_
        refine ar_iinc (pc := 51) dX2_hasSharedPitch_51 rfl (ni_inc _) (Nat.le_of_ble_eq_true rfl) rfl ?_
        refine ar_goto (tgt := 4) (pc := 54) dX2_hasSharedPitch_54 (by decide) ?_
        rw [shd_g h24 e37 c42]
        exact ih (k + 1) _ _ (by omega)
      · refine ar_iconst (pc := 45) dX2_hasSharedPitch_45 q_iconst_1 ?_
        exact ar_zret (pc := 46) dX2_hasSharedPitch_46 rfl (Or.inr rfl) rfl rfl ⟨Or.inl ⟨shd_y h24 e37 c42, rfl⟩, rfl⟩
    · refine ⟨rfl, ?_⟩
      refine ar_if_eq (pc := 27) (tgt := 51) dX2_hasSharedPitch_27 (by decide) (fun c27 => ?_) (fun c27 => absurd c27 (by decide))
      refine ar_iinc (pc := 51) dX2_hasSharedPitch_51 rfl (ni_inc _) (Nat.le_of_ble_eq_true rfl) rfl ?_
      refine ar_goto (tgt := 4) (pc := 54) dX2_hasSharedPitch_54 (by decide) ?_
      rw [shd_n h24]
      exact ih (k + 1) _ _ (by omega)
set_option maxHeartbeats 4000000 in
set_option maxRecDepth 100000 in
theorem sX2_hasSharedPitch (l : Int32) (t : Nat → Int32) (q : PQ) (h8 : q.1 ≤ 8) : am_Sp mX2_hasSharedPitch [.ref 2] (pdH l t q) (am_bp (shd q.2.2 q.1 0 0) (pdH l t q)) := by
  refine am_intro (by decide) (Nat.le_of_ble_eq_true rfl) ?_
  refine ar_iconst (pc := 0) dX2_hasSharedPitch_0 q_iconst_0 ?_
  refine ar_istore_n (i := 1) (pc := 1) dX2_hasSharedPitch_1 rfl (Nat.le_of_ble_eq_true rfl) rfl ?_
  refine ar_iconst (pc := 2) dX2_hasSharedPitch_2 q_iconst_0 ?_
  refine ar_istore_n (i := 2) (pc := 3) dX2_hasSharedPitch_3 rfl (Nat.le_of_ble_eq_true rfl) rfl ?_
  have z := lX2_hasSharedPitch_4 (pdH l t q) l t q h8 q.1 0 0 none (by omega)
  rw [nI_0] at z
  exact z

