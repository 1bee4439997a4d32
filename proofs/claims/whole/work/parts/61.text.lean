/-! texts: fault, read -/
set_option maxHeartbeats 4000000 in
set_option maxRecDepth 100000 in
theorem sX7_sign (q : RV) (L : Nat) (hL : L ≤ 60) (hl : rq_N q = nI L) {i : Nat} (hi : i < 1000) : am_Sp mX7_sign [.ref 2, .int (nI i)] (md_H q) (am_rp (sg_V (rq_P q) L i) (md_H q)) := by
  refine am_intro (by decide) (Nat.le_of_ble_eq_true rfl) ?_
  refine ar_iload_n (i := 1) (pc := 0) dX7_sign_0 rfl rfl ?_
  refine ar_aload_n (i := 0) (pc := 1) dX7_sign_1 rfl rfl ?_
  refine ar_getf (pc := 2) dX7_sign_2 fX7_130 rfl rfl ?_
  rw [hl]
  refine ar_icmp_ge (pc := 5) (tgt := 17) dX7_sign_5 (by decide) (fun c5 => ?_) (fun c5 => ?_)
  · refine ar_iconst (pc := 17) dX7_sign_17 q_iconst_m1 ?_
    exact ar_iret (pc := 18) dX7_sign_18 rfl rfl rfl ⟨by rw [sg_V, if_neg (fun z => absurd ((nI_leI (by omega) (by omega)).mp c5) (by omega))], rfl⟩
  · refine ar_aload_n (i := 0) (pc := 8) dX7_sign_8 rfl rfl ?_
    refine ar_getf (pc := 9) dX7_sign_9 fX7_23 rfl rfl ?_
    refine ar_iload_n (i := 1) (pc := 12) dX7_sign_12 rfl rfl ?_
    refine ar_iald (pc := 13) dX7_sign_13 rfl (show i < 60 by have h := Nat.lt_of_not_le (fun z : L ≤ i => c5 ((nI_leI (a := L) (b := i) (by omega) (by omega)).mpr z)); omega) rfl ?_
    refine ar_goto (tgt := 18) (pc := 14) dX7_sign_14 (by decide) ?_
    exact ar_iret (pc := 18) dX7_sign_18 rfl rfl rfl ⟨by rw [sg_V, if_pos (Nat.lt_of_not_le fun z => c5 ((nI_leI (by omega) (by omega)).mpr z))], rfl⟩

set_option maxHeartbeats 4000000 in
set_option maxRecDepth 100000 in
theorem sX7_digit (q : RV) (L : Nat) (hL : L ≤ 60) (hl : rq_N q = nI L) {i : Nat} (hi : i < 1000) : am_Sp mX7_digit [.ref 2, .int (nI i)] (md_H q) (am_rp (dg_V (rq_P q) L i) (md_H q)) := by
  refine am_intro (by decide) (Nat.le_of_ble_eq_true rfl) ?_
  refine ar_aload_n (i := 0) (pc := 0) dX7_digit_0 rfl rfl ?_
  refine ar_iload_n (i := 1) (pc := 1) dX7_digit_1 rfl rfl ?_
  refine ar_idV (pc := 2) dX7_digit_2 cal_X7_sign kX7_138 rfl (sX7_sign q L hL hl hi) rfl rfl rfl rfl rfl rfl rfl (fun r h1 hp => ?_)
  obtain ⟨rfl, rfl⟩ := hp
  refine ⟨rfl, ?_⟩
  refine ar_bipush (pc := 5) dX7_digit_5 q_bipush_48 ?_
  refine ar_bipush (pc := 7) dX7_digit_7 q_bipush_57 ?_
  refine ar_idS (pc := 9) dX7_digit_9 cal_X7_in kX7_32 rfl (sX7_inB (md_H q) (sg_V (rq_P q) L i) 48 57) rfl rfl rfl rfl rfl (fun r h1 hp => ?_)
  obtain ⟨⟨h9, rfl⟩ | ⟨h9, rfl⟩, rfl⟩ := hp
  · refine ⟨rfl, ?_⟩
    refine ar_if_eq (pc := 12) (tgt := 26) dX7_digit_12 (by decide) (fun c12 => absurd c12 (by decide)) (fun c12 => ?_)
    refine ar_aload_n (i := 0) (pc := 15) dX7_digit_15 rfl rfl ?_
    refine ar_iload_n (i := 1) (pc := 16) dX7_digit_16 rfl rfl ?_
    refine ar_idV (pc := 17) dX7_digit_17 cal_X7_sign kX7_138 rfl (sX7_sign q L hL hl hi) rfl rfl rfl rfl rfl rfl rfl (fun r h1 hp => ?_)
    obtain ⟨rfl, rfl⟩ := hp
    refine ⟨rfl, ?_⟩
    refine ar_bipush (pc := 20) dX7_digit_20 q_bipush_48 ?_
    refine ar_isub (pc := 22) dX7_digit_22 ?_
    refine ar_goto (tgt := 27) (pc := 23) dX7_digit_23 (by decide) ?_
    exact ar_iret (pc := 27) dX7_digit_27 rfl rfl rfl ⟨by rw [dg_V, if_pos (by rw [ti_48, ti_57] at h9; exact h9)], rfl⟩
  · refine ⟨rfl, ?_⟩
    refine ar_if_eq (pc := 12) (tgt := 26) dX7_digit_12 (by decide) (fun c12 => ?_) (fun c12 => absurd c12 (by decide))
    refine ar_iconst (pc := 26) dX7_digit_26 q_iconst_m1 ?_
    exact ar_iret (pc := 27) dX7_digit_27 rfl rfl rfl ⟨by rw [dg_V, if_neg (fun z => h9 (by rw [ti_48, ti_57]; exact z))], rfl⟩

/-- the value of a part's end -/
def pv_I (x : Nat × Bool) : Int32 := if x.2 = true then -1 - nI x.1 else nI x.1
theorem pv_m3 (p : Nat) : -3 - nI p = -1 - nI (p + 2) := by
  rw [← nI_add, show nI 2 = (2 : Int32) from rfl]
  refine Int32.toBitVec_inj.mp ?_
  show BitVec.ofInt 32 (-3) - (nI p).toBitVec = BitVec.ofInt 32 (-1) - ((nI p).toBitVec + BitVec.ofInt 32 2)
  rw [show BitVec.ofInt 32 (-3) = BitVec.ofInt 32 (-1) - BitVec.ofInt 32 2 by decide]
  generalize (nI p).toBitVec = x
  rw [BitVec.sub_eq_add_neg, BitVec.sub_eq_add_neg, BitVec.sub_eq_add_neg, BitVec.neg_add, BitVec.sub_eq_add_neg, BitVec.add_assoc, BitVec.add_comm (-BitVec.ofInt 32 2)]
theorem pv_neg {x : Nat × Bool} (h : x.1 < 1000) : pv_I x < 0 ↔ x.2 = true := by
  unfold pv_I
  by_cases c : x.2 = true
  · rw [if_pos c]
    refine ⟨fun _ => c, fun _ => ?_⟩
    rw [Int32.lt_iff_toInt_lt, ti_0, Int32.toInt_sub, ti_m1, nI_toInt (by omega), Int.bmod_eq_of_le (by omega) (by omega)]
    omega
  · rw [if_neg c]
    exact ⟨fun z => absurd z (nI_pos (by omega)), fun z => absurd z c⟩
theorem pE_le {pd : Nat → Int32} {L p : Nat} : p ≤ (pE_V pd L p).1 ∧ (pE_V pd L p).1 ≤ p + 4 := by
  unfold pE_V
  repeat' split
  all_goals (constructor <;> (dsimp only; omega))
set_option maxHeartbeats 4000000 in
set_option maxRecDepth 100000 in
theorem sX7_partEnd (q : RV) (L : Nat) (hL : L ≤ 60) (hl : rq_N q = nI L) {p : Nat} (hp : p < 100) : am_Sp mX7_partEnd [.ref 2, .int (nI p)] (md_H q) (am_rp (pv_I (pE_V (rq_P q) L p)) (md_H q)) := by
  refine am_intro (by decide) (Nat.le_of_ble_eq_true rfl) ?_
  refine ar_aload_n (i := 0) (pc := 0) dX7_partEnd_0 rfl rfl ?_
  refine ar_iload_n (i := 1) (pc := 1) dX7_partEnd_1 rfl rfl ?_
  refine ar_idV (pc := 2) dX7_partEnd_2 cal_X7_digit kX7_141 rfl (sX7_digit q L hL hl (i := p) (by omega)) rfl rfl rfl rfl rfl rfl rfl (fun r h1 hp => ?_)
  obtain ⟨rfl, rfl⟩ := hp
  refine ⟨rfl, ?_⟩
  refine ar_iconst (pc := 5) dX7_partEnd_5 q_iconst_1 ?_
  refine ar_icmp_ge (pc := 6) (tgt := 13) dX7_partEnd_6 (by decide) (fun c6 => ?_) (fun c6 => ?_)
  · refine ar_aload_n (i := 0) (pc := 13) dX7_partEnd_13 rfl rfl ?_
    refine ar_iload_n (i := 1) (pc := 14) dX7_partEnd_14 rfl rfl ?_
    refine ar_iconst (pc := 15) dX7_partEnd_15 q_iconst_1 ?_
    refine ar_iadd (pc := 16) dX7_partEnd_16 ?_
    rw [nI_1]
    refine ar_idV (pc := 17) dX7_partEnd_17 cal_X7_sign kX7_138 rfl (sX7_sign q L hL hl (i := p + 1) (by omega)) rfl rfl rfl rfl rfl rfl rfl (fun r h1 hp => ?_)
    obtain ⟨rfl, rfl⟩ := hp
    refine ⟨rfl, ?_⟩
    refine ar_bipush (pc := 20) dX7_partEnd_20 q_bipush_64 ?_
    refine ar_icmp_eq (pc := 22) (tgt := 29) dX7_partEnd_22 (by decide) (fun c22 => ?_) (fun c22 => ?_)
    · refine ar_aload_n (i := 0) (pc := 29) dX7_partEnd_29 rfl rfl ?_
      refine ar_iload_n (i := 1) (pc := 30) dX7_partEnd_30 rfl rfl ?_
      refine ar_iconst (pc := 31) dX7_partEnd_31 q_iconst_2 ?_
      refine ar_iadd (pc := 32) dX7_partEnd_32 ?_
      rw [show (2 : Int32) = nI 2 from rfl, nI_add]
      refine ar_idV (pc := 33) dX7_partEnd_33 cal_X7_digit kX7_141 rfl (sX7_digit q L hL hl (i := p + 2) (by omega)) rfl rfl rfl rfl rfl rfl rfl (fun r h1 hp => ?_)
      obtain ⟨rfl, rfl⟩ := hp
      refine ⟨rfl, ?_⟩
      refine ar_if_ge (pc := 36) (tgt := 44) dX7_partEnd_36 (by decide) (fun c36 => ?_) (fun c36 => ?_)
      · refine ar_aload_n (i := 0) (pc := 44) dX7_partEnd_44 rfl rfl ?_
        refine ar_iload_n (i := 1) (pc := 45) dX7_partEnd_45 rfl rfl ?_
        refine ar_iconst (pc := 46) dX7_partEnd_46 q_iconst_2 ?_
        refine ar_iadd (pc := 47) dX7_partEnd_47 ?_
        rw [show (2 : Int32) = nI 2 from rfl, nI_add]
        refine ar_idV (pc := 48) dX7_partEnd_48 cal_X7_digit kX7_141 rfl (sX7_digit q L hL hl (i := p + 2) (by omega)) rfl rfl rfl rfl rfl rfl rfl (fun r h1 hp => ?_)
        obtain ⟨rfl, rfl⟩ := hp
        refine ⟨rfl, ?_⟩
        refine ar_iconst (pc := 51) dX7_partEnd_51 q_iconst_1 ?_
        refine ar_icmp_ne (pc := 52) (tgt := 76) dX7_partEnd_52 (by decide) (fun c52 => ?_) (fun c52 => ?_)
        · refine ar_iload_n (i := 1) (pc := 76) dX7_partEnd_76 rfl rfl ?_
          refine ar_iconst (pc := 77) dX7_partEnd_77 q_iconst_3 ?_
          refine ar_iadd (pc := 78) dX7_partEnd_78 ?_
          rw [show (3 : Int32) = nI 3 from rfl, nI_add]
          exact ar_iret (pc := 79) dX7_partEnd_79 rfl rfl rfl ⟨by rw [pE_V, if_neg (Int32.not_lt.mpr c6), if_neg (fun z => z c22), if_neg (Int32.not_lt.mpr c36), if_neg (fun z => c52 z.1), pv_I, if_neg (by show ¬ false = true; decide)], rfl⟩
        · refine ar_aload_n (i := 0) (pc := 55) dX7_partEnd_55 rfl rfl ?_
          refine ar_iload_n (i := 1) (pc := 56) dX7_partEnd_56 rfl rfl ?_
          refine ar_iconst (pc := 57) dX7_partEnd_57 q_iconst_3 ?_
          refine ar_iadd (pc := 58) dX7_partEnd_58 ?_
          rw [show (3 : Int32) = nI 3 from rfl, nI_add]
          refine ar_idV (pc := 59) dX7_partEnd_59 cal_X7_digit kX7_141 rfl (sX7_digit q L hL hl (i := p + 3) (by omega)) rfl rfl rfl rfl rfl rfl rfl (fun r h1 hp => ?_)
          obtain ⟨rfl, rfl⟩ := hp
          refine ⟨rfl, ?_⟩
          refine ar_iconst (pc := 62) dX7_partEnd_62 q_iconst_0 ?_
          refine ar_iconst (pc := 63) dX7_partEnd_63 q_iconst_1 ?_
          refine ar_idS (pc := 64) dX7_partEnd_64 cal_X7_in kX7_32 rfl (sX7_inB (md_H q) (dg_V (rq_P q) L (p + 3)) 0 1) rfl rfl rfl rfl rfl (fun r h1 hp => ?_)
          obtain ⟨⟨h64, rfl⟩ | ⟨h64, rfl⟩, rfl⟩ := hp
          · refine ⟨rfl, ?_⟩
            refine ar_if_eq (pc := 67) (tgt := 76) dX7_partEnd_67 (by decide) (fun c67 => absurd c67 (by decide)) (fun c67 => ?_)
            refine ar_iload_n (i := 1) (pc := 70) dX7_partEnd_70 rfl rfl ?_
            refine ar_iconst (pc := 71) dX7_partEnd_71 q_iconst_4 ?_
            refine ar_iadd (pc := 72) dX7_partEnd_72 ?_
            rw [show (4 : Int32) = nI 4 from rfl, nI_add]
            refine ar_goto (tgt := 79) (pc := 73) dX7_partEnd_73 (by decide) ?_
            exact ar_iret (pc := 79) dX7_partEnd_79 rfl rfl rfl ⟨by rw [pE_V, if_neg (Int32.not_lt.mpr c6), if_neg (fun z => z c22), if_neg (Int32.not_lt.mpr c36), if_pos ⟨c52, in01' h64⟩, pv_I, if_neg (by show ¬ false = true; decide)], rfl⟩
          · refine ⟨rfl, ?_⟩
            refine ar_if_eq (pc := 67) (tgt := 76) dX7_partEnd_67 (by decide) (fun c67 => ?_) (fun c67 => absurd c67 (by decide))
            refine ar_iload_n (i := 1) (pc := 76) dX7_partEnd_76 rfl rfl ?_
            refine ar_iconst (pc := 77) dX7_partEnd_77 q_iconst_3 ?_
            refine ar_iadd (pc := 78) dX7_partEnd_78 ?_
            rw [show (3 : Int32) = nI 3 from rfl, nI_add]
            exact ar_iret (pc := 79) dX7_partEnd_79 rfl rfl rfl ⟨by rw [pE_V, if_neg (Int32.not_lt.mpr c6), if_neg (fun z => z c22), if_neg (Int32.not_lt.mpr c36), if_neg (fun z => h64 (in01 z.2)), pv_I, if_neg (by show ¬ false = true; decide)], rfl⟩
      · refine ar_bipush (pc := 39) dX7_partEnd_39 q_bipush_m3 ?_
        refine ar_iload_n (i := 1) (pc := 41) dX7_partEnd_41 rfl rfl ?_
        refine ar_isub (pc := 42) dX7_partEnd_42 ?_
        exact ar_iret (pc := 43) dX7_partEnd_43 rfl rfl rfl ⟨by rw [pE_V, if_neg (Int32.not_lt.mpr c6), if_neg (fun z => z c22), if_pos (Int32.not_le.mp c36), pv_I, if_pos rfl, pv_m3], rfl⟩
    · refine ar_iload_n (i := 1) (pc := 25) dX7_partEnd_25 rfl rfl ?_
      refine ar_iconst (pc := 26) dX7_partEnd_26 q_iconst_1 ?_
      refine ar_iadd (pc := 27) dX7_partEnd_27 ?_
      rw [nI_1]
      exact ar_iret (pc := 28) dX7_partEnd_28 rfl rfl rfl ⟨by rw [pE_V, if_neg (Int32.not_lt.mpr c6), if_pos c22, pv_I, if_neg (by show ¬ false = true; decide)], rfl⟩
  · refine ar_iconst (pc := 9) dX7_partEnd_9 q_iconst_m1 ?_
    refine ar_iload_n (i := 1) (pc := 10) dX7_partEnd_10 rfl rfl ?_
    refine ar_isub (pc := 11) dX7_partEnd_11 ?_
    exact ar_iret (pc := 12) dX7_partEnd_12 rfl rfl rfl ⟨by rw [pE_V, if_pos (Int32.not_le.mp c6), pv_I, if_pos rfl], rfl⟩

set_option maxHeartbeats 4000000 in
set_option maxRecDepth 100000 in
theorem sX7_pitchOf (q : RV) (L : Nat) (hL : L ≤ 60) (hl : rq_N q = nI L) {p : Nat} (hp : p < 100) (hf : (pE_V (rq_P q) L p).2 = false) : am_Sp mX7_pitchOf [.ref 2, .int (nI p)] (md_H q) (am_rp (pO_V (rq_P q) L p) (md_H q)) := by
  refine am_intro (by decide) (Nat.le_of_ble_eq_true rfl) ?_
  have hle := pE_le (pd := rq_P q) (L := L) (p := p)
  refine ar_aload_n (i := 0) (pc := 0) dX7_pitchOf_0 rfl rfl ?_
  refine ar_iload_n (i := 1) (pc := 1) dX7_pitchOf_1 rfl rfl ?_
  refine ar_idV (pc := 2) dX7_pitchOf_2 cal_X7_partEnd kX7_144 rfl (sX7_partEnd q L hL hl hp) rfl rfl rfl rfl rfl rfl rfl (fun r h1 hp => ?_)
  obtain ⟨rfl, rfl⟩ := hp
  refine ⟨rfl, ?_⟩
  rw [show pv_I (pE_V (rq_P q) L p) = nI (pE_V (rq_P q) L p).1 by rw [pv_I, hf, if_neg (by decide)]]
  refine ar_istore_n (i := 2) (pc := 5) dX7_pitchOf_5 rfl (Nat.le_of_ble_eq_true rfl) rfl ?_
  refine ar_iload_n (i := 2) (pc := 6) dX7_pitchOf_6 rfl rfl ?_
  refine ar_iload_n (i := 1) (pc := 7) dX7_pitchOf_7 rfl rfl ?_
  refine ar_iconst (pc := 8) dX7_pitchOf_8 q_iconst_1 ?_
  refine ar_iadd (pc := 9) dX7_pitchOf_9 ?_
  rw [nI_1]
  refine ar_icmp_ne (pc := 10) (tgt := 17) dX7_pitchOf_10 (by decide) (fun c10 => ?_) (fun c10 => ?_)
  · refine ar_iload_n (i := 2) (pc := 17) dX7_pitchOf_17 rfl rfl ?_
    refine ar_iload_n (i := 1) (pc := 18) dX7_pitchOf_18 rfl rfl ?_
    refine ar_iconst (pc := 19) dX7_pitchOf_19 q_iconst_3 ?_
    refine ar_iadd (pc := 20) dX7_pitchOf_20 ?_
    rw [show (3 : Int32) = nI 3 from rfl, nI_add]
    refine ar_icmp_ne (pc := 21) (tgt := 34) dX7_pitchOf_21 (by decide) (fun c21 => ?_) (fun c21 => ?_)
    · refine ar_bipush (pc := 34) dX7_pitchOf_34 q_bipush_10 ?_
      refine ar_aload_n (i := 0) (pc := 36) dX7_pitchOf_36 rfl rfl ?_
      refine ar_iload_n (i := 1) (pc := 37) dX7_pitchOf_37 rfl rfl ?_
      refine ar_iconst (pc := 38) dX7_pitchOf_38 q_iconst_3 ?_
      refine ar_iadd (pc := 39) dX7_pitchOf_39 ?_
      rw [show (3 : Int32) = nI 3 from rfl, nI_add]
      refine ar_idV (pc := 40) dX7_pitchOf_40 cal_X7_digit kX7_141 rfl (sX7_digit q L hL hl (i := p + 3) (by omega)) rfl rfl rfl rfl rfl rfl rfl (fun r h1 hp => ?_)
      obtain ⟨rfl, rfl⟩ := hp
      refine ⟨rfl, ?_⟩
      refine ar_iadd (pc := 43) dX7_pitchOf_43 ?_
      exact ar_iret (pc := 44) dX7_pitchOf_44 rfl rfl rfl ⟨by rw [pO_V, if_neg (fun z => c10 (congrArg nI z)), if_neg (fun z => c21 (congrArg nI z))], rfl⟩
    · refine ar_aload_n (i := 0) (pc := 24) dX7_pitchOf_24 rfl rfl ?_
      refine ar_iload_n (i := 1) (pc := 25) dX7_pitchOf_25 rfl rfl ?_
      refine ar_iconst (pc := 26) dX7_pitchOf_26 q_iconst_2 ?_
      refine ar_iadd (pc := 27) dX7_pitchOf_27 ?_
      rw [show (2 : Int32) = nI 2 from rfl, nI_add]
      refine ar_idV (pc := 28) dX7_pitchOf_28 cal_X7_digit kX7_141 rfl (sX7_digit q L hL hl (i := p + 2) (by omega)) rfl rfl rfl rfl rfl rfl rfl (fun r h1 hp => ?_)
      obtain ⟨rfl, rfl⟩ := hp
      refine ⟨rfl, ?_⟩
      refine ar_goto (tgt := 44) (pc := 31) dX7_pitchOf_31 (by decide) ?_
      exact ar_iret (pc := 44) dX7_pitchOf_44 rfl rfl rfl ⟨by rw [pO_V, if_neg (fun z => c10 (congrArg nI z)), if_pos ((nI_eq (by omega) (by omega)).mp c21)], rfl⟩
  · refine ar_iconst (pc := 13) dX7_pitchOf_13 q_iconst_m1 ?_
    refine ar_goto (tgt := 44) (pc := 14) dX7_pitchOf_14 (by decide) ?_
    exact ar_iret (pc := 44) dX7_pitchOf_44 rfl rfl rfl ⟨by rw [pO_V, if_pos ((nI_eq (by omega) (by omega)).mp c10)], rfl⟩

theorem m1_m1 (x : Int32) : -1 - (-1 - x) = x := by
  refine Int32.toBitVec_inj.mp ?_
  show BitVec.ofInt 32 (-1) - (BitVec.ofInt 32 (-1) - x.toBitVec) = x.toBitVec
  generalize BitVec.ofInt 32 (-1) = y
  generalize x.toBitVec = z
  rw [BitVec.sub_eq_add_neg y z, BitVec.sub_eq_add_neg, BitVec.neg_add, BitVec.sub_eq_add_neg, BitVec.neg_neg, ← BitVec.add_assoc, ← BitVec.sub_eq_add_neg, BitVec.sub_self, BitVec.zero_add]
theorem pE_L {pd : Nat → Int32} {L p : Nat} (hp : p ≤ L) : (pE_V pd L p).2 = true ∨ (pE_V pd L p).1 ≤ L := by
  unfold pE_V
  by_cases A : dg_V pd L p < 1
  · rw [if_pos A]; exact Or.inl rfl
  · have h1 := (dg_lt1.mp A).1
    rw [if_neg A]
    by_cases B : sg_V pd L (p + 1) ≠ 64
    · rw [if_pos B]; exact Or.inr h1
    · rw [if_neg B]
      by_cases C : dg_V pd L (p + 2) < 0
      · rw [if_pos C]; exact Or.inl rfl
      · have h2 := (dg_lt0.mp C).1
        rw [if_neg C]
        by_cases E : dg_V pd L (p + 2) = 1 ∧ (dg_V pd L (p + 3) = 0 ∨ dg_V pd L (p + 3) = 1)
        · have h3 : p + 3 < L := E.2.elim (fun z => ((dg_is 0 48 (by decide +kernel) (by decide +kernel)).mp z).1) (fun z => ((dg_is 1 49 (by decide +kernel) (by decide +kernel)).mp z).1)
          rw [if_pos E]; exact Or.inr h3
        · rw [if_neg E]; exact Or.inr h2
set_option maxHeartbeats 4000000 in
set_option maxRecDepth 100000 in
theorem lX7_fault (h0 : am_H) (q : RV) (L : Nat) (hL : L ≤ 60) (hl : rq_N q = nI L) : ∀ (d k p : Nat) (o3 : Option Value), d + k = 9 → 1 ≤ k → p ≤ L → am_RW mX7_fault h0 (am_rp (ft_V (rq_P q) L d k p) (md_H q)) 0 0 4 [some (.ref 2), some (.int (nI p)), some (.int (nI k)), o3] [] (md_H q) := by
  intro d
  induction d with
  | zero =>
    intro k p o3 hd hk hp
    have e : k = 9 := by omega
    subst e
    refine ar_iload_n (i := 2) (pc := 4) dX7_fault_4 rfl rfl ?_
    refine ar_bipush (pc := 5) dX7_fault_5 q_bipush_8 ?_
    refine ar_icmp_gt (pc := 7) (tgt := 63) dX7_fault_7 (by decide) (fun c7 => ?_) (fun c7 => absurd (by decide +kernel) c7)
    refine ar_bipush (pc := 63) dX7_fault_63 q_bipush_m6 ?_
    exact ar_iret (pc := 65) dX7_fault_65 rfl rfl rfl ⟨rfl, rfl⟩
  | succ d ih =>
    intro k p o3 hd hk hp
    have hle := pE_le (pd := rq_P q) (L := L) (p := p)
    by_cases lt : (pE_V (rq_P q) L p).2 = true ∨ (pE_V (rq_P q) L p).1 ≤ L
    · skip
      refine ar_iload_n (i := 2) (pc := 4) dX7_fault_4 rfl rfl ?_
      refine ar_bipush (pc := 5) dX7_fault_5 q_bipush_8 ?_
      refine ar_icmp_gt (pc := 7) (tgt := 63) dX7_fault_7 (by decide) (fun c7 => absurd ((Int32.lt_iff_toInt_lt).mp c7) (by rw [ti_8, nI_toInt (by omega)]; omega)) (fun c7 => ?_)
      refine ar_aload_n (i := 0) (pc := 10) dX7_fault_10 rfl rfl ?_
      refine ar_iload_n (i := 1) (pc := 11) dX7_fault_11 rfl rfl ?_
      refine ar_idV (pc := 12) dX7_fault_12 cal_X7_partEnd kX7_144 rfl (sX7_partEnd q L hL hl (by omega)) rfl rfl rfl rfl rfl rfl rfl (fun r h1 hp => ?_)
      obtain ⟨rfl, rfl⟩ := hp
      refine ⟨rfl, ?_⟩
      refine ar_istore_n (i := 3) (pc := 15) dX7_fault_15 rfl (Nat.le_of_ble_eq_true rfl) rfl ?_
      refine ar_iload_n (i := 3) (pc := 16) dX7_fault_16 rfl rfl ?_
      refine ar_if_ge (pc := 17) (tgt := 24) dX7_fault_17 (by decide) (fun c17 => ?_) (fun c17 => ?_)
      · rw [show pv_I (pE_V (rq_P q) L p) = nI (pE_V (rq_P q) L p).1 by rw [pv_I, if_neg (fun z => absurd ((pv_neg (by omega)).mpr z) (Int32.not_lt.mpr c17))]]
        refine ar_iload_n (i := 3) (pc := 24) dX7_fault_24 rfl rfl ?_
        refine ar_aload_n (i := 0) (pc := 25) dX7_fault_25 rfl rfl ?_
        refine ar_getf (pc := 26) dX7_fault_26 fX7_130 rfl rfl ?_
        rw [hl]
        refine ar_icmp_ne (pc := 29) (tgt := 35) dX7_fault_29 (by decide) (fun c29 => ?_) (fun c29 => ?_)
        · refine ar_aload_n (i := 0) (pc := 35) dX7_fault_35 rfl rfl ?_
          refine ar_iload_n (i := 3) (pc := 36) dX7_fault_36 rfl rfl ?_
          refine ar_idV (pc := 37) dX7_fault_37 cal_X7_sign kX7_138 rfl (sX7_sign q L hL hl (by omega)) rfl rfl rfl rfl rfl rfl rfl (fun r h1 hp => ?_)
          obtain ⟨rfl, rfl⟩ := hp
          refine ⟨rfl, ?_⟩
          refine ar_bipush (pc := 40) dX7_fault_40 q_bipush_44 ?_
          refine ar_icmp_ne (pc := 42) (tgt := 51) dX7_fault_42 (by decide) (fun c42 => ?_) (fun c42 => ?_)
          · refine ar_iload_n (i := 3) (pc := 51) dX7_fault_51 rfl rfl ?_
            exact ar_iret (pc := 52) dX7_fault_52 rfl rfl rfl ⟨by rw [ft_V, if_neg (fun z => absurd ((pv_neg (by omega)).mpr z) (Int32.not_lt.mpr c17)), if_neg (fun z => c29 (congrArg nI z)), if_pos (Or.inl c42)], rfl⟩
          · refine ar_iload_n (i := 2) (pc := 45) dX7_fault_45 rfl rfl ?_
            refine ar_bipush (pc := 46) dX7_fault_46 q_bipush_8 ?_
            refine ar_icmp_ne (pc := 48) (tgt := 53) dX7_fault_48 (by decide) (fun c48 => ?_) (fun c48 => ?_)
            · refine ar_iload_n (i := 3) (pc := 53) dX7_fault_53 rfl rfl ?_
              refine ar_iconst (pc := 54) dX7_fault_54 q_iconst_1 ?_
              refine ar_iadd (pc := 55) dX7_fault_55 ?_
              rw [nI_1]
              refine ar_istore_n (i := 1) (pc := 56) dX7_fault_56 rfl (Nat.le_of_ble_eq_true rfl) rfl ?_
              refine ar_iinc (pc := 57) dX7_fault_57 rfl (ni_inc _) (Nat.le_of_ble_eq_true rfl) rfl ?_
              refine ar_goto (tgt := 4) (pc := 60) dX7_fault_60 (by decide) ?_
              have hlt : (pE_V (rq_P q) L p).1 < L := by
                rcases lt with z | z
                · exact absurd ((pv_neg (by omega)).mpr z) (Int32.not_lt.mpr c17)
                · have : (pE_V (rq_P q) L p).1 ≠ L := fun y => c29 (congrArg nI y)
                  omega
              have ih2 := ih (k + 1) ((pE_V (rq_P q) L p).1 + 1) (some (.int (nI (pE_V (rq_P q) L p).1))) (by omega) (by omega) (by omega)
              rw [ft_V, if_neg (fun z => absurd ((pv_neg (by omega)).mpr z) (Int32.not_lt.mpr c17)), if_neg (fun z => c29 (congrArg nI z)), if_neg (fun z => z.elim (fun y => y c42) (fun y => c48 (by rw [y]; rfl)))]
              exact ih2
            · refine ar_iload_n (i := 3) (pc := 51) dX7_fault_51 rfl rfl ?_
              exact ar_iret (pc := 52) dX7_fault_52 rfl rfl rfl ⟨by rw [ft_V, if_neg (fun z => absurd ((pv_neg (by omega)).mpr z) (Int32.not_lt.mpr c17)), if_neg (fun z => c29 (congrArg nI z)), if_pos (Or.inr ((nI_eq (a := k) (b := 8) (by omega) (by omega)).mp c48))], rfl⟩
        · refine ar_bipush (pc := 32) dX7_fault_32 q_bipush_m6 ?_
          exact ar_iret (pc := 34) dX7_fault_34 rfl rfl rfl ⟨by rw [ft_V, if_neg (fun z => absurd ((pv_neg (by omega)).mpr z) (Int32.not_lt.mpr c17)), if_pos ((nI_eq (by omega) (by omega)).mp c29)], rfl⟩
      · refine ar_iconst (pc := 20) dX7_fault_20 q_iconst_m1 ?_
        refine ar_iload_n (i := 3) (pc := 21) dX7_fault_21 rfl rfl ?_
        refine ar_isub (pc := 22) dX7_fault_22 ?_
        exact ar_iret (pc := 23) dX7_fault_23 rfl rfl rfl ⟨by rw [ft_V, if_pos ((pv_neg (by omega)).mp (Int32.not_le.mp c17)), pv_I, if_pos ((pv_neg (by omega)).mp (Int32.not_le.mp c17)), m1_m1], rfl⟩
    · exact absurd (pE_L (Nat.le_trans hp (Nat.le_refl L))) lt
set_option maxHeartbeats 4000000 in
set_option maxRecDepth 100000 in
theorem sX7_fault (q : RV) (L : Nat) (hL : L ≤ 60) (hl : rq_N q = nI L) : am_Sp mX7_fault [.ref 2] (md_H q) (am_rp (ft_V (rq_P q) L 8 1 0) (md_H q)) := by
  refine am_intro (by decide) (Nat.le_of_ble_eq_true rfl) ?_
  refine ar_iconst (pc := 0) dX7_fault_0 q_iconst_0 ?_
  refine ar_istore_n (i := 1) (pc := 1) dX7_fault_1 rfl (Nat.le_of_ble_eq_true rfl) rfl ?_
  refine ar_iconst (pc := 2) dX7_fault_2 q_iconst_1 ?_
  refine ar_istore_n (i := 2) (pc := 3) dX7_fault_3 rfl (Nat.le_of_ble_eq_true rfl) rfl ?_
  rw [← nI_0]
  exact lX7_fault _ q L hL hl 8 1 0 _ (by omega) (by omega) (by omega)

