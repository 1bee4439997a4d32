/-! class and reference side by side; remembers, copies, forgets, comes -/
def se_D (v : SV) : Prop := ∀ k, k < 6 → 0 ≤ (vS v k).toInt ∧ (vS v k).toInt ≤ (if k < 2 then 999 else if k = 4 then 5 else 100)
/-- what a State is that is kept: n booths -/
def ok_D (v : SV) (n : Nat) : Prop := vBo v = nI n ∧ vv_D v n ∧ (vDa v).toInt ≤ 9999 ∧ se_D v ∧ (0 ≤ (vRo v).toInt ∧ (vRo v).toInt < 4096) ∧ (∀ k, k < 8 → vL v k = -6 ∨ ∃ b, b < n ∧ vL v k = nI b) ∧ ∀ k, k < 8 → vP v k = -6 ∨ inP (vP v k)
/-- the row at p is the State v -/
def sl_R (p : Nat) (v : SV) (s : Nat → Int32) : Prop := ∃ n, ok_D v n ∧ ro_R p n v s
theorem sl_move {p p' : Nat} {v : SV} {s t : Nat → Int32} (h : ∀ j, j < 60 → t (p' + j) = s (p + j)) (R : sl_R p v s) : sl_R p' v t := by
  obtain ⟨n, h1, h2⟩ := R
  exact ⟨n, h1, ro_move h2 h1.2.1.1 h⟩
def hi_R (y : HYt) (pa : Nat → Int32) (kn : Int32) : Prop := y.2.1 < 6 ∧ y.2.2 ≤ 6 ∧ kn = nI y.2.2 ∧ ∀ i, i < y.2.2 → ∃ u, y.1 ((y.2.1 + 12 - y.2.2 + i) % 6) = some u ∧ sl_R (60 * i) u pa
def sv_R (o : Option SV) (p : Nat) (sl : Nat → Int32) (x : Int32) : Prop := match o with
  | none => x = 0
  | some u => x = 1 ∧ sl_R p u sl
def pd_R (d : PDt) (pd : Nat → Int32) (ln : Int32) : Prop := ∃ L, L ≤ 60 ∧ d.1 = nI L ∧ ln = nI L ∧ ∀ i, i < L → d.2.1 i = pd i ∧ 33 ≤ (pd i).toInt ∧ (pd i).toInt ≤ 126
/-- the class's object and the reference's say the same -/
def mr_R (z : PV) (q : RV) : Prop := sl_R 0 (pN z) (rq_S q) ∧ hi_R (pY z) (rq_A q) (rq_K q) ∧ (sv_R (pL z).1 0 (rq_L q) (rq_V q 0) ∧ sv_R (pL z).2 60 (rq_L q) (rq_V q 1)) ∧ pd_R (pD z) (rq_P q) (rq_N q)
/-- the class's objects that say the same -/
def eq_Z (z z1 : PV) : Prop := pN z = pN z1 ∧ pY z = pY z1 ∧ pL z = pL z1 ∧ (pD z).1 = (pD z1).1 ∧ (pD z).2.1 = (pD z1).2.1
theorem mr_eq {z z1 : PV} {q : RV} (h : eq_Z z z1) (M : mr_R z1 q) : mr_R z q := by
  obtain ⟨h1, h2, h3, h4, h5⟩ := h
  unfold mr_R pd_R
  rw [h1, h2, h3, h4, h5]
  exact M
/-- what a call of the class leaves; what one of the reference leaves -/
def zz_P (x : Int32) (w0 : Bool) (ff : Nat → Int32) (w1 : Bool) (gg : Nat → Int32) (z1 : PV) : Option Value → am_H → Prop := fun r h1 => r = some (.int x) ∧ ∃ z, h1 = ppH w0 ff w1 gg z ∧ eq_Z z z1
def qq_P (x : Int32) (z1 : PV) : Option Value → am_H → Prop := fun r h1 => r = some (.int x) ∧ ∃ q, h1 = md_H q ∧ mr_R z1 q
/-- asked in vain: the reference keeps what counts -/
def qu_P (q : RV) (x : Int32) : Option Value → am_H → Prop := fun r h1 => ∃ st s, r = some (.int x) ∧ h1 = md_H (ru_S (ru_T q st) s) ∧ ∀ j, j < 60 → s j = rq_S q j
theorem mr_ask {z : PV} {q : RV} {st s : Nat → Int32} (M : mr_R z q) (h : ∀ j, j < 60 → s j = rq_S q j) : mr_R z (ru_S (ru_T q st) s) := by
  obtain ⟨m1, m2⟩ := M
  exact ⟨sl_move (fun j hj => by rw [Nat.zero_add]; exact h j hj) m1, m2⟩
theorem am_wk {M : am_M} {as : List Value} {h : am_H} {P Q : Option Value → am_H → Prop} (sp : am_Sp M as h P) (hPQ : ∀ r h1, P r h1 → Q r h1) : am_Sp M as h Q := by
  intro l D ad sz p e ha hf hc s m args below h1 h2 h3 h4
  obtain ⟨n, o, a1, a2, a3, ⟨⟨r, k1, ad1, hp, e1⟩, f⟩, a5⟩ := sp l D ad sz p e ha hf hc s m args below h1 h2 h3 h4
  exact ⟨n, o, a1, a2, a3, ⟨⟨r, k1, ad1, hPQ _ _ hp, e1⟩, f⟩, a5⟩
def sh_F (pa : Nat → Int32) (k : Nat) : Nat → Int32 := fun j => if j < k then pa (60 + j) else pa j
theorem sh_0 (pa : Nat → Int32) : sh_F pa 0 = pa := by funext j; simp [sh_F]
theorem sh_s (pa : Nat → Int32) (k : Nat) : upd (sh_F pa k) k (sh_F pa k (60 + k)) = sh_F pa (k + 1) := by
  funext j
  by_cases e : j = k
  · subst e
    rw [pk_us, sh_F, sh_F, if_neg (by omega), if_pos (by omega)]
  · rw [pk_un e, sh_F, sh_F]
    by_cases h : j < k
    · rw [if_pos h, if_pos (by omega)]
    · rw [if_neg h, if_neg (by omega)]
def cp_F (pa s : Nat → Int32) (m k : Nat) : Nat → Int32 := fun j => if 60 * m ≤ j ∧ j < 60 * m + k then s (j - 60 * m) else pa j
theorem cp_0 (pa s : Nat → Int32) (m : Nat) : cp_F pa s m 0 = pa := by
  funext j
  rw [cp_F, if_neg (by omega)]
theorem cp_s (pa s : Nat → Int32) (m k : Nat) : upd (cp_F pa s m k) (60 * m + k) (s k) = cp_F pa s m (k + 1) := by
  funext j
  by_cases e : j = 60 * m + k
  · subst e
    rw [pk_us, cp_F, if_pos (by omega), show 60 * m + k - 60 * m = k by omega]
  · rw [pk_un e, cp_F, cp_F]
    by_cases h : 60 * m ≤ j ∧ j < 60 * m + k
    · rw [if_pos h, if_pos (by omega)]
    · rw [if_neg h, if_neg (by omega)]
def re_A (pa s : Nat → Int32) (m : Nat) : Nat → Int32 := if m < 6 then cp_F pa s m 60 else cp_F (sh_F pa 300) s 5 60
theorem md_KA (q : RV) (a b : Nat → Int32) : ru_A (ru_A q a) b = ru_A q b := rfl
theorem rq_AA2 (q : RV) (a : Nat → Int32) (x : Int32) : rq_A (ru_K (ru_A q a) x) = a := rfl
theorem rq_KA2 (q : RV) (a : Nat → Int32) : rq_K (ru_A q a) = rq_K q := rfl
set_option maxHeartbeats 4000000 in
set_option maxRecDepth 100000 in
theorem lX7_remembers_51 (h0 : am_H) (q : RV) (m : Nat) (hm : m < 6) (hK : rq_K q = nI m) : ∀ (d k : Nat), k + d = 60 → am_RW mX7_remembers h0 (am_vp (md_H (ru_K (ru_A q (cp_F (rq_A q) (rq_S q) m 60)) (nI (m + 1))))) 0 0 51 [some (.ref 2), some (.int (nI k))] [] (md_H (ru_A q (cp_F (rq_A q) (rq_S q) m k))) := by
  intro d
  induction d with
  | zero =>
    intro k hk
    have e : k = 60 := by omega
    subst e
    refine ar_iload_n (i := 1) (pc := 51) dX7_remembers_51 rfl rfl ?_
    refine ar_bipush (pc := 52) dX7_remembers_52 q_bipush_60 ?_
    refine ar_icmp_ge (pc := 54) (tgt := 83) dX7_remembers_54 (by decide) (fun c54 => ?_) (fun c54 => absurd (by decide +kernel) c54)
    refine ar_aload_n (i := 0) (pc := 83) dX7_remembers_83 rfl rfl ?_
    refine ar_dup (pc := 84) dX7_remembers_84 rfl ?_
    refine ar_getf (pc := 85) dX7_remembers_85 fX7_40 rfl rfl ?_
    rw [rq_KA2, hK]
    refine ar_iconst (pc := 88) dX7_remembers_88 q_iconst_1 ?_
    refine ar_iadd (pc := 89) dX7_remembers_89 ?_
    rw [nI_1]
    refine ar_putf (pc := 90) dX7_remembers_90 fX7_40 rfl (Nat.le_of_ble_eq_true rfl) (fun _ => ⟨rfl, rfl⟩) ?_
    rw [md_K]
    exact ar_vret (pc := 93) dX7_remembers_93 rfl rfl rfl ⟨rfl, rfl⟩
  | succ d ih =>
    intro k hk
    refine ar_iload_n (i := 1) (pc := 51) dX7_remembers_51 rfl rfl ?_
    refine ar_bipush (pc := 52) dX7_remembers_52 q_bipush_60 ?_
    refine ar_icmp_ge (pc := 54) (tgt := 83) dX7_remembers_54 (by decide) (fun c54 => absurd ((nI_leI (a := 60) (b := k) (by omega) (by omega)).mp c54) (by omega)) (fun c54 => ?_)
    refine ar_aload_n (i := 0) (pc := 57) dX7_remembers_57 rfl rfl ?_
    refine ar_getf (pc := 58) dX7_remembers_58 fX7_13 rfl rfl ?_
    refine ar_bipush (pc := 61) dX7_remembers_61 q_bipush_60 ?_
    refine ar_aload_n (i := 0) (pc := 63) dX7_remembers_63 rfl rfl ?_
    refine ar_getf (pc := 64) dX7_remembers_64 fX7_40 rfl rfl ?_
    rw [rq_KA2, hK]
    refine ar_imul (pc := 67) dX7_remembers_67 ?_
    refine ar_iload_n (i := 1) (pc := 68) dX7_remembers_68 rfl rfl ?_
    refine ar_iadd (pc := 69) dX7_remembers_69 ?_
    refine ar_aload_n (i := 0) (pc := 70) dX7_remembers_70 rfl rfl ?_
    refine ar_getf (pc := 71) dX7_remembers_71 fX7_7 rfl rfl ?_
    refine ar_iload_n (i := 1) (pc := 74) dX7_remembers_74 rfl rfl ?_
    refine ar_iald (pc := 75) dX7_remembers_75 rfl (show k < 120 by omega) rfl ?_
    refine ar_iast (pc := 76) dX7_remembers_76 rfl (show 60 * m + k < 360 by omega) (by rw [show (60 : Int32) = nI 60 from rfl, pk_mul, nI_add]) ?_
    rw [md_A, ru_AA, rq_AA, rq_SA, cp_s]
    refine ar_iinc (pc := 77) dX7_remembers_77 rfl (ni_inc _) (Nat.le_of_ble_eq_true rfl) rfl ?_
    refine ar_goto (tgt := 51) (pc := 80) dX7_remembers_80 (by decide) ?_
    exact ih (k + 1) (by omega)
set_option maxHeartbeats 4000000 in
set_option maxRecDepth 100000 in
theorem lX7_remembers_11 (h0 : am_H) (P : Option Value → am_H → Prop) (q : RV) (hK : rq_K q = nI 6) (kk : am_RW mX7_remembers h0 P 0 0 51 [some (.ref 2), some (.int 0)] [] (md_H (ru_K (ru_A q (sh_F (rq_A q) 300)) (nI 5)))) : ∀ (d k : Nat), k + d = 300 → am_RW mX7_remembers h0 P 0 0 11 [some (.ref 2), some (.int (nI k))] [] (md_H (ru_A q (sh_F (rq_A q) k))) := by
  intro d
  induction d with
  | zero =>
    intro k hk
    have e : k = 300 := by omega
    subst e
    refine ar_iload_n (i := 1) (pc := 11) dX7_remembers_11 rfl rfl ?_
    refine ar_sipush (pc := 12) dX7_remembers_12 q_sipush_300 ?_
    refine ar_icmp_ge (pc := 15) (tgt := 39) dX7_remembers_15 (by decide) (fun c15 => ?_) (fun c15 => absurd (by decide +kernel) c15)
    refine ar_aload_n (i := 0) (pc := 39) dX7_remembers_39 rfl rfl ?_
    refine ar_dup (pc := 40) dX7_remembers_40 rfl ?_
    refine ar_getf (pc := 41) dX7_remembers_41 fX7_40 rfl rfl ?_
    rw [rq_KA2, hK]
    refine ar_iconst (pc := 44) dX7_remembers_44 q_iconst_1 ?_
    refine ar_isub (pc := 45) dX7_remembers_45 ?_
    rw [show nI 6 - (1 : Int32) = nI 5 by decide +kernel]
    refine ar_putf (pc := 46) dX7_remembers_46 fX7_40 rfl (Nat.le_of_ble_eq_true rfl) (fun _ => ⟨rfl, rfl⟩) ?_
    rw [md_K]
    refine ar_iconst (pc := 49) dX7_remembers_49 q_iconst_0 ?_
    refine ar_istore_n (i := 1) (pc := 50) dX7_remembers_50 rfl (Nat.le_of_ble_eq_true rfl) rfl ?_
    exact kk
  | succ d ih =>
    intro k hk
    refine ar_iload_n (i := 1) (pc := 11) dX7_remembers_11 rfl rfl ?_
    refine ar_sipush (pc := 12) dX7_remembers_12 q_sipush_300 ?_
    refine ar_icmp_ge (pc := 15) (tgt := 39) dX7_remembers_15 (by decide) (fun c15 => absurd ((nI_leI (a := 300) (b := k) (by omega) (by omega)).mp c15) (by omega)) (fun c15 => ?_)
    refine ar_aload_n (i := 0) (pc := 18) dX7_remembers_18 rfl rfl ?_
    refine ar_getf (pc := 19) dX7_remembers_19 fX7_13 rfl rfl ?_
    refine ar_iload_n (i := 1) (pc := 22) dX7_remembers_22 rfl rfl ?_
    refine ar_aload_n (i := 0) (pc := 23) dX7_remembers_23 rfl rfl ?_
    refine ar_getf (pc := 24) dX7_remembers_24 fX7_13 rfl rfl ?_
    refine ar_bipush (pc := 27) dX7_remembers_27 q_bipush_60 ?_
    refine ar_iload_n (i := 1) (pc := 29) dX7_remembers_29 rfl rfl ?_
    refine ar_iadd (pc := 30) dX7_remembers_30 ?_
    refine ar_iald (pc := 31) dX7_remembers_31 rfl (show 60 + k < 360 by omega) (nI_add 60 k) ?_
    refine ar_iast (pc := 32) dX7_remembers_32 rfl (show k < 360 by omega) rfl ?_
    rw [md_A, ru_AA, rq_AA, sh_s]
    refine ar_iinc (pc := 33) dX7_remembers_33 rfl (ni_inc _) (Nat.le_of_ble_eq_true rfl) rfl ?_
    refine ar_goto (tgt := 11) (pc := 36) dX7_remembers_36 (by decide) ?_
    exact ih (k + 1) (by omega)
set_option maxHeartbeats 4000000 in
set_option maxRecDepth 100000 in
theorem sX7_remembers (q : RV) (m : Nat) (hm : m ≤ 6) (hK : rq_K q = nI m) : am_Sp mX7_remembers [.ref 2] (md_H q) (am_vp (md_H (ru_K (ru_A q (re_A (rq_A q) (rq_S q) m)) (nI (kp1 m))))) := by
  refine am_intro (by decide) (Nat.le_of_ble_eq_true rfl) ?_
  by_cases c : m < 6
  · rw [re_A, if_pos c, kp1, if_pos c]
    refine ar_aload_n (i := 0) (pc := 0) dX7_remembers_0 rfl rfl ?_
    refine ar_getf (pc := 1) dX7_remembers_1 fX7_40 rfl rfl ?_
    refine ar_bipush (pc := 4) dX7_remembers_4 q_bipush_6 ?_
    refine ar_icmp_ne (pc := 6) (tgt := 49) dX7_remembers_6 (by decide) (fun c6 => ?_) (fun c6 => absurd ((nI_eq (a := m) (b := 6) (by omega) (by omega)).mp (hK.symm.trans c6)) (by omega))
    refine ar_iconst (pc := 49) dX7_remembers_49 q_iconst_0 ?_
    refine ar_istore_n (i := 1) (pc := 50) dX7_remembers_50 rfl (Nat.le_of_ble_eq_true rfl) rfl ?_
    rw [← nI_0]
    refine ar_hp (h' := md_H (ru_A q (cp_F (rq_A q) (rq_S q) m 0))) (by rw [cp_0, ru_A0]) ?_
    exact lX7_remembers_51 _ q m c hK 60 0 (by omega)
  · have e : m = 6 := by omega
    subst e
    rw [re_A, if_neg c, kp1, if_neg c]
    refine ar_aload_n (i := 0) (pc := 0) dX7_remembers_0 rfl rfl ?_
    refine ar_getf (pc := 1) dX7_remembers_1 fX7_40 rfl rfl ?_
    refine ar_bipush (pc := 4) dX7_remembers_4 q_bipush_6 ?_
    refine ar_icmp_ne (pc := 6) (tgt := 49) dX7_remembers_6 (by decide) (fun c6 => absurd hK c6) (fun c6 => ?_)
    refine ar_iconst (pc := 9) dX7_remembers_9 q_iconst_0 ?_
    refine ar_istore_n (i := 1) (pc := 10) dX7_remembers_10 rfl (Nat.le_of_ble_eq_true rfl) rfl ?_
    rw [← nI_0]
    refine ar_hp (h' := md_H (ru_A q (sh_F (rq_A q) 0))) (by rw [sh_0, ru_A0]) ?_
    refine lX7_remembers_11 _ _ q hK ?_ 300 0 (by omega)
    rw [← nI_0]
    refine ar_hp (h' := md_H (ru_A (ru_K (ru_A q (sh_F (rq_A q) 300)) (nI 5)) (cp_F (sh_F (rq_A q) 300) (rq_S q) 5 0))) (by rw [cp_0]; rfl) ?_
    exact lX7_remembers_51 _ (ru_K (ru_A q (sh_F (rq_A q) 300)) (nI 5)) 5 (by omega) rfl 60 0 (by omega)

theorem ring_a {nx m i : Nat} (hn : nx < 6) (hm : m < 6) (hi : i < m) : (nx1 nx + 12 - kp1 m + i) % 6 = (nx + 12 - m + i) % 6 ∧ (nx + 12 - m + i) % 6 ≠ nx := by
  rw [kp1, if_pos hm, nx1]
  by_cases c : nx < 5
  · rw [if_pos c]; omega
  · rw [if_neg c]; omega
theorem ring_b {nx m : Nat} (hn : nx < 6) (hm : m < 6) : (nx1 nx + 12 - kp1 m + m) % 6 = nx := by
  rw [kp1, if_pos hm, nx1]
  by_cases c : nx < 5
  · rw [if_pos c]; omega
  · rw [if_neg c]; omega
theorem ring_c {nx i : Nat} (hn : nx < 6) (hi : i < 5) : (nx1 nx + 12 - kp1 6 + i) % 6 = (nx + 12 - 6 + (i + 1)) % 6 ∧ (nx + 12 - 6 + (i + 1)) % 6 ≠ nx := by
  rw [kp1, if_neg (by omega), nx1]
  by_cases c : nx < 5
  · rw [if_pos c]; omega
  · rw [if_neg c]; omega
theorem ring_d {nx : Nat} (hn : nx < 6) : (nx1 nx + 12 - kp1 6 + 5) % 6 = nx := by
  rw [kp1, if_neg (by omega), nx1]
  by_cases c : nx < 5
  · rw [if_pos c]; omega
  · rw [if_neg c]; omega
theorem hi_rec {y : HYt} {pa s : Nat → Int32} {kn : Int32} {v : SV} (H : hi_R y pa kn) (hs : sl_R 0 v s) : hi_R (rcY y v) (re_A pa s y.2.2) (nI (kp1 y.2.2)) := by
  obtain ⟨o, nx, m⟩ := y
  obtain ⟨hn, hm, -, hh⟩ := H
  have hn : nx < 6 := hn
  have hm : m ≤ 6 := hm
  refine ⟨?_, ?_, rfl, fun i hi => ?_⟩
  · show nx1 nx < 6
    unfold nx1
    split <;> omega
  · show kp1 m ≤ 6
    unfold kp1
    split <;> omega
  show ∃ u, (if (nx1 nx + 12 - kp1 m + i) % 6 = nx then some v else o ((nx1 nx + 12 - kp1 m + i) % 6)) = some u ∧ sl_R (60 * i) u (re_A pa s m)
  have hi : i < kp1 m := hi
  by_cases c : m < 6
  · rw [re_A, if_pos c]
    by_cases e : i = m
    · subst e
      refine ⟨v, by rw [if_pos (ring_b hn c)], sl_move (fun j hj => ?_) hs⟩
      rw [cp_F, if_pos (by omega)]
      exact congrArg s (by omega)
    · have him : i < m := by rw [kp1, if_pos c] at hi; omega
      obtain ⟨u, hu, R⟩ := hh i him
      obtain ⟨r1, r2⟩ := ring_a hn c him
      refine ⟨u, by rw [r1, if_neg r2]; exact hu, sl_move (fun j hj => ?_) R⟩
      rw [cp_F, if_neg (by omega)]
  · have e6 : m = 6 := by omega
    subst e6
    rw [re_A, if_neg c]
    by_cases e : i = 5
    · subst e
      refine ⟨v, by rw [if_pos (ring_d hn)], sl_move (fun j hj => ?_) hs⟩
      rw [cp_F, if_pos (by omega)]
      exact congrArg s (by omega)
    · have him : i < 5 := by rw [kp1, if_neg c] at hi; omega
      obtain ⟨u, hu, R⟩ := hh (i + 1) (by show i + 1 < 6; omega)
      obtain ⟨r1, r2⟩ := ring_c hn him
      refine ⟨u, by rw [r1, if_neg r2]; exact hu, sl_move (fun j hj => ?_) R⟩
      rw [cp_F, if_neg (by omega), sh_F, if_pos (by omega)]
      exact congrArg pa (by omega)
/-- the reference when it has remembered -/
def rm_Q (q : RV) (m : Nat) : RV := ru_K (ru_A q (re_A (rq_A q) (rq_S q) m)) (nI (kp1 m))
theorem rm_S (q : RV) (m : Nat) : rq_S (rm_Q q m) = rq_S q := rfl
/-- a change: remembered, then the row is v' -/
theorem mr_chg {z : PV} {q : RV} (M : mr_R z q) {v : SV} {s : Nat → Int32} {x : VWt} {st : Nat → Int32} (hs : sl_R 0 v s) : mr_R (sN (sW (rcZ z) x) v) (ru_S (ru_T (rm_Q q (pY z).2.2) st) s) := by
  obtain ⟨m1, m2, m3, m4⟩ := M
  exact ⟨hs, hi_rec m2 m1, m3, m4⟩
set_option maxHeartbeats 4000000 in
set_option maxRecDepth 100000 in
theorem lX7_copies (h0 : am_H) (q : RV) : ∀ (d k : Nat), k + d = 60 → am_RW mX7_copies h0 (am_vp (md_H (ru_S q (cp_F (rq_S q) (rq_S q) 1 60)))) 0 0 2 [some (.ref 2), some (.int (nI k))] [] (md_H (ru_S q (cp_F (rq_S q) (rq_S q) 1 k))) := by
  intro d
  induction d with
  | zero =>
    intro k hk
    have e : k = 60 := by omega
    subst e
    refine ar_iload_n (i := 1) (pc := 2) dX7_copies_2 rfl rfl ?_
    refine ar_bipush (pc := 3) dX7_copies_3 q_bipush_60 ?_
    refine ar_icmp_ge (pc := 5) (tgt := 29) dX7_copies_5 (by decide) (fun c5 => ?_) (fun c5 => absurd (by decide +kernel) c5)
    exact ar_vret (pc := 29) dX7_copies_29 rfl rfl rfl ⟨rfl, rfl⟩
  | succ d ih =>
    intro k hk
    have e1 : cp_F (rq_S q) (rq_S q) 1 k k = rq_S q k := by rw [cp_F, if_neg (by omega)]
    refine ar_iload_n (i := 1) (pc := 2) dX7_copies_2 rfl rfl ?_
    refine ar_bipush (pc := 3) dX7_copies_3 q_bipush_60 ?_
    refine ar_icmp_ge (pc := 5) (tgt := 29) dX7_copies_5 (by decide) (fun c5 => absurd ((nI_leI (a := 60) (b := k) (by omega) (by omega)).mp c5) (by omega)) (fun c5 => ?_)
    refine ar_aload_n (i := 0) (pc := 8) dX7_copies_8 rfl rfl ?_
    refine ar_getf (pc := 9) dX7_copies_9 fX7_7 rfl rfl ?_
    refine ar_bipush (pc := 12) dX7_copies_12 q_bipush_60 ?_
    refine ar_iload_n (i := 1) (pc := 14) dX7_copies_14 rfl rfl ?_
    refine ar_iadd (pc := 15) dX7_copies_15 ?_
    refine ar_aload_n (i := 0) (pc := 16) dX7_copies_16 rfl rfl ?_
    refine ar_getf (pc := 17) dX7_copies_17 fX7_7 rfl rfl ?_
    refine ar_iload_n (i := 1) (pc := 20) dX7_copies_20 rfl rfl ?_
    refine ar_iald (pc := 21) dX7_copies_21 rfl (show k < 120 by omega) rfl ?_
    rw [rq_SS, e1]
    refine ar_iast (pc := 22) dX7_copies_22 rfl (show 60 * 1 + k < 120 by omega) (nI_add 60 k) ?_
    rw [md_S, ru_SS, rq_SS, cp_s]
    refine ar_iinc (pc := 23) dX7_copies_23 rfl (ni_inc _) (Nat.le_of_ble_eq_true rfl) rfl ?_
    refine ar_goto (tgt := 2) (pc := 26) dX7_copies_26 (by decide) ?_
    exact ih (k + 1) (by omega)
set_option maxHeartbeats 4000000 in
set_option maxRecDepth 100000 in
theorem sX7_copies (q : RV)  : am_Sp mX7_copies [.ref 2] (md_H q) (am_vp (md_H (ru_S q (cp_F (rq_S q) (rq_S q) 1 60)))) := by
  refine am_intro (by decide) (Nat.le_of_ble_eq_true rfl) ?_
  refine ar_iconst (pc := 0) dX7_copies_0 q_iconst_0 ?_
  refine ar_istore_n (i := 1) (pc := 1) dX7_copies_1 rfl (Nat.le_of_ble_eq_true rfl) rfl ?_
  rw [← nI_0]
  refine ar_hp (h' := md_H (ru_S q (cp_F (rq_S q) (rq_S q) 1 0))) (by rw [cp_0, ru_S0]) ?_
  exact lX7_copies _ q 60 0 (by omega)

set_option maxHeartbeats 4000000 in
set_option maxRecDepth 100000 in
theorem lX7_forgets (h0 : am_H) (q : RV) (n : Nat) (w : SV) : ∀ (d k : Nat) (s : Nat → Int32), k + d = 8 → ro_R 0 n (uL w (mixF (fun _ => -6) (vL w) k)) s → am_RW mX7_forgets h0 (fun r h1 => ∃ s, r = none ∧ h1 = md_H (ru_S q s) ∧ ro_R 0 n (uL w (fun _ => -6)) s) 0 0 2 [some (.ref 2), some (.int (nI k))] [] (md_H (ru_S q s)) := by
  intro d
  induction d with
  | zero =>
    intro k s hk R
    have e : k = 8 := by omega
    subst e
    have R2 : ro_R 0 n (uL w (fun _ => -6)) s := ro_L (fun k hk => mixF_all hk) R
    refine ar_iload_n (i := 1) (pc := 2) dX7_forgets_2 rfl rfl ?_
    refine ar_bipush (pc := 3) dX7_forgets_3 q_bipush_8 ?_
    refine ar_icmp_ge (pc := 5) (tgt := 24) dX7_forgets_5 (by decide) (fun c5 => ?_) (fun c5 => absurd (by decide +kernel) c5)
    exact ar_vret (pc := 24) dX7_forgets_24 rfl rfl rfl ⟨s, rfl, rfl, R2⟩
  | succ d ih =>
    intro k s hk R
    have R1 := ro_uL R (b := k) (by omega) (-6)
    rw [uu_L, vu_L, mixF_c, pm_6, Nat.zero_add] at R1
    refine ar_iload_n (i := 1) (pc := 2) dX7_forgets_2 rfl rfl ?_
    refine ar_bipush (pc := 3) dX7_forgets_3 q_bipush_8 ?_
    refine ar_icmp_ge (pc := 5) (tgt := 24) dX7_forgets_5 (by decide) (fun c5 => absurd ((nI_leI (a := 8) (b := k) (by omega) (by omega)).mp c5) (by omega)) (fun c5 => ?_)
    refine ar_aload_n (i := 0) (pc := 8) dX7_forgets_8 rfl rfl ?_
    refine ar_getf (pc := 9) dX7_forgets_9 fX7_7 rfl rfl ?_
    refine ar_bipush (pc := 12) dX7_forgets_12 q_bipush_12 ?_
    refine ar_iload_n (i := 1) (pc := 14) dX7_forgets_14 rfl rfl ?_
    refine ar_iadd (pc := 15) dX7_forgets_15 ?_
    refine ar_iconst (pc := 16) dX7_forgets_16 q_iconst_m1 ?_
    refine ar_iast (pc := 17) dX7_forgets_17 rfl (show 12 + k < 120 by omega) (nI_add 12 k) ?_
    rw [md_S, ru_SS, rq_SS]
    refine ar_iinc (pc := 18) dX7_forgets_18 rfl (ni_inc _) (Nat.le_of_ble_eq_true rfl) rfl ?_
    refine ar_goto (tgt := 2) (pc := 21) dX7_forgets_21 (by decide) ?_
    exact ih (k + 1) _ (by omega) R1
set_option maxHeartbeats 4000000 in
set_option maxRecDepth 100000 in
theorem sX7_forgets (q : RV) (n : Nat) (w : SV) (R : ro_R 0 n w (rq_S q)) : am_Sp mX7_forgets [.ref 2] (md_H q) (fun r h1 => ∃ s, r = none ∧ h1 = md_H (ru_S q s) ∧ ro_R 0 n (uL w (fun _ => -6)) s) := by
  refine am_intro (by decide) (Nat.le_of_ble_eq_true rfl) ?_
  refine ar_iconst (pc := 0) dX7_forgets_0 q_iconst_0 ?_
  refine ar_istore_n (i := 1) (pc := 1) dX7_forgets_1 rfl (Nat.le_of_ble_eq_true rfl) rfl ?_
  rw [← nI_0]
  refine ar_hp (h' := md_H (ru_S q (rq_S q))) (by rw [ru_S0]) ?_
  exact lX7_forgets _ q n w 8 0 _ (by omega) (by rw [mixF_0]; exact R)

theorem ro_add {n : Nat} {w : SV} {s : Nat → Int32} (R : ro_R 0 n w s) (h8 : n < 8) (a b : Int32) : ro_R 0 (n + 1) (adB w n a b) (upd (upd (upd (upd (upd (upd s (20 + 5 * n) a) (20 + 5 * n + 1) (pm_ b)) (20 + 5 * n + 2) 0) (20 + 5 * n + 3) 0) (20 + 5 * n + 4) 0) 7 (nI (n + 1))) := by
  obtain ⟨a1, a2, a3, a4, a5, a6, a7, a8, a9⟩ := R
  have un : ∀ j, j < 20 + 5 * n → j ≠ 7 → upd (upd (upd (upd (upd (upd s (20 + 5 * n) a) (20 + 5 * n + 1) (pm_ b)) (20 + 5 * n + 2) 0) (20 + 5 * n + 3) 0) (20 + 5 * n + 4) 0) 7 (nI (n + 1)) j = s j := fun j h1 h2 => by
    rw [pk_un h2, pk_un (by omega), pk_un (by omega), pk_un (by omega), pk_un (by omega), pk_un (by omega)]
  refine ⟨fun k hk => (un _ (by omega) (by omega)).trans (a1 k hk), (un _ (by omega) (by omega)).trans a2, pk_us, (un _ (by omega) (by omega)).trans a4, (un _ (by omega) (by omega)).trans a5, (un _ (by omega) (by omega)).trans a6, (un _ (by omega) (by omega)).trans a7, fun k hk => (un _ (by omega) (by omega)).trans (a8 k hk), fun k hk => ?_⟩
  by_cases e : k = n
  · subst e
    refine ⟨?_, ?_, ?_, ?_, ?_⟩
    · rw [pk_un (by omega), pk_un (by omega), pk_un (by omega), pk_un (by omega), pk_un (by omega), Nat.zero_add, pk_us]
      exact pk_us.symm
    · rw [pk_un (by omega), pk_un (by omega), pk_un (by omega), pk_un (by omega), Nat.zero_add, pk_us]
      exact (congrArg pm_ pk_us).symm
    · rw [pk_un (by omega), pk_un (by omega), pk_un (by omega), Nat.zero_add, pk_us]
      exact pk_us.symm
    · rw [pk_un (by omega), pk_un (by omega), Nat.zero_add, pk_us]
      exact pk_us.symm
    · rw [pk_un (by omega), Nat.zero_add, pk_us]
      exact pk_us.symm
  · obtain ⟨b1, b2, b3, b4, b5⟩ := a9 k (by omega)
    refine ⟨(un _ (by omega) (by omega)).trans (b1.trans (pk_un e).symm), (un _ (by omega) (by omega)).trans (b2.trans (congrArg pm_ (pk_un e).symm)), (un _ (by omega) (by omega)).trans (b3.trans (pk_un e).symm), (un _ (by omega) (by omega)).trans (b4.trans (pk_un e).symm), (un _ (by omega) (by omega)).trans (b5.trans (pk_un e).symm)⟩
set_option maxHeartbeats 4000000 in
set_option maxRecDepth 100000 in
theorem sX7_comes (q : RV) (n : Nat) (w : SV) (R : ro_R 0 n w (rq_S q)) (h8 : n < 8) (a b : Int32) : am_Sp mX7_comes [.ref 2, .int a, .int (pm_ b)] (md_H q) (fun r h1 => ∃ s, r = none ∧ h1 = md_H (ru_S q s) ∧ ro_R 0 (n + 1) (adB w n a b) s) := by
  refine am_intro (by decide) (Nat.le_of_ble_eq_true rfl) ?_
  have R2 := ro_add R h8 a b
  refine ar_iconst (pc := 0) dX7_comes_0 q_iconst_0 ?_
  refine ar_aload_n (i := 0) (pc := 1) dX7_comes_1 rfl rfl ?_
  refine ar_getf (pc := 2) dX7_comes_2 fX7_7 rfl rfl ?_
  refine ar_bipush (pc := 5) dX7_comes_5 q_bipush_7 ?_
  refine ar_iald (pc := 7) dX7_comes_7 rfl (show 7 < 120 by decide) rfl ?_
  refine ar_idS (pc := 8) dX7_comes_8 cal_X7_at kX7_36 rfl ((by have h := sX7_at0 (md_H q) n; rw [← (show rq_S q 7 = nI n from roN R)] at h; exact h)) rfl rfl rfl rfl rfl (fun r h1 hp => ?_)
  obtain ⟨rfl, rfl⟩ := hp
  refine ⟨rfl, ?_⟩
  refine ar_istore_n (i := 3) (pc := 11) dX7_comes_11 rfl (Nat.le_of_ble_eq_true rfl) rfl ?_
  refine ar_aload_n (i := 0) (pc := 12) dX7_comes_12 rfl rfl ?_
  refine ar_getf (pc := 13) dX7_comes_13 fX7_7 rfl rfl ?_
  refine ar_iload_n (i := 3) (pc := 16) dX7_comes_16 rfl rfl ?_
  refine ar_iconst (pc := 17) dX7_comes_17 q_iconst_0 ?_
  refine ar_iadd (pc := 18) dX7_comes_18 ?_
  refine ar_iload_n (i := 1) (pc := 19) dX7_comes_19 rfl rfl ?_
  refine ar_iast (pc := 20) dX7_comes_20 rfl (show 20 + 5 * n < 120 by omega) (nI_add _ 0) ?_
  rw [md_S]
  refine ar_aload_n (i := 0) (pc := 21) dX7_comes_21 rfl rfl ?_
  refine ar_getf (pc := 22) dX7_comes_22 fX7_7 rfl rfl ?_
  refine ar_iload_n (i := 3) (pc := 25) dX7_comes_25 rfl rfl ?_
  refine ar_iconst (pc := 26) dX7_comes_26 q_iconst_1 ?_
  refine ar_iadd (pc := 27) dX7_comes_27 ?_
  refine ar_iload_n (i := 2) (pc := 28) dX7_comes_28 rfl rfl ?_
  refine ar_iast (pc := 29) dX7_comes_29 rfl (show 20 + 5 * n + 1 < 120 by omega) (nI_add _ 1) ?_
  rw [md_S, rq_SS, ru_SS]
  refine ar_aload_n (i := 0) (pc := 30) dX7_comes_30 rfl rfl ?_
  refine ar_getf (pc := 31) dX7_comes_31 fX7_7 rfl rfl ?_
  refine ar_iload_n (i := 3) (pc := 34) dX7_comes_34 rfl rfl ?_
  refine ar_iconst (pc := 35) dX7_comes_35 q_iconst_2 ?_
  refine ar_iadd (pc := 36) dX7_comes_36 ?_
  refine ar_iconst (pc := 37) dX7_comes_37 q_iconst_0 ?_
  refine ar_iast (pc := 38) dX7_comes_38 rfl (show 20 + 5 * n + 2 < 120 by omega) (nI_add _ 2) ?_
  rw [md_S, rq_SS, ru_SS]
  refine ar_aload_n (i := 0) (pc := 39) dX7_comes_39 rfl rfl ?_
  refine ar_getf (pc := 40) dX7_comes_40 fX7_7 rfl rfl ?_
  refine ar_iload_n (i := 3) (pc := 43) dX7_comes_43 rfl rfl ?_
  refine ar_iconst (pc := 44) dX7_comes_44 q_iconst_3 ?_
  refine ar_iadd (pc := 45) dX7_comes_45 ?_
  refine ar_iconst (pc := 46) dX7_comes_46 q_iconst_0 ?_
  refine ar_iast (pc := 47) dX7_comes_47 rfl (show 20 + 5 * n + 3 < 120 by omega) (nI_add _ 3) ?_
  rw [md_S, rq_SS, ru_SS]
  refine ar_aload_n (i := 0) (pc := 48) dX7_comes_48 rfl rfl ?_
  refine ar_getf (pc := 49) dX7_comes_49 fX7_7 rfl rfl ?_
  refine ar_iload_n (i := 3) (pc := 52) dX7_comes_52 rfl rfl ?_
  refine ar_iconst (pc := 53) dX7_comes_53 q_iconst_4 ?_
  refine ar_iadd (pc := 54) dX7_comes_54 ?_
  refine ar_iconst (pc := 55) dX7_comes_55 q_iconst_0 ?_
  refine ar_iast (pc := 56) dX7_comes_56 rfl (show 20 + 5 * n + 4 < 120 by omega) (nI_add _ 4) ?_
  rw [md_S, rq_SS, ru_SS]
  refine ar_aload_n (i := 0) (pc := 57) dX7_comes_57 rfl rfl ?_
  refine ar_getf (pc := 58) dX7_comes_58 fX7_7 rfl rfl ?_
  refine ar_bipush (pc := 61) dX7_comes_61 q_bipush_7 ?_
  refine ar_dup2 (pc := 63) dX7_comes_63 rfl rfl ?_
  refine ar_iald (pc := 64) dX7_comes_64 rfl (show 7 < 120 by decide) rfl ?_
  rw [rq_SS, pk_un (show 7 ≠ 20 + 5 * n + 4 by omega), pk_un (show 7 ≠ 20 + 5 * n + 3 by omega), pk_un (show 7 ≠ 20 + 5 * n + 2 by omega), pk_un (show 7 ≠ 20 + 5 * n + 1 by omega), pk_un (show 7 ≠ 20 + 5 * n by omega), show rq_S q 7 = nI n from roN R]
  refine ar_iconst (pc := 65) dX7_comes_65 q_iconst_1 ?_
  refine ar_iadd (pc := 66) dX7_comes_66 ?_
  rw [nI_1]
  refine ar_iast (pc := 67) dX7_comes_67 rfl (show 7 < 120 by decide) rfl ?_
  rw [md_S, rq_SS, ru_SS]
  exact ar_vret (pc := 68) dX7_comes_68 rfl rfl rfl ⟨_, rfl, rfl, R2⟩

