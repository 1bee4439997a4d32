/-! the reference: lots, chooses -/
/-- nothing outside the row at p changed -/
def fr_M (p : Nat) (s t : Nat → Int32) : Prop := ∀ j, ¬ (p ≤ j ∧ j < p + 60) → t j = s j
theorem fr_M0 (p : Nat) (s : Nat → Int32) : fr_M p s s := fun _ _ => rfl
theorem fr_Mu {p i : Nat} {s t : Nat → Int32} {x : Int32} (h : fr_M p s t) (h1 : p ≤ i) (h2 : i < p + 60) : fr_M p s (upd t i x) := fun j hj => by
  rw [pk_un (fun e => hj (by omega))]
  exact h j hj
theorem fr_Mt {p : Nat} {s t u : Nat → Int32} (h : fr_M p s t) (h2 : fr_M p t u) : fr_M p s u := fun j hj => (h2 j hj).trans (h j hj)
/-- the first n places hold each number below n once, the others none -/
def pe_D (n : Nat) (f : Nat → Int32) : Prop := (∀ k, k < n → ∃ b, b < n ∧ f k = nI b) ∧ (∀ j k, j < n → k < n → f j = f k → j = k) ∧ (∀ k, n ≤ k → k < 8 → f k = -6) ∧ ∀ b, b < n → ∃ k, k < n ∧ f k = nI b
theorem pe_fil {n : Nat} (h8 : n ≤ 8) : pe_D n (filI n) := by
  refine ⟨fun k hk => ⟨k, hk, by rw [filI, if_pos hk]⟩, fun j k hj hk e => ?_, fun k hk _ => by rw [filI, if_neg (by omega)], fun b hb => ⟨b, hb, by rw [filI, if_pos hb]⟩⟩
  rw [filI, filI, if_pos hj, if_pos hk] at e
  exact (nI_eq (by omega) (by omega)).mp e
def tr_N (i j k : Nat) : Nat := if k = j then i else if k = i then j else k
theorem swp_tr (f : Nat → Int32) (i j k : Nat) : swp f i j k = f (tr_N i j k) := by
  unfold swp tr_N
  by_cases e : k = j
  · subst e; rw [pk_us, if_pos rfl]
  · rw [pk_un e, if_neg e]
    by_cases e2 : k = i
    · subst e2; rw [pk_us, if_pos rfl]
    · rw [pk_un e2, if_neg e2]
theorem tr_tr (i j k : Nat) : tr_N i j (tr_N i j k) = k := by
  unfold tr_N
  by_cases e : k = j
  · rw [if_pos e]
    by_cases e2 : i = j
    · rw [if_pos e2]; omega
    · rw [if_neg e2, if_pos rfl]; omega
  · rw [if_neg e]
    by_cases e2 : k = i
    · rw [if_pos e2, if_pos rfl]; omega
    · rw [if_neg e2, if_neg e, if_neg e2]
theorem tr_lt {i j k n : Nat} (hi : i < n) (hj : j < n) (hk : k < n) : tr_N i j k < n := by
  unfold tr_N
  split
  · exact hi
  · split
    · exact hj
    · exact hk
theorem pe_swp {n i j : Nat} {f : Nat → Int32} (hi : i < n) (hj : j < n) (h : pe_D n f) : pe_D n (swp f i j) := by
  obtain ⟨h1, h2, h3, h4⟩ := h
  refine ⟨fun k hk => by rw [swp_tr]; exact h1 _ (tr_lt hi hj hk), fun a b ha hb e => ?_, fun k hk hk8 => ?_, fun b hb => ?_⟩
  · rw [swp_tr, swp_tr] at e
    have := congrArg (tr_N i j) (h2 _ _ (tr_lt hi hj ha) (tr_lt hi hj hb) e)
    rw [tr_tr, tr_tr] at this
    exact this
  · rw [swp_tr, show tr_N i j k = k by unfold tr_N; rw [if_neg (by omega), if_neg (by omega)]]
    exact h3 k hk hk8
  · obtain ⟨k, hk, e⟩ := h4 b hb
    exact ⟨tr_N i j k, tr_lt hi hj hk, by rw [swp_tr, tr_tr]; exact e⟩
theorem dl_e {p : Nat} {x : Int64} {f : Nat → Int32} {o : Nat} (ho : o < 8) (e : drw x (p + 1 + 1) = nI o) : dlots (p + 1) x f = dlots p (lcg x) (swp f (p + 1) o) := by
  rw [dlots_s, e, dsw, if_pos, ix_nI (by omega)]
  have := nI_toInt (n := o) (by omega)
  constructor <;> omega
theorem pe_dl {n : Nat} (h8 : n ≤ 8) : ∀ (p : Nat) (x : Int64) (f : Nat → Int32), p < n → xr_D x → pe_D n f → pe_D n (dlots p x f).2 ∧ xr_D (dlots p x f).1
  | 0, x, f, _, hx, hf => ⟨hf, hx⟩
  | p + 1, x, f, hp, hx, hf => by
    obtain ⟨o, ho, e⟩ := dr_lt hx (m := p + 1 + 1) (by omega) (by omega)
    rw [dl_e (by omega) e]
    exact pe_dl h8 p (lcg x) _ (by omega) (xr_l hx) (pe_swp (by omega) (by omega) hf)
theorem pe_dl0 {n : Nat} (h8 : n ≤ 8) {x : Int64} (hx : xr_D x) : pe_D n (dlots (n - 1) x (filI n)).2 ∧ xr_D (dlots (n - 1) x (filI n)).1 := by
  cases n with
  | zero => exact ⟨pe_fil h8, hx⟩
  | succ m => exact pe_dl h8 m x _ (by omega) hx (pe_fil h8)
theorem uLXL (w : SV) (x y : Int64) (f g : Nat → Int32) : uL (uX (uL (uX w x) f) y) g = uL (uX w y) g := rfl
theorem vX_LX (w : SV) (x : Int64) (f : Nat → Int32) : vX (uL (uX w x) f) = x := rfl
theorem vL_XL (w : SV) (x : Int64) (f : Nat → Int32) : vL (uX (uL w f) x) = f := rfl
theorem ro_L {p n : Nat} {w : SV} {f f' s : Nat → Int32} (h : ∀ k, k < 8 → f k = f' k) (R : ro_R p n (uL w f) s) : ro_R p n (uL w f') s := by
  obtain ⟨a1, a2, a3, a4, a5, a6, a7, a8, a9⟩ := R
  exact ⟨a1, a2, a3, a4, a5, a6, a7, fun k hk => (a8 k hk).trans (congrArg pm_ (h k hk)), a9⟩
theorem lo_R {p n : Nat} {w : SV} {x : Int64} {f s : Nat → Int32} (R : ro_R p n (uL (uX w x) f) s) (y : Int64) {i o : Nat} (hi : i < 8) (ho : o < 8) : ro_R p n (uL (uX w y) (swp f i o)) (upd (upd (upd s (p + 6) y.toInt32) (p + 12 + i) (pm_ (f o))) (p + 12 + o) (pm_ (f i))) :=
  ro_uL (ro_uL (ro_uX R y) hi (f o)) ho (f i)
def lo_P (q : RV) (p n : Nat) (w : SV) (m : Nat) (x : Int64) (f : Nat → Int32) : Option Value → am_H → Prop := fun r h1 => ∃ s, r = none ∧ h1 = md_H (ru_S q s) ∧ ro_R p n (uL (uX w (dlots m x f).1) (dlots m x f).2) s ∧ fr_M p (rq_S q) s
theorem lo_Pe {q : RV} {p n : Nat} {w : SV} {m m' : Nat} {x y z : Int64} {f g : Nat → Int32} (e : dlots m' x f = dlots m z g) (ey : y = z) : lo_P q p n w m' x f = lo_P q p n w m y g := by
  subst ey
  unfold lo_P
  rw [e]
set_option maxHeartbeats 4000000 in
set_option maxRecDepth 100000 in
theorem lX7_lots_49 (h0 : am_H) (q : RV) (p n : Nat) (hp : p ≤ 60) (w : SV) (h8 : n ≤ 8) : ∀ (m : Nat) (x : Int64) (f s : Nat → Int32) (o4 o5 : Option Value), m < n → xr_D x → ro_R p n (uL (uX w x) f) s → fr_M p (rq_S q) s → am_RW mX7_lots h0 (lo_P q p n w m x f) 0 0 49 [some (.ref 2), some (.int (nI p)), some (.int (nI n)), some (.int (nI m)), o4, o5] [] (md_H (ru_S q s)) := by
  intro m
  induction m with
  | zero =>
    intro x f s o4 o5 hm hx R M
    refine ar_iload_n (i := 3) (pc := 49) dX7_lots_49 rfl rfl ?_
    refine ar_if_le (pc := 50) (tgt := 119) dX7_lots_50 (by decide) (fun c50 => ?_) (fun c50 => absurd (by decide +kernel) c50)
    exact ar_vret (pc := 119) dX7_lots_119 rfl rfl rfl ⟨s, rfl, rfl, R, M⟩
  | succ m ih =>
    intro x f s o4 o5 hm hx R M
    obtain ⟨o, ho, eo⟩ := dr_lt hx (m := m + 1 + 1) (by omega) (by omega)
    obtain ⟨y, ey⟩ : ∃ y, y = lcg x := ⟨_, rfl⟩
    have hy : xr_D y := by rw [ey]; exact xr_l hx
    have R3 : ro_R p n (uL (uX w y) (swp f (m + 1) o)) (upd (upd (upd s (p + 6) y.toInt32) (p + 12 + (m + 1)) (pm_ (f o))) (p + 12 + o) (pm_ (f (m + 1)))) := lo_R R y (by omega) (by omega)
    have e1 : upd s (p + 6) y.toInt32 (p + 12 + (m + 1)) = pm_ (f (m + 1)) := roL (ro_uX R y) (m + 1) (by omega)
    have e2 : upd s (p + 6) y.toInt32 (p + 12 + o) = pm_ (f o) := roL (ro_uX R y) o (by omega)
    rw [show lo_P q p n w (m + 1) x f = lo_P q p n w m y (swp f (m + 1) o) from lo_Pe (dl_e (by omega) eo) ey]
    refine ar_iload_n (i := 3) (pc := 49) dX7_lots_49 rfl rfl ?_
    refine ar_if_le (pc := 50) (tgt := 119) dX7_lots_50 (by decide) (fun c50 => absurd c50 (nI_nle (by omega) (by omega))) (fun c50 => ?_)
    refine ar_aload_n (i := 0) (pc := 53) dX7_lots_53 rfl rfl ?_
    refine ar_iload_n (i := 1) (pc := 54) dX7_lots_54 rfl rfl ?_
    refine ar_iload_n (i := 3) (pc := 55) dX7_lots_55 rfl rfl ?_
    refine ar_iconst (pc := 56) dX7_lots_56 q_iconst_1 ?_
    refine ar_iadd (pc := 57) dX7_lots_57 ?_
    rw [nI_1]
    refine ar_idV (pc := 58) dX7_lots_58 cal_X7_draws kX7_64 rfl (sX7_draws (ru_S q s) p n hp (uL (uX w x) f) R h8 hx (m := m + 1 + 1) (by omega) (by omega)) rfl rfl rfl rfl rfl rfl rfl (fun r h1 hp => ?_)
    obtain ⟨rfl, rfl⟩ := hp
    refine ⟨pat_md _ _, ?_⟩
    rw [vX_LX, eo, rq_SS, ru_SS, ← ey]
    refine ar_istore (pc := 61) dX7_lots_61 (Nat.le_of_ble_eq_true rfl) rfl ?_
    refine ar_aload_n (i := 0) (pc := 63) dX7_lots_63 rfl rfl ?_
    refine ar_getf (pc := 64) dX7_lots_64 fX7_7 rfl rfl ?_
    refine ar_iload_n (i := 1) (pc := 67) dX7_lots_67 rfl rfl ?_
    refine ar_bipush (pc := 68) dX7_lots_68 q_bipush_12 ?_
    refine ar_iadd (pc := 70) dX7_lots_70 ?_
    refine ar_iload_n (i := 3) (pc := 71) dX7_lots_71 rfl rfl ?_
    refine ar_iadd (pc := 72) dX7_lots_72 ?_
    refine ar_iald (pc := 73) dX7_lots_73 rfl (show p + 12 + (m + 1) < 120 by omega) (by rw [show (12 : Int32) = nI 12 from rfl, nI_add, nI_add]) ?_
    rw [rq_SS, e1]
    refine ar_istore (pc := 74) dX7_lots_74 (Nat.le_of_ble_eq_true rfl) rfl ?_
    refine ar_aload_n (i := 0) (pc := 76) dX7_lots_76 rfl rfl ?_
    refine ar_getf (pc := 77) dX7_lots_77 fX7_7 rfl rfl ?_
    refine ar_iload_n (i := 1) (pc := 80) dX7_lots_80 rfl rfl ?_
    refine ar_bipush (pc := 81) dX7_lots_81 q_bipush_12 ?_
    refine ar_iadd (pc := 83) dX7_lots_83 ?_
    refine ar_iload_n (i := 3) (pc := 84) dX7_lots_84 rfl rfl ?_
    refine ar_iadd (pc := 85) dX7_lots_85 ?_
    refine ar_aload_n (i := 0) (pc := 86) dX7_lots_86 rfl rfl ?_
    refine ar_getf (pc := 87) dX7_lots_87 fX7_7 rfl rfl ?_
    refine ar_iload_n (i := 1) (pc := 90) dX7_lots_90 rfl rfl ?_
    refine ar_bipush (pc := 91) dX7_lots_91 q_bipush_12 ?_
    refine ar_iadd (pc := 93) dX7_lots_93 ?_
    refine ar_iload (pc := 94) dX7_lots_94 rfl ?_
    refine ar_iadd (pc := 96) dX7_lots_96 ?_
    refine ar_iald (pc := 97) dX7_lots_97 rfl (show p + 12 + o < 120 by omega) (by rw [show (12 : Int32) = nI 12 from rfl, nI_add, nI_add]) ?_
    rw [rq_SS, e2]
    refine ar_iast (pc := 98) dX7_lots_98 rfl (show p + 12 + (m + 1) < 120 by omega) (by rw [show (12 : Int32) = nI 12 from rfl, nI_add, nI_add]) ?_
    rw [md_S, rq_SS, ru_SS]
    refine ar_aload_n (i := 0) (pc := 99) dX7_lots_99 rfl rfl ?_
    refine ar_getf (pc := 100) dX7_lots_100 fX7_7 rfl rfl ?_
    refine ar_iload_n (i := 1) (pc := 103) dX7_lots_103 rfl rfl ?_
    refine ar_bipush (pc := 104) dX7_lots_104 q_bipush_12 ?_
    refine ar_iadd (pc := 106) dX7_lots_106 ?_
    refine ar_iload (pc := 107) dX7_lots_107 rfl ?_
    refine ar_iadd (pc := 109) dX7_lots_109 ?_
    refine ar_iload (pc := 110) dX7_lots_110 rfl ?_
    refine ar_iast (pc := 112) dX7_lots_112 rfl (show p + 12 + o < 120 by omega) (by rw [show (12 : Int32) = nI 12 from rfl, nI_add, nI_add]) ?_
    rw [md_S, rq_SS, ru_SS]
    refine ar_iinc (pc := 113) dX7_lots_113 rfl (ni_dec _) (Nat.le_of_ble_eq_true rfl) rfl ?_
    refine ar_goto (tgt := 49) (pc := 116) dX7_lots_116 (by decide) ?_
    exact ih y (swp f (m + 1) o) _ _ _ (by omega) hy R3 (fr_Mu (fr_Mu (fr_Mu M (by omega) (by omega)) (by omega) (by omega)) (by omega) (by omega))
set_option maxHeartbeats 4000000 in
set_option maxRecDepth 100000 in
theorem lX7_lots_12 (h0 : am_H) (q : RV) (p n : Nat) (hp : p ≤ 60) (w : SV) (h8 : n ≤ 8) (hx : xr_D (vX w)) : ∀ (d k : Nat) (s : Nat → Int32) (o4 o5 : Option Value), k + d = 8 → ro_R p n (uL w (mixF (filI n) (vL w) k)) s → fr_M p (rq_S q) s → am_RW mX7_lots h0 (lo_P q p n w (n - 1) (vX w) (filI n)) 0 0 12 [some (.ref 2), some (.int (nI p)), some (.int (nI n)), some (.int (nI k)), o4, o5] [] (md_H (ru_S q s)) := by
  intro d
  induction d with
  | zero =>
    intro k s o4 o5 hk R M
    have e : k = 8 := by omega
    subst e
    have R2 : ro_R p n (uL (uX w (vX w)) (filI n)) s := ro_L (fun k hk => mixF_all hk) R
    cases n with
    | zero =>
      refine ar_iload_n (i := 3) (pc := 12) dX7_lots_12 rfl rfl ?_
      refine ar_bipush (pc := 13) dX7_lots_13 q_bipush_8 ?_
      refine ar_icmp_ge (pc := 15) (tgt := 45) dX7_lots_15 (by decide) (fun c15 => ?_) (fun c15 => absurd (by decide +kernel) c15)
      refine ar_iload_n (i := 2) (pc := 45) dX7_lots_45 rfl rfl ?_
      refine ar_iconst (pc := 46) dX7_lots_46 q_iconst_1 ?_
      refine ar_isub (pc := 47) dX7_lots_47 ?_
      refine ar_istore_n (i := 3) (pc := 48) dX7_lots_48 rfl (Nat.le_of_ble_eq_true rfl) rfl ?_
      refine ar_iload_n (i := 3) (pc := 49) dX7_lots_49 rfl rfl ?_
      refine ar_if_le (pc := 50) (tgt := 119) dX7_lots_50 (by decide) (fun c50 => ?_) (fun c50 => absurd (by decide +kernel) c50)
      exact ar_vret (pc := 119) dX7_lots_119 rfl rfl rfl ⟨s, rfl, rfl, R2, M⟩
    | succ m =>
      refine ar_iload_n (i := 3) (pc := 12) dX7_lots_12 rfl rfl ?_
      refine ar_bipush (pc := 13) dX7_lots_13 q_bipush_8 ?_
      refine ar_icmp_ge (pc := 15) (tgt := 45) dX7_lots_15 (by decide) (fun c15 => ?_) (fun c15 => absurd (by decide +kernel) c15)
      refine ar_iload_n (i := 2) (pc := 45) dX7_lots_45 rfl rfl ?_
      refine ar_iconst (pc := 46) dX7_lots_46 q_iconst_1 ?_
      refine ar_isub (pc := 47) dX7_lots_47 ?_
      rw [nI_pred]
      refine ar_istore_n (i := 3) (pc := 48) dX7_lots_48 rfl (Nat.le_of_ble_eq_true rfl) rfl ?_
      exact lX7_lots_49 h0 q p (m + 1) hp w h8 m (vX w) (filI (m + 1)) s o4 o5 (by omega) hx R2 M
  | succ d ih =>
    intro k s o4 o5 hk R M
    have R1 := ro_uL R (b := k) (by omega) (filI n k)
    rw [uu_L, vu_L, mixF_s] at R1
    refine ar_iload_n (i := 3) (pc := 12) dX7_lots_12 rfl rfl ?_
    refine ar_bipush (pc := 13) dX7_lots_13 q_bipush_8 ?_
    refine ar_icmp_ge (pc := 15) (tgt := 45) dX7_lots_15 (by decide) (fun c15 => absurd ((nI_leI (a := 8) (b := k) (by omega) (by omega)).mp c15) (by omega)) (fun c15 => ?_)
    refine ar_aload_n (i := 0) (pc := 18) dX7_lots_18 rfl rfl ?_
    refine ar_getf (pc := 19) dX7_lots_19 fX7_7 rfl rfl ?_
    refine ar_iload_n (i := 1) (pc := 22) dX7_lots_22 rfl rfl ?_
    refine ar_bipush (pc := 23) dX7_lots_23 q_bipush_12 ?_
    refine ar_iadd (pc := 25) dX7_lots_25 ?_
    refine ar_iload_n (i := 3) (pc := 26) dX7_lots_26 rfl rfl ?_
    refine ar_iadd (pc := 27) dX7_lots_27 ?_
    refine ar_iload_n (i := 3) (pc := 28) dX7_lots_28 rfl rfl ?_
    refine ar_iload_n (i := 2) (pc := 29) dX7_lots_29 rfl rfl ?_
    refine ar_icmp_ge (pc := 30) (tgt := 37) dX7_lots_30 (by decide) (fun c30 => ?_) (fun c30 => ?_)
    · refine ar_iconst (pc := 37) dX7_lots_37 q_iconst_m1 ?_
      refine ar_iast (pc := 38) dX7_lots_38 rfl (show p + 12 + k < 120 by omega) (by rw [show (12 : Int32) = nI 12 from rfl, nI_add, nI_add]) ?_
      rw [md_S, ru_SS, rq_SS]
      refine ar_iinc (pc := 39) dX7_lots_39 rfl (ni_inc _) (Nat.le_of_ble_eq_true rfl) rfl ?_
      refine ar_goto (tgt := 12) (pc := 42) dX7_lots_42 (by decide) ?_
      exact ih (k + 1) _ _ _ (by omega) (by rw [filI, if_neg (fun z => absurd ((nI_leI (by omega) (by omega)).mp c30) (by omega)), show pm_ (-6) = -1 by decide +kernel] at R1; exact R1) (fr_Mu M (by omega) (by omega))
    · refine ar_iload_n (i := 3) (pc := 33) dX7_lots_33 rfl rfl ?_
      refine ar_goto (tgt := 38) (pc := 34) dX7_lots_34 (by decide) ?_
      refine ar_iast (pc := 38) dX7_lots_38 rfl (show p + 12 + k < 120 by omega) (by rw [show (12 : Int32) = nI 12 from rfl, nI_add, nI_add]) ?_
      rw [md_S, ru_SS, rq_SS]
      refine ar_iinc (pc := 39) dX7_lots_39 rfl (ni_inc _) (Nat.le_of_ble_eq_true rfl) rfl ?_
      refine ar_goto (tgt := 12) (pc := 42) dX7_lots_42 (by decide) ?_
      exact ih (k + 1) _ _ _ (by omega) (by rw [filI, if_pos (Nat.lt_of_not_le fun z => c30 ((nI_leI (by omega) (by omega)).mpr z)), pm_nI (by omega)] at R1; exact R1) (fr_Mu M (by omega) (by omega))
set_option maxHeartbeats 4000000 in
set_option maxRecDepth 100000 in
theorem sX7_lots (q : RV) (p n : Nat) (hp : p ≤ 60) (w : SV) (R : ro_R p n w (rq_S q)) (h8 : n ≤ 8) (hx : xr_D (vX w)) : am_Sp mX7_lots [.ref 2, .int (nI p)] (md_H q) (lo_P q p n w (n - 1) (vX w) (filI n)) := by
  refine am_intro (by decide) (Nat.le_of_ble_eq_true rfl) ?_
  refine ar_aload_n (i := 0) (pc := 0) dX7_lots_0 rfl rfl ?_
  refine ar_getf (pc := 1) dX7_lots_1 fX7_7 rfl rfl ?_
  refine ar_iload_n (i := 1) (pc := 4) dX7_lots_4 rfl rfl ?_
  refine ar_bipush (pc := 5) dX7_lots_5 q_bipush_7 ?_
  refine ar_iadd (pc := 7) dX7_lots_7 ?_
  refine ar_iald (pc := 8) dX7_lots_8 rfl (show p + 7 < 120 by omega) (nI_add p 7) ?_
  rw [roN R]
  refine ar_istore_n (i := 2) (pc := 9) dX7_lots_9 rfl (Nat.le_of_ble_eq_true rfl) rfl ?_
  refine ar_iconst (pc := 10) dX7_lots_10 q_iconst_0 ?_
  refine ar_istore_n (i := 3) (pc := 11) dX7_lots_11 rfl (Nat.le_of_ble_eq_true rfl) rfl ?_
  rw [← nI_0]
  exact lX7_lots_12 _ q p n hp w h8 hx 8 0 (rq_S q) _ _ (by omega) (by rw [mixF_0]; exact R) (fr_M0 _ _)

def he_D (w : SV) (n : Nat) : Prop := ∀ k, k < n → 1 ≤ (vH w k).toInt ∧ (vH w k).toInt ≤ 9
theorem dst_0 (j : Nat) : dst j j = 0 := by unfold dst; rw [if_neg (by omega)]; omega
theorem di_put {w : SV} {n b j : Nat} (D : di_D w n) (hj : j < 12) (F : fr_K w j n) : di_D (uP w (upd (vP w) b (nI j))) n := by
  have no : ∀ i, i < n → vP w i = nI j → False := fun i hi e => by
    have h := (F i hi (by rw [e]; exact nI_m6 (by omega))).2
    rw [e, ix_nI (by omega), dst_0, nI_0] at h
    exact absurd h (by decide +kernel)
  intro i k hi hk
  show upd (vP w) b (nI j) i ≠ -6 → upd (vP w) b (nI j) i = upd (vP w) b (nI j) k → i = k
  by_cases e1 : i = b
  · by_cases e2 : k = b
    · intro _ _; rw [e1, e2]
    · subst e1
      rw [pk_us, pk_un e2]
      exact fun _ z => (no k hk z.symm).elim
  · by_cases e2 : k = b
    · subst e2
      rw [pk_us, pk_un e1]
      exact fun _ z => (no i hi z).elim
    · rw [pk_un e1, pk_un e2]
      exact D i k hi hk
theorem fr_op {w : SV} {n j : Nat} {tp : Nat → Int32} (h8 : n ≤ 8) (hj : j < 12) (T : to_T w n 8 tp) (pl : pl_D w n) (he : he_D w n) (hg : 0 ≤ vS w 4) : fr_K w j n ↔ opP tp j (vS w 4) := by
  constructor
  · intro F o ho z
    by_cases c : ∃ k, k < n ∧ vP w k = nI o
    · obtain ⟨k, c1, c2⟩ := c
      have h := (F k c1 (by rw [c2]; exact nI_m6 (by omega))).1
      rw [c2, ix_nI (by omega)] at h
      exact absurd z.2 (Int32.not_le.mpr h)
    · rw [(T o ho).2 fun k _ c1 _ c2 => c ⟨k, c1, c2⟩] at z
      exact absurd z.1 (by decide)
  · intro O i hi hn
    have ip : inP (vP w i) := (pl i hi).resolve_left hn
    have e := ix_eq ip.1
    have lo : ix (vP w i) < 12 := by have := ip; unfold ix; omega
    have h := O (ix (vP w i)) lo
    rw [(T _ lo).1 i (by omega) hi (by omega) e] at h
    have h2 : vS w 4 < nI (dst (ix (vP w i)) j) := by
      refine Int32.not_le.mp fun z => h ⟨?_, z⟩
      rw [Int32.lt_iff_toInt_lt, ti_0]
      have := he i hi
      omega
    exact ⟨h2, Int32.lt_of_le_of_lt hg h2⟩
theorem to_out {w : SV} {n b : Nat} {tp : Nat → Int32} (hb : vP w b = -6) (T : to_T w n 8 tp) : to_T w n b tp := by
  intro q hq
  obtain ⟨h1, h2⟩ := T q hq
  refine ⟨fun k k8 kn _ e => h1 k k8 kn (by omega) e, fun h => h2 fun k k8 kn _ e => ?_⟩
  by_cases ek : k = b
  · subst ek
    exact nI_m6 (q := q) (by omega) (e.symm.trans hb)
  · exact h k k8 kn ek e
theorem di_P {w : SV} {n b j : Nat} : vS (uP w (upd (vP w) b (nI j))) = vS w := rfl
theorem ca_cr {w : SV} {n b j : Nat} {tp : Nat → Int32} (h8 : n ≤ 8) (hb : b < n) (hj : j < 12) (T : to_T w n b tp) (D : di_D (uP w (upd (vP w) b (nI j))) n) : ca_V w n b j = crA w tp (nI j) (vH w b) := by
  unfold ca_V
  refine crA_cong fun q hq hne => ?_
  exact (to_move h8 hb T (to_tpV D h8) hj hq (fun z => hne (by rw [z]))).symm
theorem bop_ge (cr : Nat → Int32) (op : Nat → Prop) : ∀ k, -1 ≤ (bopC cr op k).2
  | 0 => Int32.le_refl _
  | k + 1 => by
    by_cases c : (bopC cr op k).2 < cr k ∧ op k
    · rw [bopC_s cr op k c]
      exact Int32.le_of_lt (Int32.lt_of_le_of_lt (bop_ge cr op k) c.1)
    · rw [bopC_n cr op k c]
      exact bop_ge cr op k
def ch_W (w : SV) (b : Nat) (B : Int32) : SV := uI (uP w (upd (vP w) b B)) (upd (vI w) b (vI w b + (if B = -6 then 1 else 0)))
def ch_P (q : RV) (p n : Nat) (w : SV) (b : Nat) (B : Int32) : Option Value → am_H → Prop := fun r h1 => ∃ st s, r = none ∧ h1 = md_H (ru_S (ru_T q st) s) ∧ ro_R p n (ch_W w b B) s ∧ fr_M p (rq_S q) s
abbrev cr_F (w : SV) (tp : Nat → Int32) (b : Nat) : Nat → Int32 := crV (arF 1 tp (vS w 0) (vS w 2)) (taF 1 tp (vS w 0) (vS w 2)) (vS w 2) (arF 0 tp (vS w 1) (vS w 2)) (taF 0 tp (vS w 1) (vS w 2)) (vS w 2) (vH w b)
abbrev op_F (w : SV) (tp : Nat → Int32) : Nat → Prop := fun k => opP tp k (vS w 4)
theorem ch_endn {q : RV} {p n : Nat} {w : SV} {st : Nat → Int32} {b : Nat} {best B : Int32} (h8 : n ≤ 8) (hb : b < n) (R : ro_R p n w (rq_S q)) (eB : best = B) (c : ¬ best = -6) : ch_P q p n w b B none (md_H (ru_S (ru_T q st) (upd (upd (rq_S q) (p + 20 + 5 * b + 1) best) (p + 20 + 5 * b + 4) (vI w b + 0)))) := by
  subst eB
  have h := ro_uI (ro_uP R b best) b (vI w b + 0)
  rw [pm_, if_neg c] at h
  exact ⟨st, _, rfl, rfl, by rw [ch_W, if_neg c]; exact h, fr_Mu (fr_Mu (fr_M0 _ _) (by omega) (by omega)) (by omega) (by omega)⟩
theorem ch_endy {q : RV} {p n : Nat} {w : SV} {st : Nat → Int32} {b : Nat} {best B : Int32} (h8 : n ≤ 8) (hb : b < n) (R : ro_R p n w (rq_S q)) (eB : best = B) (c : best = -6) : ch_P q p n w b B none (md_H (ru_S (ru_T q st) (upd (upd (rq_S q) (p + 20 + 5 * b + 1) (-1)) (p + 20 + 5 * b + 4) (vI w b + 1)))) := by
  subst eB
  have h := ro_uI (ro_uP R b best) b (vI w b + 1)
  rw [pm_, if_pos c] at h
  exact ⟨st, _, rfl, rfl, by rw [ch_W, if_pos c]; exact h, fr_Mu (fr_Mu (fr_M0 _ _) (by omega) (by omega)) (by omega) (by omega)⟩
set_option maxHeartbeats 4000000 in
set_option maxRecDepth 100000 in
theorem lX7_chooses_9 (h0 : am_H) (q : RV) (p n : Nat) (hp : p ≤ 60) (w : SV) (R : ro_R p n w (rq_S q)) (h8 : n ≤ 8) {b : Nat} (hb : b < n) (hb6 : vP w b = -6) (D : di_D w n) (pl : pl_D w n) (he : he_D w n) (hg : 0 ≤ vS w 4) (tp : Nat → Int32) (T : to_T w n 8 tp) : ∀ (d k : Nat) (best most : Int32) (o6 : Option Value) (st : Nat → Int32), k + d = 12 → (best, most) = bopC (cr_F w tp b) (op_F w tp) k → am_RW mX7_chooses h0 (ch_P q p n w b (bst w tp (vH w b))) 0 0 9 [some (.ref 2), some (.int (nI p)), some (.int (nI b)), some (.int best), some (.int most), some (.int (nI k)), o6] [] (md_H (ru_T q st)) := by
  intro d
  induction d with
  | zero =>
    intro k best most o6 st hk e
    have ek : k = 12 := by omega
    subst ek
    have eB : best = bst w tp (vH w b) := congrArg Prod.fst e
    refine ar_iload (pc := 9) dX7_chooses_9 rfl ?_
    refine ar_bipush (pc := 11) dX7_chooses_11 q_bipush_12 ?_
    refine ar_icmp_ge (pc := 13) (tgt := 76) dX7_chooses_13 (by decide) (fun c13 => ?_) (fun c13 => absurd (by decide +kernel) c13)
    refine ar_aload_n (i := 0) (pc := 76) dX7_chooses_76 rfl rfl ?_
    refine ar_getf (pc := 77) dX7_chooses_77 fX7_7 rfl rfl ?_
    refine ar_iload_n (i := 1) (pc := 80) dX7_chooses_80 rfl rfl ?_
    refine ar_iload_n (i := 2) (pc := 81) dX7_chooses_81 rfl rfl ?_
    refine ar_idS (pc := 82) dX7_chooses_82 cal_X7_at kX7_36 rfl (sX7_at (md_H (ru_T q st)) p b) rfl rfl rfl rfl rfl (fun r h1 hp => ?_)
    obtain ⟨rfl, rfl⟩ := hp
    refine ⟨rfl, ?_⟩
    refine ar_iconst (pc := 85) dX7_chooses_85 q_iconst_1 ?_
    refine ar_iadd (pc := 86) dX7_chooses_86 ?_
    refine ar_iload_n (i := 3) (pc := 87) dX7_chooses_87 rfl rfl ?_
    refine ar_bipush (pc := 88) dX7_chooses_88 q_bipush_m6 ?_
    refine ar_icmp_ne (pc := 90) (tgt := 97) dX7_chooses_90 (by decide) (fun c90 => ?_) (fun c90 => ?_)
    · refine ar_iload_n (i := 3) (pc := 97) dX7_chooses_97 rfl rfl ?_
      refine ar_iast (pc := 98) dX7_chooses_98 rfl (show p + 20 + 5 * b + 1 < 120 by omega) (nI_add _ 1) ?_
      rw [md_S, rq_ST]
      refine ar_aload_n (i := 0) (pc := 99) dX7_chooses_99 rfl rfl ?_
      refine ar_getf (pc := 100) dX7_chooses_100 fX7_7 rfl rfl ?_
      refine ar_iload_n (i := 1) (pc := 103) dX7_chooses_103 rfl rfl ?_
      refine ar_iload_n (i := 2) (pc := 104) dX7_chooses_104 rfl rfl ?_
      refine ar_idS (pc := 105) dX7_chooses_105 cal_X7_at kX7_36 rfl (sX7_at _ p b) rfl rfl rfl rfl rfl (fun r h1 hp => ?_)
      obtain ⟨rfl, rfl⟩ := hp
      refine ⟨rfl, ?_⟩
      refine ar_iconst (pc := 108) dX7_chooses_108 q_iconst_4 ?_
      refine ar_iadd (pc := 109) dX7_chooses_109 ?_
      refine ar_dup2 (pc := 110) dX7_chooses_110 rfl rfl ?_
      refine ar_iald (pc := 111) dX7_chooses_111 rfl (show p + 20 + 5 * b + 4 < 120 by omega) (nI_add _ 4) ?_
      rw [rq_SS, pk_un (by omega), roI R hb]
      refine ar_iload_n (i := 3) (pc := 112) dX7_chooses_112 rfl rfl ?_
      refine ar_bipush (pc := 113) dX7_chooses_113 q_bipush_m6 ?_
      refine ar_icmp_ne (pc := 115) (tgt := 122) dX7_chooses_115 (by decide) (fun c115 => ?_) (fun c115 => absurd c115 c90)
      refine ar_iconst (pc := 122) dX7_chooses_122 q_iconst_0 ?_
      refine ar_iadd (pc := 123) dX7_chooses_123 ?_
      refine ar_iast (pc := 124) dX7_chooses_124 rfl (show p + 20 + 5 * b + 4 < 120 by omega) (nI_add _ 4) ?_
      rw [md_S, rq_SS, ru_SS]
      exact ar_vret (pc := 125) dX7_chooses_125 rfl rfl rfl (ch_endn h8 hb R eB c90)
    · refine ar_iconst (pc := 93) dX7_chooses_93 q_iconst_m1 ?_
      refine ar_goto (tgt := 98) (pc := 94) dX7_chooses_94 (by decide) ?_
      refine ar_iast (pc := 98) dX7_chooses_98 rfl (show p + 20 + 5 * b + 1 < 120 by omega) (nI_add _ 1) ?_
      rw [md_S, rq_ST]
      refine ar_aload_n (i := 0) (pc := 99) dX7_chooses_99 rfl rfl ?_
      refine ar_getf (pc := 100) dX7_chooses_100 fX7_7 rfl rfl ?_
      refine ar_iload_n (i := 1) (pc := 103) dX7_chooses_103 rfl rfl ?_
      refine ar_iload_n (i := 2) (pc := 104) dX7_chooses_104 rfl rfl ?_
      refine ar_idS (pc := 105) dX7_chooses_105 cal_X7_at kX7_36 rfl (sX7_at _ p b) rfl rfl rfl rfl rfl (fun r h1 hp => ?_)
      obtain ⟨rfl, rfl⟩ := hp
      refine ⟨rfl, ?_⟩
      refine ar_iconst (pc := 108) dX7_chooses_108 q_iconst_4 ?_
      refine ar_iadd (pc := 109) dX7_chooses_109 ?_
      refine ar_dup2 (pc := 110) dX7_chooses_110 rfl rfl ?_
      refine ar_iald (pc := 111) dX7_chooses_111 rfl (show p + 20 + 5 * b + 4 < 120 by omega) (nI_add _ 4) ?_
      rw [rq_SS, pk_un (by omega), roI R hb]
      refine ar_iload_n (i := 3) (pc := 112) dX7_chooses_112 rfl rfl ?_
      refine ar_bipush (pc := 113) dX7_chooses_113 q_bipush_m6 ?_
      refine ar_icmp_ne (pc := 115) (tgt := 122) dX7_chooses_115 (by decide) (fun c115 => absurd c90 c115) (fun c115 => ?_)
      refine ar_iconst (pc := 118) dX7_chooses_118 q_iconst_1 ?_
      refine ar_goto (tgt := 123) (pc := 119) dX7_chooses_119 (by decide) ?_
      refine ar_iadd (pc := 123) dX7_chooses_123 ?_
      refine ar_iast (pc := 124) dX7_chooses_124 rfl (show p + 20 + 5 * b + 4 < 120 by omega) (nI_add _ 4) ?_
      rw [md_S, rq_SS, ru_SS]
      exact ar_vret (pc := 125) dX7_chooses_125 rfl rfl rfl (ch_endy h8 hb R eB (show best = -6 from c90))
  | succ d ih =>
    intro k best most o6 st hk e
    have hk12 : k < 12 := by omega
    have em : most = (bopC (cr_F w tp b) (op_F w tp) k).2 := congrArg Prod.snd e
    have hF := fr_op (j := k) h8 hk12 T pl he hg
    refine ar_iload (pc := 9) dX7_chooses_9 rfl ?_
    refine ar_bipush (pc := 11) dX7_chooses_11 q_bipush_12 ?_
    refine ar_icmp_ge (pc := 13) (tgt := 76) dX7_chooses_13 (by decide) (fun c13 => absurd ((nI_leI (a := 12) (b := k) (by omega) (by omega)).mp c13) (by omega)) (fun c13 => ?_)
    refine ar_aload_n (i := 0) (pc := 16) dX7_chooses_16 rfl rfl ?_
    refine ar_iload_n (i := 1) (pc := 17) dX7_chooses_17 rfl rfl ?_
    refine ar_iload (pc := 18) dX7_chooses_18 rfl ?_
    refine ar_idV (pc := 20) dX7_chooses_20 cal_X7_isFree kX7_67 rfl (sX7_isFree (ru_T q st) p n hp w R h8 pl hk12) rfl rfl rfl rfl rfl rfl rfl (fun r h1 hp => ?_)
    obtain ⟨⟨h20, rfl⟩ | ⟨h20, rfl⟩, rfl⟩ := hp
    · refine ⟨rfl, ?_⟩
      refine ar_if_eq (pc := 23) (tgt := 37) dX7_chooses_23 (by decide) (fun c23 => absurd c23 (by decide)) (fun c23 => ?_)
      refine ar_aload_n (i := 0) (pc := 26) dX7_chooses_26 rfl rfl ?_
      refine ar_iload_n (i := 1) (pc := 27) dX7_chooses_27 rfl rfl ?_
      refine ar_iload_n (i := 2) (pc := 28) dX7_chooses_28 rfl rfl ?_
      refine ar_iload (pc := 29) dX7_chooses_29 rfl ?_
      refine ar_idV (pc := 31) dX7_chooses_31 cal_X7_crowdAt kX7_71 rfl (sX7_crowdAt (ru_T q st) p n hp w R h8 hb hk12 (di_put D hk12 h20)) rfl rfl rfl rfl rfl rfl rfl (fun r h1 hp => ?_)
      obtain ⟨st2, rfl, rfl⟩ := hp
      refine ⟨pat_md _ _, ?_⟩
      rw [ru_TT, ca_cr h8 hb hk12 (to_out hb6 T) (di_put D hk12 h20), show crA w tp (nI k) (vH w b) = cr_F w tp b k from rfl]
      refine ar_goto (tgt := 38) (pc := 34) dX7_chooses_34 (by decide) ?_
      refine ar_istore (pc := 38) dX7_chooses_38 (Nat.le_of_ble_eq_true rfl) rfl ?_
      refine ar_iload (pc := 40) dX7_chooses_40 rfl ?_
      refine ar_iload (pc := 42) dX7_chooses_42 rfl ?_
      refine ar_icmp_le (pc := 44) (tgt := 52) dX7_chooses_44 (by decide) (fun c44 => ?_) (fun c44 => ?_)
      · refine ar_iload_n (i := 3) (pc := 52) dX7_chooses_52 rfl rfl ?_
        refine ar_istore_n (i := 3) (pc := 53) dX7_chooses_53 rfl (Nat.le_of_ble_eq_true rfl) rfl ?_
        refine ar_iload (pc := 54) dX7_chooses_54 rfl ?_
        refine ar_iload (pc := 56) dX7_chooses_56 rfl ?_
        refine ar_icmp_le (pc := 58) (tgt := 66) dX7_chooses_58 (by decide) (fun c58 => ?_) (fun c58 => absurd c44 c58)
        refine ar_iload (pc := 66) dX7_chooses_66 rfl ?_
        refine ar_istore (pc := 68) dX7_chooses_68 (Nat.le_of_ble_eq_true rfl) rfl ?_
        refine ar_iinc (pc := 70) dX7_chooses_70 rfl (ni_inc _) (Nat.le_of_ble_eq_true rfl) rfl ?_
        refine ar_goto (tgt := 9) (pc := 73) dX7_chooses_73 (by decide) ?_
        exact ih (k + 1) _ _ _ _ (by omega) (e.trans (bopC_n _ _ k (fun z => absurd z.1 (by rw [← em]; exact Int32.not_lt.mpr c44))).symm)
      · refine ar_iload (pc := 47) dX7_chooses_47 rfl ?_
        refine ar_goto (tgt := 53) (pc := 49) dX7_chooses_49 (by decide) ?_
        refine ar_istore_n (i := 3) (pc := 53) dX7_chooses_53 rfl (Nat.le_of_ble_eq_true rfl) rfl ?_
        refine ar_iload (pc := 54) dX7_chooses_54 rfl ?_
        refine ar_iload (pc := 56) dX7_chooses_56 rfl ?_
        refine ar_icmp_le (pc := 58) (tgt := 66) dX7_chooses_58 (by decide) (fun c58 => absurd c58 c44) (fun c58 => ?_)
        refine ar_iload (pc := 61) dX7_chooses_61 rfl ?_
        refine ar_goto (tgt := 68) (pc := 63) dX7_chooses_63 (by decide) ?_
        refine ar_istore (pc := 68) dX7_chooses_68 (Nat.le_of_ble_eq_true rfl) rfl ?_
        refine ar_iinc (pc := 70) dX7_chooses_70 rfl (ni_inc _) (Nat.le_of_ble_eq_true rfl) rfl ?_
        refine ar_goto (tgt := 9) (pc := 73) dX7_chooses_73 (by decide) ?_
        exact ih (k + 1) _ _ _ _ (by omega) (bopC_s _ _ k ⟨by rw [← em]; exact Int32.not_le.mp c44, hF.mp h20⟩).symm
    · refine ⟨rfl, ?_⟩
      refine ar_if_eq (pc := 23) (tgt := 37) dX7_chooses_23 (by decide) (fun c23 => ?_) (fun c23 => absurd c23 (by decide))
      refine ar_iconst (pc := 37) dX7_chooses_37 q_iconst_m1 ?_
      refine ar_istore (pc := 38) dX7_chooses_38 (Nat.le_of_ble_eq_true rfl) rfl ?_
      refine ar_iload (pc := 40) dX7_chooses_40 rfl ?_
      refine ar_iload (pc := 42) dX7_chooses_42 rfl ?_
      refine ar_icmp_le (pc := 44) (tgt := 52) dX7_chooses_44 (by decide) (fun c44 => ?_) (fun c44 => absurd (by rw [em]; exact bop_ge _ _ k) c44)
      refine ar_iload_n (i := 3) (pc := 52) dX7_chooses_52 rfl rfl ?_
      refine ar_istore_n (i := 3) (pc := 53) dX7_chooses_53 rfl (Nat.le_of_ble_eq_true rfl) rfl ?_
      refine ar_iload (pc := 54) dX7_chooses_54 rfl ?_
      refine ar_iload (pc := 56) dX7_chooses_56 rfl ?_
      refine ar_icmp_le (pc := 58) (tgt := 66) dX7_chooses_58 (by decide) (fun c58 => ?_) (fun c58 => absurd (by rw [em]; exact bop_ge _ _ k) c58)
      refine ar_iload (pc := 66) dX7_chooses_66 rfl ?_
      refine ar_istore (pc := 68) dX7_chooses_68 (Nat.le_of_ble_eq_true rfl) rfl ?_
      refine ar_iinc (pc := 70) dX7_chooses_70 rfl (ni_inc _) (Nat.le_of_ble_eq_true rfl) rfl ?_
      refine ar_goto (tgt := 9) (pc := 73) dX7_chooses_73 (by decide) ?_
      exact ih (k + 1) _ _ _ _ (by omega) (e.trans (bopC_n _ _ k (fun z => h20 (hF.mpr z.2))).symm)
set_option maxHeartbeats 4000000 in
set_option maxRecDepth 100000 in
theorem sX7_chooses (q : RV) (p n : Nat) (hp : p ≤ 60) (w : SV) (R : ro_R p n w (rq_S q)) (h8 : n ≤ 8) {b : Nat} (hb : b < n) (hb6 : vP w b = -6) (D : di_D w n) (pl : pl_D w n) (he : he_D w n) (hg : 0 ≤ vS w 4) (tp : Nat → Int32) (T : to_T w n 8 tp) : am_Sp mX7_chooses [.ref 2, .int (nI p), .int (nI b)] (md_H q) (ch_P q p n w b (bst w tp (vH w b))) := by
  refine am_intro (by decide) (Nat.le_of_ble_eq_true rfl) ?_
  refine ar_bipush (pc := 0) dX7_chooses_0 q_bipush_m6 ?_
  refine ar_istore_n (i := 3) (pc := 2) dX7_chooses_2 rfl (Nat.le_of_ble_eq_true rfl) rfl ?_
  refine ar_iconst (pc := 3) dX7_chooses_3 q_iconst_m1 ?_
  refine ar_istore (pc := 4) dX7_chooses_4 (Nat.le_of_ble_eq_true rfl) rfl ?_
  refine ar_iconst (pc := 6) dX7_chooses_6 q_iconst_0 ?_
  refine ar_istore (pc := 7) dX7_chooses_7 (Nat.le_of_ble_eq_true rfl) rfl ?_
  rw [← nI_0]
  refine ar_hp (h' := md_H (ru_T q (rq_T q))) (by rw [ru_T0]) ?_
  exact lX7_chooses_9 _ q p n hp w R h8 hb hb6 D pl he hg tp T 12 0 (-6) (-1) _ _ (by omega) rfl

