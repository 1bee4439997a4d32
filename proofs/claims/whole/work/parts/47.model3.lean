/-! the reference: crowds, free pitches, draws -/
theorem upd_back {f : Nat → Int32} {i : Nat} {x : Int32} : upd (upd f i x) i (f i) = f := by
  funext j
  by_cases e : j = i
  · subst e; rw [pk_us]
  · rw [pk_un e, pk_un e]
theorem pm_nI {j : Nat} (h : j < 100) : pm_ (nI j) = nI j := by rw [pm_, if_neg (nI_m6 h)]
/-- who stop at the booth b, from one side -/
def sb_V (l : Int32) (w : SV) (n b : Nat) : Int32 := stpV (arF l (tpV w n) (vS w (if l = 0 then 1 else 0)) (vS w 2)) (taF l (tpV w n) (vS w (if l = 0 then 1 else 0)) (vS w 2)) (vS w 2) (vP w b) (vH w b)
def rs_V (w : SV) (n : Nat) : Int32 := paF 1 (tpV w n) (vS w 0) (vS w 2) + paF 0 (tpV w n) (vS w 1) (vS w 2)
def cw_P (q : RV) (w : SV) (n : Nat) : Option Value → am_H → Prop := fun r h1 => ∃ st, r = some (.int (rs_V w n)) ∧ h1 = md_H (ru_T q st) ∧ ∀ b, b < n → st (2 * b) = sb_V 1 w n b ∧ st (2 * b + 1) = sb_V 0 w n b
set_option maxHeartbeats 4000000 in
set_option maxRecDepth 100000 in
theorem lX7_crowds_2 (h0 : am_H) (q : RV) (p n : Nat) (hp : p ≤ 60) (w : SV) (R : ro_R p n w (rq_S q)) (h8 : n ≤ 8) (D : di_D w n) : ∀ (d k : Nat), k + d = 16 → am_RW mX7_crowds h0 (cw_P q w n) 0 0 2 [some (.ref 2), some (.int (nI p)), some (.int (nI k))] [] (md_H (ru_T q (mixF (fun _ => 0) (rq_T q) k))) := by
  intro d
  induction d with
  | zero =>
    intro k hk
    have e : k = 16 := by omega
    subst e
    refine ar_iload_n (i := 2) (pc := 2) dX7_crowds_2 rfl rfl ?_
    refine ar_bipush (pc := 3) dX7_crowds_3 q_bipush_16 ?_
    refine ar_icmp_ge (pc := 5) (tgt := 21) dX7_crowds_5 (by decide) (fun c5 => ?_) (fun c5 => absurd (by decide +kernel) c5)
    refine ar_aload_n (i := 0) (pc := 21) dX7_crowds_21 rfl rfl ?_
    refine ar_iload_n (i := 1) (pc := 22) dX7_crowds_22 rfl rfl ?_
    refine ar_iconst (pc := 23) dX7_crowds_23 q_iconst_0 ?_
    refine ar_idV (pc := 24) dX7_crowds_24 cal_X7_goes kX7_47 rfl (sX7_goes0 (ru_T q (mixF (fun _ => 0) (rq_T q) 16)) p n hp w R h8 D (fun b hb => mixF_all (f := fun _ => 0) (g := rq_T q) (N := 16) (j := 2 * b + 0) (by omega))) rfl rfl rfl rfl rfl rfl rfl (fun r h1 hp => ?_)
    obtain ⟨st, rfl, rfl, s1, e1⟩ := hp
    refine ⟨pat_md _ _, ?_⟩
    rw [ru_TT]
    refine ar_istore_n (i := 2) (pc := 27) dX7_crowds_27 rfl (Nat.le_of_ble_eq_true rfl) rfl ?_
    refine ar_iload_n (i := 2) (pc := 28) dX7_crowds_28 rfl rfl ?_
    refine ar_aload_n (i := 0) (pc := 29) dX7_crowds_29 rfl rfl ?_
    refine ar_iload_n (i := 1) (pc := 30) dX7_crowds_30 rfl rfl ?_
    refine ar_iconst (pc := 31) dX7_crowds_31 q_iconst_1 ?_
    refine ar_idV (pc := 32) dX7_crowds_32 cal_X7_goes kX7_47 rfl (sX7_goes1 (ru_T q st) p n hp w R h8 D (fun b hb => (e1 b).trans (mixF_all (f := fun _ => 0) (g := rq_T q) (N := 16) (j := 2 * b + (1 - 0)) (by omega)))) rfl rfl rfl rfl rfl rfl rfl (fun r h1 hp => ?_)
    obtain ⟨st2, rfl, rfl, s2, e2⟩ := hp
    refine ⟨pat_md _ _, ?_⟩
    rw [ru_TT]
    refine ar_iadd (pc := 35) dX7_crowds_35 ?_
    exact ar_iret (pc := 36) dX7_crowds_36 rfl rfl rfl ⟨st2, rfl, rfl, fun b hb => ⟨(e2 b).trans (s1 b hb), s2 b hb⟩⟩
  | succ d ih =>
    intro k hk
    refine ar_iload_n (i := 2) (pc := 2) dX7_crowds_2 rfl rfl ?_
    refine ar_bipush (pc := 3) dX7_crowds_3 q_bipush_16 ?_
    refine ar_icmp_ge (pc := 5) (tgt := 21) dX7_crowds_5 (by decide) (fun c5 => absurd ((nI_leI (a := 16) (b := k) (by omega) (by omega)).mp c5) (by omega)) (fun c5 => ?_)
    refine ar_aload_n (i := 0) (pc := 8) dX7_crowds_8 rfl rfl ?_
    refine ar_getf (pc := 9) dX7_crowds_9 fX7_26 rfl rfl ?_
    refine ar_iload_n (i := 2) (pc := 12) dX7_crowds_12 rfl rfl ?_
    refine ar_iconst (pc := 13) dX7_crowds_13 q_iconst_0 ?_
    refine ar_iast (pc := 14) dX7_crowds_14 rfl (show k < 16 by omega) rfl ?_
    rw [md_T, rq_TT, ru_TT, mixF_c]
    refine ar_iinc (pc := 15) dX7_crowds_15 rfl (ni_inc _) (Nat.le_of_ble_eq_true rfl) rfl ?_
    refine ar_goto (tgt := 2) (pc := 18) dX7_crowds_18 (by decide) ?_
    exact ih (k + 1) (by omega)
set_option maxHeartbeats 4000000 in
set_option maxRecDepth 100000 in
theorem sX7_crowds (q : RV) (p n : Nat) (hp : p ≤ 60) (w : SV) (R : ro_R p n w (rq_S q)) (h8 : n ≤ 8) (D : di_D w n) : am_Sp mX7_crowds [.ref 2, .int (nI p)] (md_H q) (cw_P q w n) := by
  refine am_intro (by decide) (Nat.le_of_ble_eq_true rfl) ?_
  refine ar_iconst (pc := 0) dX7_crowds_0 q_iconst_0 ?_
  refine ar_istore_n (i := 2) (pc := 1) dX7_crowds_1 rfl (Nat.le_of_ble_eq_true rfl) rfl ?_
  have h := lX7_crowds_2 (md_H q) q p n hp w R h8 D 16 0 (by omega)
  rw [mixF_0, ru_T0, nI_0] at h
  exact h

set_option maxHeartbeats 4000000 in
set_option maxRecDepth 100000 in
theorem sX7_crowdOf (q : RV) {b : Nat} (hb : b < 8) : am_Sp mX7_crowdOf [.ref 2, .int (nI b)] (md_H q) (am_rp (rq_T q (2 * b) + rq_T q (2 * b + 1)) (md_H q)) := by
  refine am_intro (by decide) (Nat.le_of_ble_eq_true rfl) ?_
  refine ar_aload_n (i := 0) (pc := 0) dX7_crowdOf_0 rfl rfl ?_
  refine ar_getf (pc := 1) dX7_crowdOf_1 fX7_26 rfl rfl ?_
  refine ar_iconst (pc := 4) dX7_crowdOf_4 q_iconst_2 ?_
  refine ar_iload_n (i := 1) (pc := 5) dX7_crowdOf_5 rfl rfl ?_
  refine ar_imul (pc := 6) dX7_crowdOf_6 ?_
  refine ar_iald (pc := 7) dX7_crowdOf_7 rfl (show 2 * b < 16 by omega) (pk_mul 2 b) ?_
  refine ar_aload_n (i := 0) (pc := 8) dX7_crowdOf_8 rfl rfl ?_
  refine ar_getf (pc := 9) dX7_crowdOf_9 fX7_26 rfl rfl ?_
  refine ar_iconst (pc := 12) dX7_crowdOf_12 q_iconst_2 ?_
  refine ar_iload_n (i := 1) (pc := 13) dX7_crowdOf_13 rfl rfl ?_
  refine ar_imul (pc := 14) dX7_crowdOf_14 ?_
  refine ar_iconst (pc := 15) dX7_crowdOf_15 q_iconst_1 ?_
  refine ar_iadd (pc := 16) dX7_crowdOf_16 ?_
  refine ar_iald (pc := 17) dX7_crowdOf_17 rfl (show 2 * b + 1 < 16 by omega) (by rw [show (2 : Int32) = nI 2 from rfl, pk_mul]; exact nI_add _ 1) ?_
  refine ar_iadd (pc := 18) dX7_crowdOf_18 ?_
  exact ar_iret (pc := 19) dX7_crowdOf_19 rfl rfl rfl ⟨rfl, rfl⟩

/-- the crowd of the booth b, were it at the pitch j -/
def ca_V (w : SV) (n b j : Nat) : Int32 := crA w (tpV (uP w (upd (vP w) b (nI j))) n) (nI j) (vH w b)
theorem ca_e {w : SV} {n b j : Nat} : sb_V 1 (uP w (upd (vP w) b (nI j))) n b + sb_V 0 (uP w (upd (vP w) b (nI j))) n b = ca_V w n b j := by
  unfold sb_V ca_V crA
  rw [show vP (uP w (upd (vP w) b (nI j))) b = nI j from pk_us]
  rfl
def ca_P (q : RV) (w : SV) (n b j : Nat) : Option Value → am_H → Prop := fun r h1 => ∃ st, r = some (.int (ca_V w n b j)) ∧ h1 = md_H (ru_T q st)
set_option maxHeartbeats 4000000 in
set_option maxRecDepth 100000 in
theorem sX7_crowdAt (q : RV) (p n : Nat) (hp : p ≤ 60) (w : SV) (R : ro_R p n w (rq_S q)) (h8 : n ≤ 8) {b : Nat} (hb : b < n) {j : Nat} (hj : j < 12) (D : di_D (uP w (upd (vP w) b (nI j))) n) : am_Sp mX7_crowdAt [.ref 2, .int (nI p), .int (nI b), .int (nI j)] (md_H q) (ca_P q w n b j) := by
  refine am_intro (by decide) (Nat.le_of_ble_eq_true rfl) ?_
  refine ar_aload_n (i := 0) (pc := 0) dX7_crowdAt_0 rfl rfl ?_
  refine ar_getf (pc := 1) dX7_crowdAt_1 fX7_7 rfl rfl ?_
  refine ar_iload_n (i := 1) (pc := 4) dX7_crowdAt_4 rfl rfl ?_
  refine ar_iload_n (i := 2) (pc := 5) dX7_crowdAt_5 rfl rfl ?_
  refine ar_idS (pc := 6) dX7_crowdAt_6 cal_X7_at kX7_36 rfl (sX7_at (md_H q) p b) rfl rfl rfl rfl rfl (fun r h1 hp => ?_)
  obtain ⟨rfl, rfl⟩ := hp
  refine ⟨rfl, ?_⟩
  refine ar_iconst (pc := 9) dX7_crowdAt_9 q_iconst_1 ?_
  refine ar_iadd (pc := 10) dX7_crowdAt_10 ?_
  refine ar_iald (pc := 11) dX7_crowdAt_11 rfl (show p + 20 + 5 * b + 1 < 120 by omega) (nI_add _ 1) ?_
  refine ar_istore (pc := 12) dX7_crowdAt_12 (Nat.le_of_ble_eq_true rfl) rfl ?_
  refine ar_aload_n (i := 0) (pc := 14) dX7_crowdAt_14 rfl rfl ?_
  refine ar_getf (pc := 15) dX7_crowdAt_15 fX7_7 rfl rfl ?_
  refine ar_iload_n (i := 1) (pc := 18) dX7_crowdAt_18 rfl rfl ?_
  refine ar_iload_n (i := 2) (pc := 19) dX7_crowdAt_19 rfl rfl ?_
  refine ar_idS (pc := 20) dX7_crowdAt_20 cal_X7_at kX7_36 rfl (sX7_at (md_H q) p b) rfl rfl rfl rfl rfl (fun r h1 hp => ?_)
  obtain ⟨rfl, rfl⟩ := hp
  refine ⟨rfl, ?_⟩
  refine ar_iconst (pc := 23) dX7_crowdAt_23 q_iconst_1 ?_
  refine ar_iadd (pc := 24) dX7_crowdAt_24 ?_
  refine ar_iload_n (i := 3) (pc := 25) dX7_crowdAt_25 rfl rfl ?_
  refine ar_iast (pc := 26) dX7_crowdAt_26 rfl (show p + 20 + 5 * b + 1 < 120 by omega) (nI_add _ 1) ?_
  rw [md_S]
  refine ar_aload_n (i := 0) (pc := 27) dX7_crowdAt_27 rfl rfl ?_
  refine ar_iload_n (i := 1) (pc := 28) dX7_crowdAt_28 rfl rfl ?_
  refine ar_idV (pc := 29) dX7_crowdAt_29 cal_X7_crowds kX7_50 rfl (sX7_crowds (ru_S q (upd (rq_S q) (p + 20 + 5 * b + 1) (nI j))) p n hp (uP w (upd (vP w) b (nI j))) (by rw [rq_SS]; have h := ro_uP R b (nI j); rw [pm_nI (by omega)] at h; exact h) h8 D) rfl rfl rfl rfl rfl rfl rfl (fun r h1 hp => ?_)
  obtain ⟨st, rfl, rfl, hst⟩ := hp
  refine ⟨pat_md _ _, ?_⟩
  refine ar_istore (pc := 32) dX7_crowdAt_32 (Nat.le_of_ble_eq_true rfl) rfl ?_
  refine ar_aload_n (i := 0) (pc := 34) dX7_crowdAt_34 rfl rfl ?_
  refine ar_getf (pc := 35) dX7_crowdAt_35 fX7_7 rfl rfl ?_
  refine ar_iload_n (i := 1) (pc := 38) dX7_crowdAt_38 rfl rfl ?_
  refine ar_iload_n (i := 2) (pc := 39) dX7_crowdAt_39 rfl rfl ?_
  refine ar_idS (pc := 40) dX7_crowdAt_40 cal_X7_at kX7_36 rfl (sX7_at _ p b) rfl rfl rfl rfl rfl (fun r h1 hp => ?_)
  obtain ⟨rfl, rfl⟩ := hp
  refine ⟨rfl, ?_⟩
  refine ar_iconst (pc := 43) dX7_crowdAt_43 q_iconst_1 ?_
  refine ar_iadd (pc := 44) dX7_crowdAt_44 ?_
  refine ar_iload (pc := 45) dX7_crowdAt_45 rfl ?_
  refine ar_iast (pc := 47) dX7_crowdAt_47 rfl (show p + 20 + 5 * b + 1 < 120 by omega) (nI_add _ 1) ?_
  rw [md_S, rq_ST, rq_SS, upd_back]
  refine ar_hp (h' := md_H (ru_T q st)) rfl ?_
  refine ar_aload_n (i := 0) (pc := 48) dX7_crowdAt_48 rfl rfl ?_
  refine ar_iload_n (i := 2) (pc := 49) dX7_crowdAt_49 rfl rfl ?_
  refine ar_idV (pc := 50) dX7_crowdAt_50 cal_X7_crowdOf kX7_54 rfl (sX7_crowdOf (ru_T q st) (b := b) (by omega)) rfl rfl rfl rfl rfl rfl rfl (fun r h1 hp => ?_)
  obtain ⟨rfl, rfl⟩ := hp
  refine ⟨rfl, ?_⟩
  exact ar_iret (pc := 53) dX7_crowdAt_53 rfl rfl rfl ⟨st, by rw [rq_TT, (hst b hb).1, (hst b hb).2, ca_e], rfl⟩

def fr_K (w : SV) (j m : Nat) : Prop := ∀ i, i < m → vP w i ≠ -6 → vS w 4 < nI (dst (ix (vP w i)) j) ∧ 0 < nI (dst (ix (vP w i)) j)
theorem fr_s1 {o j : Nat} (ho : o < 12) (hj : j < 12) (h : ¬ nI j ≤ nI o) : nI j - nI o = nI (dst o j) := by
  have h2 : ¬ j ≤ o := fun z => h ((nI_leI (by omega) (by omega)).mpr z)
  rw [pk_sub (by omega), dst, if_pos (by omega)]
theorem fr_s2 {o j : Nat} (ho : o < 12) (hj : j < 12) (h : nI j ≤ nI o) : nI o - nI j = nI (dst o j) := by
  have h2 : j ≤ o := (nI_leI (by omega) (by omega)).mp h
  rw [pk_sub (by omega), dst, if_neg (by omega)]
theorem fr_y {w : SV} {j k : Nat} (h : fr_K w j k) (h2 : vP w k ≠ -6 → vS w 4 < nI (dst (ix (vP w k)) j) ∧ 0 < nI (dst (ix (vP w k)) j)) : fr_K w j (k + 1) := fun i hi hn => by
  by_cases e : i = k
  · subst e; exact h2 hn
  · exact h i (by omega) hn
theorem fr_n1 {w : SV} {j k : Nat} (h : ¬ fr_K w j k) : ¬ fr_K w j (k + 1) := fun z => h fun i hi => z i (by omega)
theorem fr_n2 {w : SV} {j k : Nat} (h1 : vP w k ≠ -6) (h2 : ¬ (vS w 4 < nI (dst (ix (vP w k)) j) ∧ 0 < nI (dst (ix (vP w k)) j))) : ¬ fr_K w j (k + 1) := fun z => h2 (z k (by omega) h1)
set_option maxHeartbeats 4000000 in
set_option maxRecDepth 100000 in
theorem lX7_isFree_5 (h0 : am_H) (q : RV) (p n : Nat) (hp : p ≤ 60) (w : SV) (R : ro_R p n w (rq_S q)) (h8 : n ≤ 8) (pl : pl_D w n) {j : Nat} (hj : j < 12) : ∀ (d k : Nat) (x : Int32) (o5 o6 : Option Value), k + d = n → ((x = 1 ∧ fr_K w j k) ∨ (x = 0 ∧ ¬ fr_K w j k)) → am_RW mX7_isFree h0 (am_bp (fr_K w j n) (md_H q)) 0 0 5 [some (.ref 2), some (.int (nI p)), some (.int (nI j)), some (.int x), some (.int (nI k)), o5, o6] [] (md_H q) := by
  intro d
  induction d with
  | zero =>
    intro k x o5 o6 hk hI
    have e : k = n := by omega
    subst e
    refine ar_iload (pc := 5) dX7_isFree_5 rfl ?_
    refine ar_aload_n (i := 0) (pc := 7) dX7_isFree_7 rfl rfl ?_
    refine ar_getf (pc := 8) dX7_isFree_8 fX7_7 rfl rfl ?_
    refine ar_iload_n (i := 1) (pc := 11) dX7_isFree_11 rfl rfl ?_
    refine ar_bipush (pc := 12) dX7_isFree_12 q_bipush_7 ?_
    refine ar_iadd (pc := 14) dX7_isFree_14 ?_
    refine ar_iald (pc := 15) dX7_isFree_15 rfl (show p + 7 < 120 by omega) (nI_add p 7) ?_
    rw [roN R]
    refine ar_icmp_ge (pc := 16) (tgt := 92) dX7_isFree_16 (by decide) (fun c16 => ?_) (fun c16 => absurd (Int32.le_refl _) c16)
    refine ar_iload_n (i := 3) (pc := 92) dX7_isFree_92 rfl rfl ?_
    rcases hI with ⟨rfl, hI⟩ | ⟨rfl, hI⟩
    · exact ar_zret (pc := 93) dX7_isFree_93 rfl (Or.inr rfl) rfl rfl ⟨Or.inl ⟨hI, rfl⟩, rfl⟩
    · exact ar_zret (pc := 93) dX7_isFree_93 rfl (Or.inl rfl) rfl rfl ⟨Or.inr ⟨hI, rfl⟩, rfl⟩
  | succ d ih =>
    intro k x o5 o6 hk hI
    rcases pl k (by omega) with ep | ip
    · rcases hI with ⟨rfl, hI⟩ | ⟨rfl, hI⟩
      · refine ar_iload (pc := 5) dX7_isFree_5 rfl ?_
        refine ar_aload_n (i := 0) (pc := 7) dX7_isFree_7 rfl rfl ?_
        refine ar_getf (pc := 8) dX7_isFree_8 fX7_7 rfl rfl ?_
        refine ar_iload_n (i := 1) (pc := 11) dX7_isFree_11 rfl rfl ?_
        refine ar_bipush (pc := 12) dX7_isFree_12 q_bipush_7 ?_
        refine ar_iadd (pc := 14) dX7_isFree_14 ?_
        refine ar_iald (pc := 15) dX7_isFree_15 rfl (show p + 7 < 120 by omega) (nI_add p 7) ?_
        rw [roN R]
        refine ar_icmp_ge (pc := 16) (tgt := 92) dX7_isFree_16 (by decide) (fun c16 => absurd ((nI_leI (by omega) (by omega)).mp c16) (by omega)) (fun c16 => ?_)
        refine ar_aload_n (i := 0) (pc := 19) dX7_isFree_19 rfl rfl ?_
        refine ar_getf (pc := 20) dX7_isFree_20 fX7_7 rfl rfl ?_
        refine ar_iload_n (i := 1) (pc := 23) dX7_isFree_23 rfl rfl ?_
        refine ar_iload (pc := 24) dX7_isFree_24 rfl ?_
        refine ar_idS (pc := 26) dX7_isFree_26 cal_X7_at kX7_36 rfl (sX7_at (md_H q) p k) rfl rfl rfl rfl rfl (fun r h1 hp => ?_)
        obtain ⟨rfl, rfl⟩ := hp
        refine ⟨rfl, ?_⟩
        refine ar_iconst (pc := 29) dX7_isFree_29 q_iconst_1 ?_
        refine ar_iadd (pc := 30) dX7_isFree_30 ?_
        refine ar_iald (pc := 31) dX7_isFree_31 rfl (show p + 20 + 5 * k + 1 < 120 by omega) (nI_add _ 1) ?_
        rw [roP R (show k < n by omega), ep, show pm_ (-6) = -1 by decide +kernel]
        refine ar_istore (pc := 32) dX7_isFree_32 (Nat.le_of_ble_eq_true rfl) rfl ?_
        refine ar_iload (pc := 34) dX7_isFree_34 rfl ?_
        refine ar_iload_n (i := 2) (pc := 36) dX7_isFree_36 rfl rfl ?_
        refine ar_icmp_ge (pc := 37) (tgt := 47) dX7_isFree_37 (by decide) (fun c37 => False.elim (by (simp (disch := omega) only [Int32.lt_iff_toInt_lt, Int32.le_iff_toInt_le, ← Int32.toInt_inj, ti_m6, ti_m1, ti_0, ti_1, ti_2, ti_3, ti_4, ti_5, ti_6, ti_7, ti_8, ti_9, ti_12, ti_100, ti_9999, ti_60, nI_toInt] at c37); omega)) (fun c37 => ?_)
        refine ar_iload_n (i := 2) (pc := 40) dX7_isFree_40 rfl rfl ?_
        refine ar_iload (pc := 41) dX7_isFree_41 rfl ?_
        refine ar_isub (pc := 43) dX7_isFree_43 ?_
        refine ar_goto (tgt := 51) (pc := 44) dX7_isFree_44 (by decide) ?_
        refine ar_istore (pc := 51) dX7_isFree_51 (Nat.le_of_ble_eq_true rfl) rfl ?_
        refine ar_iload_n (i := 3) (pc := 53) dX7_isFree_53 rfl rfl ?_
        refine ar_if_eq (pc := 54) (tgt := 84) dX7_isFree_54 (by decide) (fun c54 => absurd c54 (by decide)) (fun c54 => ?_)
        refine ar_iload (pc := 57) dX7_isFree_57 rfl ?_
        refine ar_if_lt (pc := 59) (tgt := 80) dX7_isFree_59 (by decide) (fun c59 => ?_) (fun c59 => absurd (by decide +kernel) c59)
        refine ar_iconst (pc := 80) dX7_isFree_80 q_iconst_1 ?_
        refine ar_goto (tgt := 85) (pc := 81) dX7_isFree_81 (by decide) ?_
        refine ar_istore_n (i := 3) (pc := 85) dX7_isFree_85 rfl (Nat.le_of_ble_eq_true rfl) rfl ?_
        refine ar_iinc (pc := 86) dX7_isFree_86 rfl (ni_inc _) (Nat.le_of_ble_eq_true rfl) rfl ?_
        refine ar_goto (tgt := 5) (pc := 89) dX7_isFree_89 (by decide) ?_
        exact ih (k + 1) 1 _ _ (by omega) (Or.inl ⟨rfl, fr_y hI (fun z => absurd ep z)⟩)
      · refine ar_iload (pc := 5) dX7_isFree_5 rfl ?_
        refine ar_aload_n (i := 0) (pc := 7) dX7_isFree_7 rfl rfl ?_
        refine ar_getf (pc := 8) dX7_isFree_8 fX7_7 rfl rfl ?_
        refine ar_iload_n (i := 1) (pc := 11) dX7_isFree_11 rfl rfl ?_
        refine ar_bipush (pc := 12) dX7_isFree_12 q_bipush_7 ?_
        refine ar_iadd (pc := 14) dX7_isFree_14 ?_
        refine ar_iald (pc := 15) dX7_isFree_15 rfl (show p + 7 < 120 by omega) (nI_add p 7) ?_
        rw [roN R]
        refine ar_icmp_ge (pc := 16) (tgt := 92) dX7_isFree_16 (by decide) (fun c16 => absurd ((nI_leI (by omega) (by omega)).mp c16) (by omega)) (fun c16 => ?_)
        refine ar_aload_n (i := 0) (pc := 19) dX7_isFree_19 rfl rfl ?_
        refine ar_getf (pc := 20) dX7_isFree_20 fX7_7 rfl rfl ?_
        refine ar_iload_n (i := 1) (pc := 23) dX7_isFree_23 rfl rfl ?_
        refine ar_iload (pc := 24) dX7_isFree_24 rfl ?_
        refine ar_idS (pc := 26) dX7_isFree_26 cal_X7_at kX7_36 rfl (sX7_at (md_H q) p k) rfl rfl rfl rfl rfl (fun r h1 hp => ?_)
        obtain ⟨rfl, rfl⟩ := hp
        refine ⟨rfl, ?_⟩
        refine ar_iconst (pc := 29) dX7_isFree_29 q_iconst_1 ?_
        refine ar_iadd (pc := 30) dX7_isFree_30 ?_
        refine ar_iald (pc := 31) dX7_isFree_31 rfl (show p + 20 + 5 * k + 1 < 120 by omega) (nI_add _ 1) ?_
        rw [roP R (show k < n by omega), ep, show pm_ (-6) = -1 by decide +kernel]
        refine ar_istore (pc := 32) dX7_isFree_32 (Nat.le_of_ble_eq_true rfl) rfl ?_
        refine ar_iload (pc := 34) dX7_isFree_34 rfl ?_
        refine ar_iload_n (i := 2) (pc := 36) dX7_isFree_36 rfl rfl ?_
        refine ar_icmp_ge (pc := 37) (tgt := 47) dX7_isFree_37 (by decide) (fun c37 => False.elim (by (simp (disch := omega) only [Int32.lt_iff_toInt_lt, Int32.le_iff_toInt_le, ← Int32.toInt_inj, ti_m6, ti_m1, ti_0, ti_1, ti_2, ti_3, ti_4, ti_5, ti_6, ti_7, ti_8, ti_9, ti_12, ti_100, ti_9999, ti_60, nI_toInt] at c37); omega)) (fun c37 => ?_)
        refine ar_iload_n (i := 2) (pc := 40) dX7_isFree_40 rfl rfl ?_
        refine ar_iload (pc := 41) dX7_isFree_41 rfl ?_
        refine ar_isub (pc := 43) dX7_isFree_43 ?_
        refine ar_goto (tgt := 51) (pc := 44) dX7_isFree_44 (by decide) ?_
        refine ar_istore (pc := 51) dX7_isFree_51 (Nat.le_of_ble_eq_true rfl) rfl ?_
        refine ar_iload_n (i := 3) (pc := 53) dX7_isFree_53 rfl rfl ?_
        refine ar_if_eq (pc := 54) (tgt := 84) dX7_isFree_54 (by decide) (fun c54 => ?_) (fun c54 => absurd rfl c54)
        refine ar_iconst (pc := 84) dX7_isFree_84 q_iconst_0 ?_
        refine ar_istore_n (i := 3) (pc := 85) dX7_isFree_85 rfl (Nat.le_of_ble_eq_true rfl) rfl ?_
        refine ar_iinc (pc := 86) dX7_isFree_86 rfl (ni_inc _) (Nat.le_of_ble_eq_true rfl) rfl ?_
        refine ar_goto (tgt := 5) (pc := 89) dX7_isFree_89 (by decide) ?_
        exact ih (k + 1) 0 _ _ (by omega) (Or.inr ⟨rfl, fr_n1 hI⟩)
    · obtain ⟨o, ho, eo⟩ : ∃ o, o < 12 ∧ vP w k = nI o := ⟨ix (vP w k), by have := ip; unfold ix; omega, ix_eq ip.1⟩
      rcases hI with ⟨rfl, hI⟩ | ⟨rfl, hI⟩
      · refine ar_iload (pc := 5) dX7_isFree_5 rfl ?_
        refine ar_aload_n (i := 0) (pc := 7) dX7_isFree_7 rfl rfl ?_
        refine ar_getf (pc := 8) dX7_isFree_8 fX7_7 rfl rfl ?_
        refine ar_iload_n (i := 1) (pc := 11) dX7_isFree_11 rfl rfl ?_
        refine ar_bipush (pc := 12) dX7_isFree_12 q_bipush_7 ?_
        refine ar_iadd (pc := 14) dX7_isFree_14 ?_
        refine ar_iald (pc := 15) dX7_isFree_15 rfl (show p + 7 < 120 by omega) (nI_add p 7) ?_
        rw [roN R]
        refine ar_icmp_ge (pc := 16) (tgt := 92) dX7_isFree_16 (by decide) (fun c16 => absurd ((nI_leI (by omega) (by omega)).mp c16) (by omega)) (fun c16 => ?_)
        refine ar_aload_n (i := 0) (pc := 19) dX7_isFree_19 rfl rfl ?_
        refine ar_getf (pc := 20) dX7_isFree_20 fX7_7 rfl rfl ?_
        refine ar_iload_n (i := 1) (pc := 23) dX7_isFree_23 rfl rfl ?_
        refine ar_iload (pc := 24) dX7_isFree_24 rfl ?_
        refine ar_idS (pc := 26) dX7_isFree_26 cal_X7_at kX7_36 rfl (sX7_at (md_H q) p k) rfl rfl rfl rfl rfl (fun r h1 hp => ?_)
        obtain ⟨rfl, rfl⟩ := hp
        refine ⟨rfl, ?_⟩
        refine ar_iconst (pc := 29) dX7_isFree_29 q_iconst_1 ?_
        refine ar_iadd (pc := 30) dX7_isFree_30 ?_
        refine ar_iald (pc := 31) dX7_isFree_31 rfl (show p + 20 + 5 * k + 1 < 120 by omega) (nI_add _ 1) ?_
        rw [roP R (show k < n by omega), eo, pm_nI (by omega)]
        refine ar_istore (pc := 32) dX7_isFree_32 (Nat.le_of_ble_eq_true rfl) rfl ?_
        refine ar_iload (pc := 34) dX7_isFree_34 rfl ?_
        refine ar_iload_n (i := 2) (pc := 36) dX7_isFree_36 rfl rfl ?_
        refine ar_icmp_ge (pc := 37) (tgt := 47) dX7_isFree_37 (by decide) (fun c37 => ?_) (fun c37 => ?_)
        · refine ar_iload (pc := 47) dX7_isFree_47 rfl ?_
          refine ar_iload_n (i := 2) (pc := 49) dX7_isFree_49 rfl rfl ?_
          refine ar_isub (pc := 50) dX7_isFree_50 ?_
          rw [fr_s2 ho hj c37]
          refine ar_istore (pc := 51) dX7_isFree_51 (Nat.le_of_ble_eq_true rfl) rfl ?_
          refine ar_iload_n (i := 3) (pc := 53) dX7_isFree_53 rfl rfl ?_
          refine ar_if_eq (pc := 54) (tgt := 84) dX7_isFree_54 (by decide) (fun c54 => absurd c54 (by decide)) (fun c54 => ?_)
          refine ar_iload (pc := 57) dX7_isFree_57 rfl ?_
          refine ar_if_lt (pc := 59) (tgt := 80) dX7_isFree_59 (by decide) (fun c59 => absurd c59 (nI_pos (by omega))) (fun c59 => ?_)
          refine ar_iload (pc := 62) dX7_isFree_62 rfl ?_
          refine ar_aload_n (i := 0) (pc := 64) dX7_isFree_64 rfl rfl ?_
          refine ar_getf (pc := 65) dX7_isFree_65 fX7_7 rfl rfl ?_
          refine ar_iload_n (i := 1) (pc := 68) dX7_isFree_68 rfl rfl ?_
          refine ar_iconst (pc := 69) dX7_isFree_69 q_iconst_4 ?_
          refine ar_iadd (pc := 70) dX7_isFree_70 ?_
          refine ar_iald (pc := 71) dX7_isFree_71 rfl (show p + 4 < 120 by omega) (nI_add p 4) ?_
          rw [roS R 4 (by omega)]
          refine ar_icmp_le (pc := 72) (tgt := 84) dX7_isFree_72 (by decide) (fun c72 => ?_) (fun c72 => ?_)
          · refine ar_iconst (pc := 84) dX7_isFree_84 q_iconst_0 ?_
            refine ar_istore_n (i := 3) (pc := 85) dX7_isFree_85 rfl (Nat.le_of_ble_eq_true rfl) rfl ?_
            refine ar_iinc (pc := 86) dX7_isFree_86 rfl (ni_inc _) (Nat.le_of_ble_eq_true rfl) rfl ?_
            refine ar_goto (tgt := 5) (pc := 89) dX7_isFree_89 (by decide) ?_
            exact ih (k + 1) 0 _ _ (by omega) (Or.inr ⟨rfl, fr_n2 (by rw [eo]; exact nI_m6 (by omega)) (fun z => absurd z.1 (by rw [eo, ix_nI (by omega)]; exact Int32.not_lt.mpr c72))⟩)
          · refine ar_iload (pc := 75) dX7_isFree_75 rfl ?_
            refine ar_if_le (pc := 77) (tgt := 84) dX7_isFree_77 (by decide) (fun c77 => ?_) (fun c77 => ?_)
            · refine ar_iconst (pc := 84) dX7_isFree_84 q_iconst_0 ?_
              refine ar_istore_n (i := 3) (pc := 85) dX7_isFree_85 rfl (Nat.le_of_ble_eq_true rfl) rfl ?_
              refine ar_iinc (pc := 86) dX7_isFree_86 rfl (ni_inc _) (Nat.le_of_ble_eq_true rfl) rfl ?_
              refine ar_goto (tgt := 5) (pc := 89) dX7_isFree_89 (by decide) ?_
              exact ih (k + 1) 0 _ _ (by omega) (Or.inr ⟨rfl, fr_n2 (by rw [eo]; exact nI_m6 (by omega)) (fun z => absurd z.2 (by rw [eo, ix_nI (by omega)]; exact Int32.not_lt.mpr c77))⟩)
            · refine ar_iconst (pc := 80) dX7_isFree_80 q_iconst_1 ?_
              refine ar_goto (tgt := 85) (pc := 81) dX7_isFree_81 (by decide) ?_
              refine ar_istore_n (i := 3) (pc := 85) dX7_isFree_85 rfl (Nat.le_of_ble_eq_true rfl) rfl ?_
              refine ar_iinc (pc := 86) dX7_isFree_86 rfl (ni_inc _) (Nat.le_of_ble_eq_true rfl) rfl ?_
              refine ar_goto (tgt := 5) (pc := 89) dX7_isFree_89 (by decide) ?_
              exact ih (k + 1) 1 _ _ (by omega) (Or.inl ⟨rfl, fr_y hI (fun _ => by rw [eo, ix_nI (by omega)]; exact ⟨Int32.not_le.mp c72, Int32.not_le.mp c77⟩)⟩)
        · refine ar_iload_n (i := 2) (pc := 40) dX7_isFree_40 rfl rfl ?_
          refine ar_iload (pc := 41) dX7_isFree_41 rfl ?_
          refine ar_isub (pc := 43) dX7_isFree_43 ?_
          rw [fr_s1 ho hj c37]
          refine ar_goto (tgt := 51) (pc := 44) dX7_isFree_44 (by decide) ?_
          refine ar_istore (pc := 51) dX7_isFree_51 (Nat.le_of_ble_eq_true rfl) rfl ?_
          refine ar_iload_n (i := 3) (pc := 53) dX7_isFree_53 rfl rfl ?_
          refine ar_if_eq (pc := 54) (tgt := 84) dX7_isFree_54 (by decide) (fun c54 => absurd c54 (by decide)) (fun c54 => ?_)
          refine ar_iload (pc := 57) dX7_isFree_57 rfl ?_
          refine ar_if_lt (pc := 59) (tgt := 80) dX7_isFree_59 (by decide) (fun c59 => absurd c59 (nI_pos (by omega))) (fun c59 => ?_)
          refine ar_iload (pc := 62) dX7_isFree_62 rfl ?_
          refine ar_aload_n (i := 0) (pc := 64) dX7_isFree_64 rfl rfl ?_
          refine ar_getf (pc := 65) dX7_isFree_65 fX7_7 rfl rfl ?_
          refine ar_iload_n (i := 1) (pc := 68) dX7_isFree_68 rfl rfl ?_
          refine ar_iconst (pc := 69) dX7_isFree_69 q_iconst_4 ?_
          refine ar_iadd (pc := 70) dX7_isFree_70 ?_
          refine ar_iald (pc := 71) dX7_isFree_71 rfl (show p + 4 < 120 by omega) (nI_add p 4) ?_
          rw [roS R 4 (by omega)]
          refine ar_icmp_le (pc := 72) (tgt := 84) dX7_isFree_72 (by decide) (fun c72 => ?_) (fun c72 => ?_)
          · refine ar_iconst (pc := 84) dX7_isFree_84 q_iconst_0 ?_
            refine ar_istore_n (i := 3) (pc := 85) dX7_isFree_85 rfl (Nat.le_of_ble_eq_true rfl) rfl ?_
            refine ar_iinc (pc := 86) dX7_isFree_86 rfl (ni_inc _) (Nat.le_of_ble_eq_true rfl) rfl ?_
            refine ar_goto (tgt := 5) (pc := 89) dX7_isFree_89 (by decide) ?_
            exact ih (k + 1) 0 _ _ (by omega) (Or.inr ⟨rfl, fr_n2 (by rw [eo]; exact nI_m6 (by omega)) (fun z => absurd z.1 (by rw [eo, ix_nI (by omega)]; exact Int32.not_lt.mpr c72))⟩)
          · refine ar_iload (pc := 75) dX7_isFree_75 rfl ?_
            refine ar_if_le (pc := 77) (tgt := 84) dX7_isFree_77 (by decide) (fun c77 => ?_) (fun c77 => ?_)
            · refine ar_iconst (pc := 84) dX7_isFree_84 q_iconst_0 ?_
              refine ar_istore_n (i := 3) (pc := 85) dX7_isFree_85 rfl (Nat.le_of_ble_eq_true rfl) rfl ?_
              refine ar_iinc (pc := 86) dX7_isFree_86 rfl (ni_inc _) (Nat.le_of_ble_eq_true rfl) rfl ?_
              refine ar_goto (tgt := 5) (pc := 89) dX7_isFree_89 (by decide) ?_
              exact ih (k + 1) 0 _ _ (by omega) (Or.inr ⟨rfl, fr_n2 (by rw [eo]; exact nI_m6 (by omega)) (fun z => absurd z.2 (by rw [eo, ix_nI (by omega)]; exact Int32.not_lt.mpr c77))⟩)
            · refine ar_iconst (pc := 80) dX7_isFree_80 q_iconst_1 ?_
              refine ar_goto (tgt := 85) (pc := 81) dX7_isFree_81 (by decide) ?_
              refine ar_istore_n (i := 3) (pc := 85) dX7_isFree_85 rfl (Nat.le_of_ble_eq_true rfl) rfl ?_
              refine ar_iinc (pc := 86) dX7_isFree_86 rfl (ni_inc _) (Nat.le_of_ble_eq_true rfl) rfl ?_
              refine ar_goto (tgt := 5) (pc := 89) dX7_isFree_89 (by decide) ?_
              exact ih (k + 1) 1 _ _ (by omega) (Or.inl ⟨rfl, fr_y hI (fun _ => by rw [eo, ix_nI (by omega)]; exact ⟨Int32.not_le.mp c72, Int32.not_le.mp c77⟩)⟩)
      · refine ar_iload (pc := 5) dX7_isFree_5 rfl ?_
        refine ar_aload_n (i := 0) (pc := 7) dX7_isFree_7 rfl rfl ?_
        refine ar_getf (pc := 8) dX7_isFree_8 fX7_7 rfl rfl ?_
        refine ar_iload_n (i := 1) (pc := 11) dX7_isFree_11 rfl rfl ?_
        refine ar_bipush (pc := 12) dX7_isFree_12 q_bipush_7 ?_
        refine ar_iadd (pc := 14) dX7_isFree_14 ?_
        refine ar_iald (pc := 15) dX7_isFree_15 rfl (show p + 7 < 120 by omega) (nI_add p 7) ?_
        rw [roN R]
        refine ar_icmp_ge (pc := 16) (tgt := 92) dX7_isFree_16 (by decide) (fun c16 => absurd ((nI_leI (by omega) (by omega)).mp c16) (by omega)) (fun c16 => ?_)
        refine ar_aload_n (i := 0) (pc := 19) dX7_isFree_19 rfl rfl ?_
        refine ar_getf (pc := 20) dX7_isFree_20 fX7_7 rfl rfl ?_
        refine ar_iload_n (i := 1) (pc := 23) dX7_isFree_23 rfl rfl ?_
        refine ar_iload (pc := 24) dX7_isFree_24 rfl ?_
        refine ar_idS (pc := 26) dX7_isFree_26 cal_X7_at kX7_36 rfl (sX7_at (md_H q) p k) rfl rfl rfl rfl rfl (fun r h1 hp => ?_)
        obtain ⟨rfl, rfl⟩ := hp
        refine ⟨rfl, ?_⟩
        refine ar_iconst (pc := 29) dX7_isFree_29 q_iconst_1 ?_
        refine ar_iadd (pc := 30) dX7_isFree_30 ?_
        refine ar_iald (pc := 31) dX7_isFree_31 rfl (show p + 20 + 5 * k + 1 < 120 by omega) (nI_add _ 1) ?_
        rw [roP R (show k < n by omega), eo, pm_nI (by omega)]
        refine ar_istore (pc := 32) dX7_isFree_32 (Nat.le_of_ble_eq_true rfl) rfl ?_
        refine ar_iload (pc := 34) dX7_isFree_34 rfl ?_
        refine ar_iload_n (i := 2) (pc := 36) dX7_isFree_36 rfl rfl ?_
        refine ar_icmp_ge (pc := 37) (tgt := 47) dX7_isFree_37 (by decide) (fun c37 => ?_) (fun c37 => ?_)
        · refine ar_iload (pc := 47) dX7_isFree_47 rfl ?_
          refine ar_iload_n (i := 2) (pc := 49) dX7_isFree_49 rfl rfl ?_
          refine ar_isub (pc := 50) dX7_isFree_50 ?_
          rw [fr_s2 ho hj c37]
          refine ar_istore (pc := 51) dX7_isFree_51 (Nat.le_of_ble_eq_true rfl) rfl ?_
          refine ar_iload_n (i := 3) (pc := 53) dX7_isFree_53 rfl rfl ?_
          refine ar_if_eq (pc := 54) (tgt := 84) dX7_isFree_54 (by decide) (fun c54 => ?_) (fun c54 => absurd rfl c54)
          refine ar_iconst (pc := 84) dX7_isFree_84 q_iconst_0 ?_
          refine ar_istore_n (i := 3) (pc := 85) dX7_isFree_85 rfl (Nat.le_of_ble_eq_true rfl) rfl ?_
          refine ar_iinc (pc := 86) dX7_isFree_86 rfl (ni_inc _) (Nat.le_of_ble_eq_true rfl) rfl ?_
          refine ar_goto (tgt := 5) (pc := 89) dX7_isFree_89 (by decide) ?_
          exact ih (k + 1) 0 _ _ (by omega) (Or.inr ⟨rfl, fr_n1 hI⟩)
        · refine ar_iload_n (i := 2) (pc := 40) dX7_isFree_40 rfl rfl ?_
          refine ar_iload (pc := 41) dX7_isFree_41 rfl ?_
          refine ar_isub (pc := 43) dX7_isFree_43 ?_
          rw [fr_s1 ho hj c37]
          refine ar_goto (tgt := 51) (pc := 44) dX7_isFree_44 (by decide) ?_
          refine ar_istore (pc := 51) dX7_isFree_51 (Nat.le_of_ble_eq_true rfl) rfl ?_
          refine ar_iload_n (i := 3) (pc := 53) dX7_isFree_53 rfl rfl ?_
          refine ar_if_eq (pc := 54) (tgt := 84) dX7_isFree_54 (by decide) (fun c54 => ?_) (fun c54 => absurd rfl c54)
          refine ar_iconst (pc := 84) dX7_isFree_84 q_iconst_0 ?_
          refine ar_istore_n (i := 3) (pc := 85) dX7_isFree_85 rfl (Nat.le_of_ble_eq_true rfl) rfl ?_
          refine ar_iinc (pc := 86) dX7_isFree_86 rfl (ni_inc _) (Nat.le_of_ble_eq_true rfl) rfl ?_
          refine ar_goto (tgt := 5) (pc := 89) dX7_isFree_89 (by decide) ?_
          exact ih (k + 1) 0 _ _ (by omega) (Or.inr ⟨rfl, fr_n1 hI⟩)
set_option maxHeartbeats 4000000 in
set_option maxRecDepth 100000 in
theorem sX7_isFree (q : RV) (p n : Nat) (hp : p ≤ 60) (w : SV) (R : ro_R p n w (rq_S q)) (h8 : n ≤ 8) (pl : pl_D w n) {j : Nat} (hj : j < 12) : am_Sp mX7_isFree [.ref 2, .int (nI p), .int (nI j)] (md_H q) (am_bp (fr_K w j n) (md_H q)) := by
  refine am_intro (by decide) (Nat.le_of_ble_eq_true rfl) ?_
  refine ar_iconst (pc := 0) dX7_isFree_0 q_iconst_1 ?_
  refine ar_istore_n (i := 3) (pc := 1) dX7_isFree_1 rfl (Nat.le_of_ble_eq_true rfl) rfl ?_
  refine ar_iconst (pc := 2) dX7_isFree_2 q_iconst_0 ?_
  refine ar_istore (pc := 3) dX7_isFree_3 (Nat.le_of_ble_eq_true rfl) rfl ?_
  rw [← nI_0]
  exact lX7_isFree_5 _ q p n hp w R h8 pl hj n 0 1 _ _ (by omega) (Or.inl ⟨rfl, fun i hi => absurd hi (Nat.not_lt_zero i)⟩)

theorem sX7_isFree0 (q : RV) (n : Nat) (w : SV) (R : ro_R 0 n w (rq_S q)) (h8 : n ≤ 8) (pl : pl_D w n) {j : Nat} (hj : j < 12) : am_Sp mX7_isFree [.ref 2, .int 0, .int (nI j)] (md_H q) (am_bp (fr_K w j n) (md_H q)) := by
  have := sX7_isFree q 0 n (by omega) w R h8 pl hj
  rw [nI_0] at this
  exact this
theorem sX7_crowds0 (q : RV) (n : Nat) (w : SV) (R : ro_R 0 n w (rq_S q)) (h8 : n ≤ 8) (D : di_D w n) : am_Sp mX7_crowds [.ref 2, .int 0] (md_H q) (cw_P q w n) := by
  have := sX7_crowds q 0 n (by omega) w R h8 D
  rw [nI_0] at this
  exact this
theorem sX7_crowdAt0 (q : RV) (n : Nat) (w : SV) (R : ro_R 0 n w (rq_S q)) (h8 : n ≤ 8) {b : Nat} (hb : b < n) {j : Nat} (hj : j < 12) (D : di_D (uP w (upd (vP w) b (nI j))) n) : am_Sp mX7_crowdAt [.ref 2, .int 0, .int (nI b), .int (nI j)] (md_H q) (ca_P q w n b j) := by
  have := sX7_crowdAt q 0 n (by omega) w R h8 hb hj D
  rw [nI_0] at this
  exact this
def lc_N (a : Nat) : Nat := (a * 1103515245 + 12345) % 2147483648
theorem lc_lt (a : Nat) : lc_N a < 2147483648 := Nat.mod_lt _ (by decide)
theorem lc_e {a : Nat} (h : a < 2147483648) : lcg (lN a) = lN (lc_N a) := by
  unfold lcg lc_N
  rw [show (1103515245 : Int64) = lN 1103515245 by decide +kernel, show (12345 : Int64) = lN 12345 by decide +kernel, show (2147483648 : Int64) = lN 2147483648 by decide +kernel, lN_mul, lN_add]
  exact pk_lRem (by omega) (by omega) (by omega)
theorem dr_e {a m : Nat} (h : a < 2147483648) (h0 : 0 < m) (hm : m < 2147483648) : drw (lN a) m = nI (lc_N a / 65536 % m) := by
  unfold drw
  have := lc_lt a
  rw [lc_e h, nI_l (by omega), show (65536 : Int64) = lN 65536 by decide +kernel, pk_lDiv (by omega) (by omega) (by omega), pk_lRem (by omega) h0 (by omega), lN_i]
/-- the number drawn with stays in its range -/
def xr_D (x : Int64) : Prop := ∃ a, a < 2147483648 ∧ x = lN a
theorem xr_l {x : Int64} (h : xr_D x) : xr_D (lcg x) := by
  obtain ⟨a, ha, rfl⟩ := h
  exact ⟨lc_N a, lc_lt a, lc_e ha⟩
theorem dr_lt {x : Int64} (h : xr_D x) {m : Nat} (h0 : 0 < m) (hm : m < 2147483648) : ∃ o, o < m ∧ drw x m = nI o := by
  obtain ⟨a, ha, rfl⟩ := h
  exact ⟨_, Nat.mod_lt _ h0, dr_e ha h0 hm⟩
set_option maxHeartbeats 4000000 in
set_option maxRecDepth 100000 in
theorem sX7_draws (q : RV) (p n : Nat) (hp : p ≤ 60) (w : SV) (R : ro_R p n w (rq_S q)) (h8 : n ≤ 8) (hx : xr_D (vX w)) {m : Nat} (h0 : 0 < m) (hm : m < 2147483648) : am_Sp mX7_draws [.ref 2, .int (nI p), .int (nI m)] (md_H q) (am_rp (drw (vX w) m) (md_H (ru_S q (upd (rq_S q) (p + 6) (lcg (vX w)).toInt32)))) := by
  refine am_intro (by decide) (Nat.le_of_ble_eq_true rfl) ?_
  refine ar_aload_n (i := 0) (pc := 0) dX7_draws_0 rfl rfl ?_
  refine ar_getf (pc := 1) dX7_draws_1 fX7_7 rfl rfl ?_
  refine ar_iload_n (i := 1) (pc := 4) dX7_draws_4 rfl rfl ?_
  refine ar_bipush (pc := 5) dX7_draws_5 q_bipush_6 ?_
  refine ar_iadd (pc := 7) dX7_draws_7 ?_
  refine ar_aload_n (i := 0) (pc := 8) dX7_draws_8 rfl rfl ?_
  refine ar_getf (pc := 9) dX7_draws_9 fX7_7 rfl rfl ?_
  refine ar_iload_n (i := 1) (pc := 12) dX7_draws_12 rfl rfl ?_
  refine ar_bipush (pc := 13) dX7_draws_13 q_bipush_6 ?_
  refine ar_iadd (pc := 15) dX7_draws_15 ?_
  refine ar_iald (pc := 16) dX7_draws_16 rfl (show p + 6 < 120 by omega) (nI_add p 6) ?_
  obtain ⟨a, ha, ea⟩ := hx
  rw [roX R, ea, lN_i]
  refine ar_i2l (pc := 17) dX7_draws_17 ?_
  rw [nI_l (by omega)]
  refine ar_ldc2 (pc := 18) dX7_draws_18 cX7_57 ?_
  refine ar_lmul (pc := 21) dX7_draws_21 ?_
  refine ar_ldc2 (pc := 22) dX7_draws_22 cX7_59 ?_
  refine ar_ladd (pc := 25) dX7_draws_25 ?_
  refine ar_ldc2 (pc := 26) dX7_draws_26 cX7_61 ?_
  refine ar_lrem (pc := 29) dX7_draws_29 (by decide +kernel) ?_
  rw [show lN a * 1103515245 + 12345 - (lN a * 1103515245 + 12345) / 2147483648 * 2147483648 = lcg (lN a) from rfl]
  refine ar_l2i (pc := 30) dX7_draws_30 ?_
  refine ar_iast (pc := 31) dX7_draws_31 rfl (show p + 6 < 120 by omega) (nI_add p 6) ?_
  rw [md_S]
  refine ar_aload_n (i := 0) (pc := 32) dX7_draws_32 rfl rfl ?_
  refine ar_getf (pc := 33) dX7_draws_33 fX7_7 rfl rfl ?_
  refine ar_iload_n (i := 1) (pc := 36) dX7_draws_36 rfl rfl ?_
  refine ar_bipush (pc := 37) dX7_draws_37 q_bipush_6 ?_
  refine ar_iadd (pc := 39) dX7_draws_39 ?_
  refine ar_iald (pc := 40) dX7_draws_40 rfl (show p + 6 < 120 by omega) (nI_add p 6) ?_
  rw [rq_SS, pk_us, show (lcg (lN a)).toInt32 = nI (lc_N a) by rw [lc_e ha, lN_i]]
  have hl := lc_lt a
  refine ar_ldc (pc := 41) dX7_draws_41 cX7_63 ?_
  refine ar_idiv (pc := 43) dX7_draws_43 (by decide +kernel) ?_
  refine ar_iload_n (i := 2) (pc := 44) dX7_draws_44 rfl rfl ?_
  refine ar_irem (pc := 45) dX7_draws_45 (nI_ne0 h0 (by omega)) ?_
  exact ar_iret (pc := 46) dX7_draws_46 rfl rfl rfl ⟨by rw [dr_e ha h0 hm, show (65536 : Int32) = nI 65536 by decide +kernel, pk_div (by omega) (by omega) (by omega), pk_rem (by omega) h0 (by omega)], rfl⟩

