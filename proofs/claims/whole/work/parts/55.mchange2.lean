/-! the reference changed: go, undo, save, restore -/
theorem sX7_its2 (q : RV) {k : Nat} (hk : k < 8) : am_Sp mX7_its [.ref 2, .int (nI k), .int 2] (md_H q) (am_rp (rq_S q (20 + 5 * k + 2)) (md_H q)) := by
  have := sX7_its q hk (c := 2) (by decide)
  rw [show nI 2 = (2 : Int32) from rfl] at this
  exact this
def gs_F (s : Nat → Int32) (a i : Nat) : Nat → Int32 := fun t => if a ≤ t ∧ t < i then s (t + 5) else s t
theorem gs_0 (s : Nat → Int32) (a : Nat) : gs_F s a a = s := by
  funext t
  rw [gs_F, if_neg (by omega)]
theorem gs_s (s : Nat → Int32) {a i : Nat} (h : a ≤ i) : upd (gs_F s a i) i (gs_F s a i (i + 5)) = gs_F s a (i + 1) := by
  funext t
  by_cases e : t = i
  · subst e
    rw [pk_us, gs_F, gs_F, if_neg (by omega), if_pos (by omega)]
  · rw [pk_un e, gs_F, gs_F]
    by_cases c : a ≤ t ∧ t < i
    · rw [if_pos c, if_pos (by omega)]
    · rw [if_neg c, if_neg (by omega)]
def rl_f (x : Int32) (j : Nat) : Int32 := if x = nI j then -1 else if nI j < x then x - 1 else x
def rl_F (s : Nat → Int32) (j i : Nat) : Nat → Int32 := fun t => if 12 ≤ t ∧ t < i then rl_f (s t) j else s t
theorem rl_0 (s : Nat → Int32) (j : Nat) : rl_F s j 12 = s := by
  funext t
  rw [rl_F, if_neg (by omega)]
theorem rl_s (s : Nat → Int32) {j i : Nat} (h : 12 ≤ i) : upd (rl_F s j i) i (rl_f (s i) j) = rl_F s j (i + 1) := by
  funext t
  by_cases e : t = i
  · subst e
    rw [pk_us, rl_F, if_pos (by omega)]
  · rw [pk_un e, rl_F, rl_F]
    by_cases c : 12 ≤ t ∧ t < i
    · rw [if_pos c, if_pos (by omega)]
    · rw [if_neg c, if_neg (by omega)]
theorem rl_at (s : Nat → Int32) (j i : Nat) : rl_F s j i i = s i := by rw [rl_F, if_neg (by omega)]
theorem pm_rl {L : Nat → Int32} {n j k : Nat} (h8 : n ≤ 8) (hj : j < 8) (h : L k = -6 ∨ ∃ b, b < n ∧ L k = nI b) : rl_f (pm_ (L k)) j = pm_ (rmL L j k) := by
  rcases h with h | ⟨b, hb, h⟩
  · rw [rm_L6 hj h, h, pm_6, rl_f, if_neg, if_neg]
    · intro z
      rw [Int32.lt_iff_toInt_lt, ti_m1, nI_toInt (by omega)] at z
      omega
    · intro z
      have := congrArg Int32.toInt z
      rw [ti_m1, nI_toInt (by omega)] at this
      omega
  · rw [rm_Lb hj (by omega) h, h, pm_nI (by omega), rl_f]
    by_cases e : b = j
    · subst e; rw [if_pos rfl, if_pos rfl, pm_6]
    · rw [if_neg e, if_neg (fun z => e ((nI_eq (by omega) (by omega)).mp z))]
      by_cases e2 : j < b
      · rw [if_pos e2, if_pos ((nI_ltI (by omega) (by omega)).mpr e2), pm_nI (by omega)]
        obtain ⟨c, rfl⟩ : ∃ c, b = c + 1 := ⟨b - 1, by omega⟩
        exact nI_pred c
      · rw [if_neg e2, if_neg (fun z => e2 ((nI_ltI (by omega) (by omega)).mp z)), pm_nI (by omega)]
theorem ro_go {e j : Nat} {v : SV} {s : Nat → Int32} (R : ro_R 0 (e + 1) v s) (h8 : e + 1 ≤ 8) (hj : j < e + 1) (lo : ∀ k, k < 8 → vL v k = -6 ∨ ∃ b, b < e + 1 ∧ vL v k = nI b) : ro_R 0 e (rmB v (e + 1) j) (rl_F (gs_F (upd s 7 (nI e)) (20 + 5 * j) (20 + 5 * e)) j 20) := by
  obtain ⟨g1, g2, g3, g4, g5, gH, gP, gL, gT, gF, gI, gRa, gTa⟩ := rm_1 v (e + 1) j
  obtain ⟨a1, a2, a3, a4, a5, a6, a7, a8, a9⟩ := R
  have lo12 : ∀ t, t < 12 → t ≠ 7 → rl_F (gs_F (upd s 7 (nI e)) (20 + 5 * j) (20 + 5 * e)) j 20 t = s t := fun t h1 h2 => by
    rw [rl_F, if_neg (by omega), gs_F, if_neg (by omega), pk_un h2]
  have hi : ∀ k c, k < e → c < 5 → rl_F (gs_F (upd s 7 (nI e)) (20 + 5 * j) (20 + 5 * e)) j 20 (0 + 20 + 5 * k + c) = s (0 + 20 + 5 * (sh_N j k) + c) := fun k c hk hc => by
    rw [rl_F, if_neg (by omega), gs_F]
    unfold sh_N
    by_cases x : j ≤ k ∧ k < 7
    · rw [if_pos x, if_pos (by omega), pk_un (by omega)]
      exact congrArg s (by omega)
    · rw [if_neg x, if_neg (by omega), pk_un (by omega)]
  refine ⟨fun k hk => ?_, ?_, ?_, ?_, ?_, ?_, ?_, fun k hk => ?_, fun k hk => ?_⟩
  · rw [lo12 _ (by omega) (by omega), g1]; exact a1 k hk
  · rw [lo12 _ (by omega) (by omega), g2]; exact a2
  · rw [rl_F, if_neg (by omega), gs_F, if_neg (by omega)]; exact pk_us
  · rw [lo12 _ (by omega) (by omega), g4]; exact a4
  · rw [lo12 _ (by omega) (by omega), g3]; exact a5
  · rw [lo12 _ (by omega) (by omega), gRa]; exact a6
  · rw [lo12 _ (by omega) (by omega), gTa]; exact a7
  · rw [rl_F, if_pos (by omega), gs_F, if_neg (by omega), pk_un (by omega), a8 k hk, gL]
    exact pm_rl h8 (by omega) (lo k hk)
  · have hs : sh_N j k < e + 1 := sh_lt h8 hj (by omega)
    obtain ⟨b1, b2, b3, b4, b5⟩ := a9 (sh_N j k) hs
    have h0 := hi k 0 hk (by omega)
    rw [gH, gP, gT, gF, gI, cl_sh, cl_sh, cl_sh, cl_sh, cl_sh, hi k 1 hk (by omega), hi k 2 hk (by omega), hi k 3 hk (by omega), hi k 4 hk (by omega)]
    exact ⟨h0.trans b1, b2, b3, b4, b5⟩
set_option maxHeartbeats 4000000 in
set_option maxRecDepth 100000 in
theorem sX7_go_n (q : RV) (z : PV) (M : mr_R z q) (n : Nat) (K : ok_D (pN z) n) (R : ro_R 0 n (pN z) (rq_S q)) (b : Int32) (hb : ¬ bkP n b) : am_Sp mX7_go [.ref 2, .int b] (md_H q) (qq_P (-1) (z)) := by
  refine am_intro (by decide) (Nat.le_of_ble_eq_true rfl) ?_
  refine ar_aload_n (i := 0) (pc := 0) dX7_go_0 rfl rfl ?_
  refine ar_iload_n (i := 1) (pc := 1) dX7_go_1 rfl rfl ?_
  refine ar_idV (pc := 2) dX7_go_2 cal_X7_isBooth kX7_100 rfl (sX7_isBooth q n (show rq_S q 7 = nI n by have h := roN R; rw [Nat.zero_add] at h; exact h) K.2.1.1 _) rfl rfl rfl rfl rfl rfl rfl (fun r h1 hp => ?_)
  obtain ⟨⟨h2, rfl⟩ | ⟨h2, rfl⟩, rfl⟩ := hp
  · refine ⟨rfl, ?_⟩
    refine ar_if_ne (pc := 5) (tgt := 10) dX7_go_5 (by decide) (fun c5 => ?_) (fun c5 => absurd c5 (by decide))
    exact absurd h2 hb
  · refine ⟨rfl, ?_⟩
    refine ar_if_ne (pc := 5) (tgt := 10) dX7_go_5 (by decide) (fun c5 => absurd c5 (by decide)) (fun c5 => ?_)
    refine ar_iconst (pc := 8) dX7_go_8 q_iconst_m1 ?_
    exact ar_iret (pc := 9) dX7_go_9 rfl rfl rfl ⟨rfl, q, rfl, M⟩

theorem ar_hs {M : am_M} {h0 : am_H} {P : Option Value → am_H → Prop} {kc ks pc : Nat} {L : List (Option Value)} {S : List Value} {h : am_H} {x y : Int32} (e : x = y) (k : am_RW M h0 P kc ks pc L (.int y :: S) h) : am_RW M h0 P kc ks pc L (.int x :: S) h := e ▸ k
set_option maxHeartbeats 4000000 in
set_option maxRecDepth 100000 in
theorem lX7_go_76 (h0 : am_H) (P : Option Value → am_H → Prop) (Q : RV) (j : Nat) (br : Int32) (s2 : Nat → Int32) (hP : P (some (.int br)) (md_H (ru_S Q (rl_F s2 j 20)))) : ∀ (d i : Nat), i + d = 20 → 12 ≤ i → am_RW mX7_go h0 P 0 0 76 [some (.ref 2), some (.int (nI j)), some (.int br), some (.int (nI i))] [] (md_H (ru_S Q (rl_F s2 j i))) := by
  intro d
  induction d with
  | zero =>
    intro i hi h12
    have e : i = 20 := by omega
    subst e
    refine ar_iload_n (i := 3) (pc := 76) dX7_go_76 rfl rfl ?_
    refine ar_bipush (pc := 77) dX7_go_77 q_bipush_20 ?_
    refine ar_icmp_ge (pc := 79) (tgt := 135) dX7_go_79 (by decide) (fun c79 => ?_) (fun c79 => absurd (by decide +kernel) c79)
    refine ar_iload_n (i := 2) (pc := 135) dX7_go_135 rfl rfl ?_
    exact ar_iret (pc := 136) dX7_go_136 rfl rfl rfl hP
  | succ d ih =>
    intro i hi h12
    refine ar_iload_n (i := 3) (pc := 76) dX7_go_76 rfl rfl ?_
    refine ar_bipush (pc := 77) dX7_go_77 q_bipush_20 ?_
    refine ar_icmp_ge (pc := 79) (tgt := 135) dX7_go_79 (by decide) (fun c79 => absurd ((nI_leI (a := 20) (b := i) (by omega) (by omega)).mp c79) (by omega)) (fun c79 => ?_)
    refine ar_aload_n (i := 0) (pc := 82) dX7_go_82 rfl rfl ?_
    refine ar_getf (pc := 83) dX7_go_83 fX7_7 rfl rfl ?_
    refine ar_iload_n (i := 3) (pc := 86) dX7_go_86 rfl rfl ?_
    refine ar_aload_n (i := 0) (pc := 87) dX7_go_87 rfl rfl ?_
    refine ar_getf (pc := 88) dX7_go_88 fX7_7 rfl rfl ?_
    refine ar_iload_n (i := 3) (pc := 91) dX7_go_91 rfl rfl ?_
    refine ar_iald (pc := 92) dX7_go_92 rfl (show i < 120 by omega) rfl ?_
    rw [rq_SS, rl_at]
    refine ar_iload_n (i := 1) (pc := 93) dX7_go_93 rfl rfl ?_
    refine ar_icmp_ne (pc := 94) (tgt := 101) dX7_go_94 (by decide) (fun c94 => ?_) (fun c94 => ?_)
    · refine ar_aload_n (i := 0) (pc := 101) dX7_go_101 rfl rfl ?_
      refine ar_getf (pc := 102) dX7_go_102 fX7_7 rfl rfl ?_
      refine ar_iload_n (i := 3) (pc := 105) dX7_go_105 rfl rfl ?_
      refine ar_iald (pc := 106) dX7_go_106 rfl (show i < 120 by omega) rfl ?_
      rw [rq_SS, rl_at]
      refine ar_iload_n (i := 1) (pc := 107) dX7_go_107 rfl rfl ?_
      refine ar_icmp_le (pc := 108) (tgt := 122) dX7_go_108 (by decide) (fun c108 => ?_) (fun c108 => ?_)
      · refine ar_aload_n (i := 0) (pc := 122) dX7_go_122 rfl rfl ?_
        refine ar_getf (pc := 123) dX7_go_123 fX7_7 rfl rfl ?_
        refine ar_iload_n (i := 3) (pc := 126) dX7_go_126 rfl rfl ?_
        refine ar_iald (pc := 127) dX7_go_127 rfl (show i < 120 by omega) rfl ?_
        rw [rq_SS, rl_at]
        refine ar_hs (show s2 i = rl_f (s2 i) j by rw [rl_f, if_neg c94, if_neg (Int32.not_lt.mpr c108)]) ?_
        refine ar_iast (pc := 128) dX7_go_128 rfl (show i < 120 by omega) rfl ?_
        rw [md_S, ru_SS, rq_SS, rl_s s2 h12]
        refine ar_iinc (pc := 129) dX7_go_129 rfl (ni_inc _) (Nat.le_of_ble_eq_true rfl) rfl ?_
        refine ar_goto (tgt := 76) (pc := 132) dX7_go_132 (by decide) ?_
        exact ih (i + 1) (by omega) (by omega)
      · refine ar_aload_n (i := 0) (pc := 111) dX7_go_111 rfl rfl ?_
        refine ar_getf (pc := 112) dX7_go_112 fX7_7 rfl rfl ?_
        refine ar_iload_n (i := 3) (pc := 115) dX7_go_115 rfl rfl ?_
        refine ar_iald (pc := 116) dX7_go_116 rfl (show i < 120 by omega) rfl ?_
        rw [rq_SS, rl_at]
        refine ar_iconst (pc := 117) dX7_go_117 q_iconst_1 ?_
        refine ar_isub (pc := 118) dX7_go_118 ?_
        refine ar_goto (tgt := 128) (pc := 119) dX7_go_119 (by decide) ?_
        rw [show s2 i - 1 = rl_f (s2 i) j by rw [rl_f, if_neg c94, if_pos (Int32.not_le.mp c108)]]
        refine ar_iast (pc := 128) dX7_go_128 rfl (show i < 120 by omega) rfl ?_
        rw [md_S, ru_SS, rq_SS, rl_s s2 h12]
        refine ar_iinc (pc := 129) dX7_go_129 rfl (ni_inc _) (Nat.le_of_ble_eq_true rfl) rfl ?_
        refine ar_goto (tgt := 76) (pc := 132) dX7_go_132 (by decide) ?_
        exact ih (i + 1) (by omega) (by omega)
    · refine ar_iconst (pc := 97) dX7_go_97 q_iconst_m1 ?_
      refine ar_goto (tgt := 128) (pc := 98) dX7_go_98 (by decide) ?_
      rw [show (-1 : Int32) = rl_f (s2 i) j by rw [rl_f, if_pos c94]]
      refine ar_iast (pc := 128) dX7_go_128 rfl (show i < 120 by omega) rfl ?_
      rw [md_S, ru_SS, rq_SS, rl_s s2 h12]
      refine ar_iinc (pc := 129) dX7_go_129 rfl (ni_inc _) (Nat.le_of_ble_eq_true rfl) rfl ?_
      refine ar_goto (tgt := 76) (pc := 132) dX7_go_132 (by decide) ?_
      exact ih (i + 1) (by omega) (by omega)
set_option maxHeartbeats 4000000 in
set_option maxRecDepth 100000 in
theorem lX7_go_38 (h0 : am_H) (P : Option Value → am_H → Prop) (Q : RV) (e j : Nat) (h8 : e + 1 ≤ 8) (hj : j < e + 1) (br : Int32) (hP : P (some (.int br)) (md_H (ru_S Q (rl_F (gs_F (upd (rq_S Q) 7 (nI e)) (20 + 5 * j) (20 + 5 * e)) j 20)))) : ∀ (d i : Nat), i + d = 20 + 5 * e → 20 + 5 * j ≤ i → am_RW mX7_go h0 P 0 0 38 [some (.ref 2), some (.int (nI j)), some (.int br), some (.int (nI i))] [] (md_H (ru_S Q (gs_F (upd (rq_S Q) 7 (nI e)) (20 + 5 * j) i))) := by
  intro d
  induction d with
  | zero =>
    intro i hi h12
    have ei : i = 20 + 5 * e := by omega
    subst ei
    have e7 : (gs_F (upd (rq_S Q) 7 (nI e)) (20 + 5 * j) (20 + 5 * e)) 7 = nI e := by rw [gs_F, if_neg (by omega)]; exact pk_us
    refine ar_iload_n (i := 3) (pc := 38) dX7_go_38 rfl rfl ?_
    refine ar_iconst (pc := 39) dX7_go_39 q_iconst_0 ?_
    refine ar_aload_n (i := 0) (pc := 40) dX7_go_40 rfl rfl ?_
    refine ar_getf (pc := 41) dX7_go_41 fX7_7 rfl rfl ?_
    refine ar_bipush (pc := 44) dX7_go_44 q_bipush_7 ?_
    refine ar_iald (pc := 46) dX7_go_46 rfl (show 7 < 120 by decide) rfl ?_
    rw [rq_SS, e7]
    refine ar_idS (pc := 47) dX7_go_47 cal_X7_at kX7_36 rfl (sX7_at0 _ e) rfl rfl rfl rfl rfl (fun r h1 hp => ?_)
    obtain ⟨rfl, rfl⟩ := hp
    refine ⟨rfl, ?_⟩
    refine ar_icmp_ge (pc := 50) (tgt := 73) dX7_go_50 (by decide) (fun c50 => ?_) (fun c50 => absurd (Int32.le_refl _) c50)
    refine ar_bipush (pc := 73) dX7_go_73 q_bipush_12 ?_
    refine ar_istore_n (i := 3) (pc := 75) dX7_go_75 rfl (Nat.le_of_ble_eq_true rfl) rfl ?_
    have h := lX7_go_76 h0 P Q j br (gs_F (upd (rq_S Q) 7 (nI e)) (20 + 5 * j) (20 + 5 * e)) hP 8 12 (by omega) (by omega)
    rw [rl_0] at h
    exact h
  | succ d ih =>
    intro i hi h12
    have e7 : gs_F (upd (rq_S Q) 7 (nI e)) (20 + 5 * j) i 7 = nI e := by rw [gs_F, if_neg (by omega)]; exact pk_us
    refine ar_iload_n (i := 3) (pc := 38) dX7_go_38 rfl rfl ?_
    refine ar_iconst (pc := 39) dX7_go_39 q_iconst_0 ?_
    refine ar_aload_n (i := 0) (pc := 40) dX7_go_40 rfl rfl ?_
    refine ar_getf (pc := 41) dX7_go_41 fX7_7 rfl rfl ?_
    refine ar_bipush (pc := 44) dX7_go_44 q_bipush_7 ?_
    refine ar_iald (pc := 46) dX7_go_46 rfl (show 7 < 120 by decide) rfl ?_
    rw [rq_SS, e7]
    refine ar_idS (pc := 47) dX7_go_47 cal_X7_at kX7_36 rfl (sX7_at0 _ e) rfl rfl rfl rfl rfl (fun r h1 hp => ?_)
    obtain ⟨rfl, rfl⟩ := hp
    refine ⟨rfl, ?_⟩
    refine ar_icmp_ge (pc := 50) (tgt := 73) dX7_go_50 (by decide) (fun c50 => absurd ((nI_leI (by omega) (by omega)).mp c50) (by omega)) (fun c50 => ?_)
    refine ar_aload_n (i := 0) (pc := 53) dX7_go_53 rfl rfl ?_
    refine ar_getf (pc := 54) dX7_go_54 fX7_7 rfl rfl ?_
    refine ar_iload_n (i := 3) (pc := 57) dX7_go_57 rfl rfl ?_
    refine ar_aload_n (i := 0) (pc := 58) dX7_go_58 rfl rfl ?_
    refine ar_getf (pc := 59) dX7_go_59 fX7_7 rfl rfl ?_
    refine ar_iload_n (i := 3) (pc := 62) dX7_go_62 rfl rfl ?_
    refine ar_iconst (pc := 63) dX7_go_63 q_iconst_5 ?_
    refine ar_iadd (pc := 64) dX7_go_64 ?_
    refine ar_iald (pc := 65) dX7_go_65 rfl (show i + 5 < 120 by omega) (nI_add i 5) ?_
    refine ar_iast (pc := 66) dX7_go_66 rfl (show i < 120 by omega) rfl ?_
    rw [md_S, ru_SS, rq_SS, gs_s _ h12]
    refine ar_iinc (pc := 67) dX7_go_67 rfl (ni_inc _) (Nat.le_of_ble_eq_true rfl) rfl ?_
    refine ar_goto (tgt := 38) (pc := 70) dX7_go_70 (by decide) ?_
    exact ih (i + 1) (by omega) (by omega)
set_option maxHeartbeats 4000000 in
set_option maxRecDepth 100000 in
theorem sX7_go_s (q : RV) (z : PV) (M : mr_R z q) (n : Nat) (K : ok_D (pN z) n) (R : ro_R 0 n (pN z) (rq_S q)) {j : Nat} (hj : j < n) : am_Sp mX7_go [.ref 2, .int (nI j)] (md_H q) (qq_P (vT (pN z) j) (sN (rcZ z) (rmB (pN z) n j))) := by
  obtain ⟨e, rfl⟩ : ∃ e, n = e + 1 := ⟨n - 1, by omega⟩
  refine am_intro (by decide) (Nat.le_of_ble_eq_true rfl) ?_
  refine ar_aload_n (i := 0) (pc := 0) dX7_go_0 rfl rfl ?_
  refine ar_iload_n (i := 1) (pc := 1) dX7_go_1 rfl rfl ?_
  refine ar_idV (pc := 2) dX7_go_2 cal_X7_isBooth kX7_100 rfl (sX7_isBooth q _ (show rq_S q 7 = nI (e + 1) by have h := roN R; rw [Nat.zero_add] at h; exact h) K.2.1.1 _) rfl rfl rfl rfl rfl rfl rfl (fun r h1 hp => ?_)
  obtain ⟨⟨h2, rfl⟩ | ⟨h2, rfl⟩, rfl⟩ := hp
  · refine ⟨rfl, ?_⟩
    refine ar_if_ne (pc := 5) (tgt := 10) dX7_go_5 (by decide) (fun c5 => ?_) (fun c5 => absurd c5 (by decide))
    refine ar_aload_n (i := 0) (pc := 10) dX7_go_10 rfl rfl ?_
    refine ar_idV (pc := 11) dX7_go_11 cal_X7_remembers kX7_86 rfl (sX7_remembers q (pY z).2.2 M.2.1.2.1 M.2.1.2.2.1) rfl rfl rfl rfl rfl rfl rfl (fun r h1 hp => ?_)
    obtain ⟨rfl, rfl⟩ := hp
    refine ⟨pat_md _ _, ?_⟩
    refine ar_hp (h' := md_H (rm_Q q (pY z).2.2)) rfl ?_
    refine ar_aload_n (i := 0) (pc := 14) dX7_go_14 rfl rfl ?_
    refine ar_iload_n (i := 1) (pc := 15) dX7_go_15 rfl rfl ?_
    refine ar_iconst (pc := 16) dX7_go_16 q_iconst_2 ?_
    refine ar_idV (pc := 17) dX7_go_17 cal_X7_its kX7_103 rfl (sX7_its2 (rm_Q q (pY z).2.2) (show j < 8 by have := K.2.1.1; omega)) rfl rfl rfl rfl rfl rfl rfl (fun r h1 hp => ?_)
    obtain ⟨rfl, rfl⟩ := hp
    refine ⟨rfl, ?_⟩
    rw [show rq_S (rm_Q q (pY z).2.2) (20 + 5 * j + 2) = vT (pN z) j by have h := roT R hj; rw [Nat.zero_add] at h; exact h]
    refine ar_istore_n (i := 2) (pc := 20) dX7_go_20 rfl (Nat.le_of_ble_eq_true rfl) rfl ?_
    refine ar_aload_n (i := 0) (pc := 21) dX7_go_21 rfl rfl ?_
    refine ar_getf (pc := 22) dX7_go_22 fX7_7 rfl rfl ?_
    refine ar_bipush (pc := 25) dX7_go_25 q_bipush_7 ?_
    refine ar_dup2 (pc := 27) dX7_go_27 rfl rfl ?_
    refine ar_iald (pc := 28) dX7_go_28 rfl (show 7 < 120 by decide) rfl ?_
    rw [show rq_S (rm_Q q (pY z).2.2) 7 = nI (e + 1) from (show rq_S q 7 = nI (e + 1) by have h := roN R; rw [Nat.zero_add] at h; exact h)]
    refine ar_iconst (pc := 29) dX7_go_29 q_iconst_1 ?_
    refine ar_isub (pc := 30) dX7_go_30 ?_
    rw [nI_pred]
    refine ar_iast (pc := 31) dX7_go_31 rfl (show 7 < 120 by decide) rfl ?_
    rw [md_S]
    refine ar_iconst (pc := 32) dX7_go_32 q_iconst_0 ?_
    refine ar_iload_n (i := 1) (pc := 33) dX7_go_33 rfl rfl ?_
    refine ar_idS (pc := 34) dX7_go_34 cal_X7_at kX7_36 rfl (sX7_at0 _ j) rfl rfl rfl rfl rfl (fun r h1 hp => ?_)
    obtain ⟨rfl, rfl⟩ := hp
    refine ⟨rfl, ?_⟩
    refine ar_istore_n (i := 3) (pc := 37) dX7_go_37 rfl (Nat.le_of_ble_eq_true rfl) rfl ?_
    have h := lX7_go_38 (md_H q) (qq_P (vT (pN z) j) (sN (rcZ z) (rmB (pN z) (e + 1) j))) (rm_Q q (pY z).2.2) e j K.2.1.1 hj (vT (pN z) j) ⟨rfl, _, rfl, mr_chg0 M ⟨e, ok_go K hj, ro_go R K.2.1.1 hj K.2.2.2.2.2.1⟩⟩ (20 + 5 * e - (20 + 5 * j)) (20 + 5 * j) (by omega) (Nat.le_refl _)
    rw [gs_0] at h
    exact h
  · refine ⟨rfl, ?_⟩
    refine ar_if_ne (pc := 5) (tgt := 10) dX7_go_5 (by decide) (fun c5 => absurd c5 (by decide)) (fun c5 => ?_)
    refine ar_iconst (pc := 8) dX7_go_8 q_iconst_m1 ?_
    exact absurd (bk_j K.2.1.1 hj) h2

theorem ring_u {nx m i : Nat} (hn : nx < 6) (hm : m ≤ 6) (h1 : 1 ≤ m) (hi : i ≤ m - 1) : (lat nx + 12 - (m - 1) + i) % 6 = (nx + 12 - m + i) % 6 := by
  unfold lat
  by_cases c : nx = 0
  · rw [if_pos c]; omega
  · rw [if_neg c]; omega
theorem ring_l {nx m : Nat} (hn : nx < 6) (hm : m ≤ 6) (h1 : 1 ≤ m) : (nx + 12 - m + (m - 1)) % 6 = lat nx := by
  unfold lat
  by_cases c : nx = 0
  · rw [if_pos c]; omega
  · rw [if_neg c]; omega
theorem mr_undo {z : PV} {q : RV} (M : mr_R z q) (h1 : 1 ≤ (pY z).2.2) {u : SV} (hu : (pY z).1 (lat (pY z).2.1) = some u) : mr_R (tbZ z u) (ru_S (ru_K q (nI ((pY z).2.2 - 1))) (mixF (fun j => rq_A q (60 * ((pY z).2.2 - 1) + j)) (rq_S q) 60)) := by
  obtain ⟨m1, ⟨a1, a2, a3, a4⟩, m3, m4⟩ := M
  refine ⟨?_, ⟨?_, ?_, rfl, fun i hi => ?_⟩, m3, m4⟩
  · obtain ⟨u2, h2, S⟩ := a4 ((pY z).2.2 - 1) (by omega)
    rw [ring_l a1 a2 h1, hu] at h2
    cases h2
    exact sl_move (fun j hj => by rw [Nat.zero_add]; show mixF (fun j => rq_A q (60 * ((pY z).2.2 - 1) + j)) (rq_S q) 60 j = _; exact mixF_all hj) S
  · show lat (pY z).2.1 < 6
    unfold lat
    split <;> omega
  · show (pY z).2.2 - 1 ≤ 6
    omega
  · have hi : i < (pY z).2.2 - 1 := hi
    obtain ⟨u2, h2, S⟩ := a4 i (by omega)
    refine ⟨u2, ?_, S⟩
    show (pY z).1 ((lat (pY z).2.1 + 12 - ((pY z).2.2 - 1) + i) % 6) = some u2
    rw [ring_u a1 a2 h1 (by omega)]
    exact h2
theorem undo_u {z : PV} {q : RV} (M : mr_R z q) (h1 : 1 ≤ (pY z).2.2) : ∃ u, (pY z).1 (lat (pY z).2.1) = some u := by
  obtain ⟨m1, ⟨a1, a2, a3, a4⟩, m3, m4⟩ := M
  obtain ⟨u2, h2, S⟩ := a4 ((pY z).2.2 - 1) (by omega)
  rw [ring_l a1 a2 h1] at h2
  exact ⟨u2, h2⟩
set_option maxHeartbeats 4000000 in
set_option maxRecDepth 100000 in
theorem sX7_undo_z (q : RV) (z : PV) (M : mr_R z q) (n : Nat) (K : ok_D (pN z) n) (R : ro_R 0 n (pN z) (rq_S q)) (hk : (pY z).2.2 = 0) : am_Sp mX7_undo [.ref 2] (md_H q) (qq_P (-5) (z)) := by
  refine am_intro (by decide) (Nat.le_of_ble_eq_true rfl) ?_
  refine ar_aload_n (i := 0) (pc := 0) dX7_undo_0 rfl rfl ?_
  refine ar_getf (pc := 1) dX7_undo_1 fX7_40 rfl rfl ?_
  rw [(show rq_K q = nI (pY z).2.2 from M.2.1.2.2.1), hk, nI_0]
  refine ar_if_ne (pc := 4) (tgt := 10) dX7_undo_4 (by decide) (fun c4 => absurd rfl c4) (fun c4 => ?_)
  refine ar_bipush (pc := 7) dX7_undo_7 q_bipush_m5 ?_
  exact ar_iret (pc := 9) dX7_undo_9 rfl rfl rfl ⟨rfl, q, rfl, M⟩

set_option maxHeartbeats 4000000 in
set_option maxRecDepth 100000 in
theorem lX7_undo_22 (h0 : am_H) (P : Option Value → am_H → Prop) (Q : RV) (m : Nat) (hm : m < 6) (hK : rq_K Q = nI m) (hP : P (some (.int (nI m))) (md_H (ru_S Q (mixF (fun j => rq_A Q (60 * m + j)) (rq_S Q) 60)))) : ∀ (d k : Nat), k + d = 60 → am_RW mX7_undo h0 P 0 0 22 [some (.ref 2), some (.int (nI k))] [] (md_H (ru_S Q (mixF (fun j => rq_A Q (60 * m + j)) (rq_S Q) k))) := by
  intro d
  induction d with
  | zero =>
    intro k hk
    have e : k = 60 := by omega
    subst e
    refine ar_iload_n (i := 1) (pc := 22) dX7_undo_22 rfl rfl ?_
    refine ar_bipush (pc := 23) dX7_undo_23 q_bipush_60 ?_
    refine ar_icmp_ge (pc := 25) (tgt := 54) dX7_undo_25 (by decide) (fun c25 => ?_) (fun c25 => absurd (by decide +kernel) c25)
    refine ar_aload_n (i := 0) (pc := 54) dX7_undo_54 rfl rfl ?_
    refine ar_getf (pc := 55) dX7_undo_55 fX7_40 rfl rfl ?_
    rw [show rq_K (ru_S Q (mixF (fun j => rq_A Q (60 * m + j)) (rq_S Q) 60)) = nI m from hK]
    exact ar_iret (pc := 58) dX7_undo_58 rfl rfl rfl hP
  | succ d ih =>
    intro k hk
    refine ar_iload_n (i := 1) (pc := 22) dX7_undo_22 rfl rfl ?_
    refine ar_bipush (pc := 23) dX7_undo_23 q_bipush_60 ?_
    refine ar_icmp_ge (pc := 25) (tgt := 54) dX7_undo_25 (by decide) (fun c25 => absurd ((nI_leI (a := 60) (b := k) (by omega) (by omega)).mp c25) (by omega)) (fun c25 => ?_)
    refine ar_aload_n (i := 0) (pc := 28) dX7_undo_28 rfl rfl ?_
    refine ar_getf (pc := 29) dX7_undo_29 fX7_7 rfl rfl ?_
    refine ar_iload_n (i := 1) (pc := 32) dX7_undo_32 rfl rfl ?_
    refine ar_aload_n (i := 0) (pc := 33) dX7_undo_33 rfl rfl ?_
    refine ar_getf (pc := 34) dX7_undo_34 fX7_13 rfl rfl ?_
    refine ar_bipush (pc := 37) dX7_undo_37 q_bipush_60 ?_
    refine ar_aload_n (i := 0) (pc := 39) dX7_undo_39 rfl rfl ?_
    refine ar_getf (pc := 40) dX7_undo_40 fX7_40 rfl rfl ?_
    rw [show rq_K (ru_S Q (mixF (fun j => rq_A Q (60 * m + j)) (rq_S Q) k)) = nI m from hK]
    refine ar_imul (pc := 43) dX7_undo_43 ?_
    refine ar_iload_n (i := 1) (pc := 44) dX7_undo_44 rfl rfl ?_
    refine ar_iadd (pc := 45) dX7_undo_45 ?_
    refine ar_iald (pc := 46) dX7_undo_46 rfl (show 60 * m + k < 360 by omega) (by rw [show (60 : Int32) = nI 60 from rfl, pk_mul, nI_add]) ?_
    refine ar_iast (pc := 47) dX7_undo_47 rfl (show k < 120 by omega) rfl ?_
    rw [md_S, ru_SS, rq_SS, rq_AS, mixF_s (fun j => rq_A Q (60 * m + j)) (rq_S Q) k]
    refine ar_iinc (pc := 48) dX7_undo_48 rfl (ni_inc _) (Nat.le_of_ble_eq_true rfl) rfl ?_
    refine ar_goto (tgt := 22) (pc := 51) dX7_undo_51 (by decide) ?_
    exact ih (k + 1) (by omega)
set_option maxHeartbeats 4000000 in
set_option maxRecDepth 100000 in
theorem sX7_undo_s (q : RV) (z : PV) (M : mr_R z q) (n : Nat) (K : ok_D (pN z) n) (R : ro_R 0 n (pN z) (rq_S q)) (hk : 1 ≤ (pY z).2.2) (u : SV) (hu : (pY z).1 (lat (pY z).2.1) = some u) : am_Sp mX7_undo [.ref 2] (md_H q) (qq_P (nI ((pY z).2.2 - 1)) (tbZ z u)) := by
  refine am_intro (by decide) (Nat.le_of_ble_eq_true rfl) ?_
  refine ar_aload_n (i := 0) (pc := 0) dX7_undo_0 rfl rfl ?_
  refine ar_getf (pc := 1) dX7_undo_1 fX7_40 rfl rfl ?_
  rw [(show rq_K q = nI (pY z).2.2 from M.2.1.2.2.1)]
  refine ar_if_ne (pc := 4) (tgt := 10) dX7_undo_4 (by decide) (fun c4 => ?_) (fun c4 => absurd c4 (nI_ne0 (by omega) (by have := M.2.1.2.1; omega)))
  refine ar_aload_n (i := 0) (pc := 10) dX7_undo_10 rfl rfl ?_
  refine ar_dup (pc := 11) dX7_undo_11 rfl ?_
  refine ar_getf (pc := 12) dX7_undo_12 fX7_40 rfl rfl ?_
  rw [(show rq_K q = nI (pY z).2.2 from M.2.1.2.2.1)]
  refine ar_iconst (pc := 15) dX7_undo_15 q_iconst_1 ?_
  refine ar_isub (pc := 16) dX7_undo_16 ?_
  rw [show nI (pY z).2.2 - 1 = nI ((pY z).2.2 - 1) by obtain ⟨c, hc⟩ : ∃ c, (pY z).2.2 = c + 1 := ⟨(pY z).2.2 - 1, by omega⟩; rw [hc]; exact nI_pred c]
  refine ar_putf (pc := 17) dX7_undo_17 fX7_40 rfl (Nat.le_of_ble_eq_true rfl) (fun _ => ⟨rfl, rfl⟩) ?_
  rw [md_K]
  refine ar_iconst (pc := 20) dX7_undo_20 q_iconst_0 ?_
  refine ar_istore_n (i := 1) (pc := 21) dX7_undo_21 rfl (Nat.le_of_ble_eq_true rfl) rfl ?_
  have hm6 := M.2.1.2.1
  have h := lX7_undo_22 (md_H q) (qq_P (nI ((pY z).2.2 - 1)) (tbZ z u)) (ru_K q (nI ((pY z).2.2 - 1))) ((pY z).2.2 - 1) (by omega) rfl ⟨rfl, _, rfl, mr_undo M hk hu⟩ 60 0 (by omega)
  rw [mixF_0, nI_0] at h
  exact h

set_option maxHeartbeats 4000000 in
set_option maxRecDepth 100000 in
theorem sX7_save_o (q : RV) (z : PV) (M : mr_R z q) (n : Nat) (K : ok_D (pN z) n) (R : ro_R 0 n (pN z) (rq_S q)) (s : Int32) (ho : s.toInt < 0 ∨ 1 < s.toInt) : am_Sp mX7_save [.ref 2, .int s] (md_H q) (qq_P (-2) (z)) := by
  refine am_intro (by decide) (Nat.le_of_ble_eq_true rfl) ?_
  refine ar_iload_n (i := 1) (pc := 0) dX7_save_0 rfl rfl ?_
  refine ar_iconst (pc := 1) dX7_save_1 q_iconst_0 ?_
  refine ar_iconst (pc := 2) dX7_save_2 q_iconst_1 ?_
  refine ar_idS (pc := 3) dX7_save_3 cal_X7_in kX7_32 rfl (sX7_inB (md_H q) s 0 1) rfl rfl rfl rfl rfl (fun r h1 hp => ?_)
  obtain ⟨⟨h3, rfl⟩ | ⟨h3, rfl⟩, rfl⟩ := hp
  · refine ⟨rfl, ?_⟩
    refine ar_if_ne (pc := 6) (tgt := 12) dX7_save_6 (by decide) (fun c6 => ?_) (fun c6 => absurd c6 (by decide))
    exact absurd h3 (by rw [ti_0, ti_1]; omega)
  · refine ⟨rfl, ?_⟩
    refine ar_if_ne (pc := 6) (tgt := 12) dX7_save_6 (by decide) (fun c6 => absurd c6 (by decide)) (fun c6 => ?_)
    refine ar_bipush (pc := 9) dX7_save_9 q_bipush_m2 ?_
    exact ar_iret (pc := 11) dX7_save_11 rfl rfl rfl ⟨rfl, q, rfl, M⟩

theorem mr_save0 {z : PV} {q : RV} (M : mr_R z q) : mr_R (sL z (some (pN z), (pL z).2)) (ru_V (ru_L q (cp_F (rq_L q) (rq_S q) 0 60)) (upd (rq_V q) 0 1)) := by
  obtain ⟨m1, m2, ⟨s1, s2⟩, m4⟩ := M
  refine ⟨m1, m2, ⟨⟨(show upd (rq_V q) 0 1 0 = 1 from pk_us), sl_move (fun j hj => ?_) m1⟩, ?_⟩, m4⟩
  · show cp_F (rq_L q) (rq_S q) 0 60 (0 + j) = _
    rw [cp_F, if_pos (by omega)]
    exact congrArg (rq_S q) (by omega)
  · show sv_R (pL z).2 60 (cp_F (rq_L q) (rq_S q) 0 60) (upd (rq_V q) 0 1 1)
    rw [pk_un (by omega)]
    unfold sv_R at s2 ⊢
    cases e : (pL z).2 with
    | none => rw [e] at s2; exact s2
    | some u =>
      rw [e] at s2
      exact ⟨s2.1, sl_move (fun j hj => by rw [cp_F, if_neg (by omega)]) s2.2⟩
theorem mr_save1 {z : PV} {q : RV} (M : mr_R z q) : mr_R (sL z ((pL z).1, some (pN z))) (ru_V (ru_L q (cp_F (rq_L q) (rq_S q) 1 60)) (upd (rq_V q) 1 1)) := by
  obtain ⟨m1, m2, ⟨s1, s2⟩, m4⟩ := M
  refine ⟨m1, m2, ⟨?_, ⟨(show upd (rq_V q) 1 1 1 = 1 from pk_us), sl_move (fun j hj => ?_) m1⟩⟩, m4⟩
  · show sv_R (pL z).1 0 (cp_F (rq_L q) (rq_S q) 1 60) (upd (rq_V q) 1 1 0)
    rw [pk_un (by omega)]
    unfold sv_R at s1 ⊢
    cases e : (pL z).1 with
    | none => rw [e] at s1; exact s1
    | some u =>
      rw [e] at s1
      exact ⟨s1.1, sl_move (fun j hj => by rw [cp_F, if_neg (by omega)]) s1.2⟩
  · show cp_F (rq_L q) (rq_S q) 1 60 (60 + j) = _
    rw [cp_F, if_pos (by omega)]
    exact congrArg (rq_S q) (by omega)
set_option maxHeartbeats 4000000 in
set_option maxRecDepth 100000 in
theorem lX7_save_14 (h0 : am_H) (P : Option Value → am_H → Prop) (q : RV) (sl : Nat) (hs : sl < 2) (x : Int32) (e7 : rq_S q 7 = x) (hP : P (some (.int x)) (md_H (ru_V (ru_L q (cp_F (rq_L q) (rq_S q) sl 60)) (upd (rq_V q) sl 1)))) : ∀ (d k : Nat), k + d = 60 → am_RW mX7_save h0 P 0 0 14 [some (.ref 2), some (.int (nI sl)), some (.int (nI k))] [] (md_H (ru_L q (cp_F (rq_L q) (rq_S q) sl k))) := by
  intro d
  induction d with
  | zero =>
    intro k hk
    have e : k = 60 := by omega
    subst e
    refine ar_iload_n (i := 2) (pc := 14) dX7_save_14 rfl rfl ?_
    refine ar_bipush (pc := 15) dX7_save_15 q_bipush_60 ?_
    refine ar_icmp_ge (pc := 17) (tgt := 43) dX7_save_17 (by decide) (fun c17 => ?_) (fun c17 => absurd (by decide +kernel) c17)
    refine ar_aload_n (i := 0) (pc := 43) dX7_save_43 rfl rfl ?_
    refine ar_getf (pc := 44) dX7_save_44 fX7_19 rfl rfl ?_
    refine ar_iload_n (i := 1) (pc := 47) dX7_save_47 rfl rfl ?_
    refine ar_iconst (pc := 48) dX7_save_48 q_iconst_1 ?_
    refine ar_zast (pc := 49) dX7_save_49 rfl (show sl < 2 by omega) rfl rfl ?_
    rw [show ((1 : Int32) &&& 1) = 1 by decide +kernel, md_V, rq_VL]
    refine ar_aload_n (i := 0) (pc := 50) dX7_save_50 rfl rfl ?_
    refine ar_getf (pc := 51) dX7_save_51 fX7_7 rfl rfl ?_
    refine ar_bipush (pc := 54) dX7_save_54 q_bipush_7 ?_
    refine ar_iald (pc := 56) dX7_save_56 rfl (show 7 < 120 by decide) (show (7 : Int32) = nI 7 from rfl) ?_
    rw [show rq_S (ru_V (ru_L q (cp_F (rq_L q) (rq_S q) sl 60)) (upd (rq_V q) sl 1)) 7 = x from e7]
    exact ar_iret (pc := 57) dX7_save_57 rfl rfl rfl hP
  | succ d ih =>
    intro k hk
    refine ar_iload_n (i := 2) (pc := 14) dX7_save_14 rfl rfl ?_
    refine ar_bipush (pc := 15) dX7_save_15 q_bipush_60 ?_
    refine ar_icmp_ge (pc := 17) (tgt := 43) dX7_save_17 (by decide) (fun c17 => absurd ((nI_leI (a := 60) (b := k) (by omega) (by omega)).mp c17) (by omega)) (fun c17 => ?_)
    refine ar_aload_n (i := 0) (pc := 20) dX7_save_20 rfl rfl ?_
    refine ar_getf (pc := 21) dX7_save_21 fX7_16 rfl rfl ?_
    refine ar_bipush (pc := 24) dX7_save_24 q_bipush_60 ?_
    refine ar_iload_n (i := 1) (pc := 26) dX7_save_26 rfl rfl ?_
    refine ar_imul (pc := 27) dX7_save_27 ?_
    refine ar_iload_n (i := 2) (pc := 28) dX7_save_28 rfl rfl ?_
    refine ar_iadd (pc := 29) dX7_save_29 ?_
    refine ar_aload_n (i := 0) (pc := 30) dX7_save_30 rfl rfl ?_
    refine ar_getf (pc := 31) dX7_save_31 fX7_7 rfl rfl ?_
    refine ar_iload_n (i := 2) (pc := 34) dX7_save_34 rfl rfl ?_
    refine ar_iald (pc := 35) dX7_save_35 rfl (show k < 120 by omega) rfl ?_
    refine ar_iast (pc := 36) dX7_save_36 rfl (show 60 * sl + k < 120 by omega) (by rw [show (60 : Int32) = nI 60 from rfl, pk_mul, nI_add]) ?_
    rw [md_L, ru_LL, rq_LL, rq_SL, cp_s]
    refine ar_iinc (pc := 37) dX7_save_37 rfl (ni_inc _) (Nat.le_of_ble_eq_true rfl) rfl ?_
    refine ar_goto (tgt := 14) (pc := 40) dX7_save_40 (by decide) ?_
    exact ih (k + 1) (by omega)
set_option maxHeartbeats 4000000 in
set_option maxRecDepth 100000 in
theorem sX7_restore_o (q : RV) (z : PV) (M : mr_R z q) (n : Nat) (K : ok_D (pN z) n) (R : ro_R 0 n (pN z) (rq_S q)) (s : Int32) (ho : s.toInt < 0 ∨ 1 < s.toInt) : am_Sp mX7_restore [.ref 2, .int s] (md_H q) (qq_P (-2) (z)) := by
  refine am_intro (by decide) (Nat.le_of_ble_eq_true rfl) ?_
  refine ar_iload_n (i := 1) (pc := 0) dX7_restore_0 rfl rfl ?_
  refine ar_iconst (pc := 1) dX7_restore_1 q_iconst_0 ?_
  refine ar_iconst (pc := 2) dX7_restore_2 q_iconst_1 ?_
  refine ar_idS (pc := 3) dX7_restore_3 cal_X7_in kX7_32 rfl (sX7_inB (md_H q) s 0 1) rfl rfl rfl rfl rfl (fun r h1 hp => ?_)
  obtain ⟨⟨h3, rfl⟩ | ⟨h3, rfl⟩, rfl⟩ := hp
  · refine ⟨rfl, ?_⟩
    refine ar_if_ne (pc := 6) (tgt := 12) dX7_restore_6 (by decide) (fun c6 => ?_) (fun c6 => absurd c6 (by decide))
    exact absurd h3 (by rw [ti_0, ti_1]; omega)
  · refine ⟨rfl, ?_⟩
    refine ar_if_ne (pc := 6) (tgt := 12) dX7_restore_6 (by decide) (fun c6 => absurd c6 (by decide)) (fun c6 => ?_)
    refine ar_bipush (pc := 9) dX7_restore_9 q_bipush_m2 ?_
    exact ar_iret (pc := 11) dX7_restore_11 rfl rfl rfl ⟨rfl, q, rfl, M⟩

set_option maxHeartbeats 4000000 in
set_option maxRecDepth 100000 in
theorem lX7_restore_30 (h0 : am_H) (P : Option Value → am_H → Prop) (Q : RV) (sl : Nat) (hs : sl < 2) (x : Int32) (e7 : rq_L Q (60 * sl + 7) = x) (hP : P (some (.int x)) (md_H (ru_S Q (mixF (fun j => rq_L Q (60 * sl + j)) (rq_S Q) 60)))) : ∀ (d k : Nat), k + d = 60 → am_RW mX7_restore h0 P 0 0 30 [some (.ref 2), some (.int (nI sl)), some (.int (nI k))] [] (md_H (ru_S Q (mixF (fun j => rq_L Q (60 * sl + j)) (rq_S Q) k))) := by
  intro d
  induction d with
  | zero =>
    intro k hk
    have e : k = 60 := by omega
    subst e
    refine ar_iload_n (i := 2) (pc := 30) dX7_restore_30 rfl rfl ?_
    refine ar_bipush (pc := 31) dX7_restore_31 q_bipush_60 ?_
    refine ar_icmp_ge (pc := 33) (tgt := 59) dX7_restore_33 (by decide) (fun c33 => ?_) (fun c33 => absurd (by decide +kernel) c33)
    refine ar_aload_n (i := 0) (pc := 59) dX7_restore_59 rfl rfl ?_
    refine ar_getf (pc := 60) dX7_restore_60 fX7_7 rfl rfl ?_
    refine ar_bipush (pc := 63) dX7_restore_63 q_bipush_7 ?_
    refine ar_iald (pc := 65) dX7_restore_65 rfl (show 7 < 120 by decide) (show (7 : Int32) = nI 7 from rfl) ?_
    rw [rq_SS, mixF_all (show 7 < 60 by decide), e7]
    exact ar_iret (pc := 66) dX7_restore_66 rfl rfl rfl hP
  | succ d ih =>
    intro k hk
    refine ar_iload_n (i := 2) (pc := 30) dX7_restore_30 rfl rfl ?_
    refine ar_bipush (pc := 31) dX7_restore_31 q_bipush_60 ?_
    refine ar_icmp_ge (pc := 33) (tgt := 59) dX7_restore_33 (by decide) (fun c33 => absurd ((nI_leI (a := 60) (b := k) (by omega) (by omega)).mp c33) (by omega)) (fun c33 => ?_)
    refine ar_aload_n (i := 0) (pc := 36) dX7_restore_36 rfl rfl ?_
    refine ar_getf (pc := 37) dX7_restore_37 fX7_7 rfl rfl ?_
    refine ar_iload_n (i := 2) (pc := 40) dX7_restore_40 rfl rfl ?_
    refine ar_aload_n (i := 0) (pc := 41) dX7_restore_41 rfl rfl ?_
    refine ar_getf (pc := 42) dX7_restore_42 fX7_16 rfl rfl ?_
    refine ar_bipush (pc := 45) dX7_restore_45 q_bipush_60 ?_
    refine ar_iload_n (i := 1) (pc := 47) dX7_restore_47 rfl rfl ?_
    refine ar_imul (pc := 48) dX7_restore_48 ?_
    refine ar_iload_n (i := 2) (pc := 49) dX7_restore_49 rfl rfl ?_
    refine ar_iadd (pc := 50) dX7_restore_50 ?_
    refine ar_iald (pc := 51) dX7_restore_51 rfl (show 60 * sl + k < 120 by omega) (by rw [show (60 : Int32) = nI 60 from rfl, pk_mul, nI_add]) ?_
    refine ar_iast (pc := 52) dX7_restore_52 rfl (show k < 120 by omega) rfl ?_
    rw [md_S, ru_SS, rq_SS, rq_LS, mixF_s (fun j => rq_L Q (60 * sl + j)) (rq_S Q) k]
    refine ar_iinc (pc := 53) dX7_restore_53 rfl (ni_inc _) (Nat.le_of_ble_eq_true rfl) rfl ?_
    refine ar_goto (tgt := 30) (pc := 56) dX7_restore_56 (by decide) ?_
    exact ih (k + 1) (by omega)
set_option maxHeartbeats 4000000 in
set_option maxRecDepth 100000 in
theorem sX7_save_0 (q : RV) (z : PV) (M : mr_R z q) (n : Nat) (K : ok_D (pN z) n) (R : ro_R 0 n (pN z) (rq_S q))  : am_Sp mX7_save [.ref 2, .int (nI 0)] (md_H q) (qq_P (vBo (pN z)) (sL z (some (pN z), (pL z).2))) := by
  refine am_intro (by decide) (Nat.le_of_ble_eq_true rfl) ?_
  refine ar_iload_n (i := 1) (pc := 0) dX7_save_0 rfl rfl ?_
  refine ar_iconst (pc := 1) dX7_save_1 q_iconst_0 ?_
  refine ar_iconst (pc := 2) dX7_save_2 q_iconst_1 ?_
  refine ar_idS (pc := 3) dX7_save_3 cal_X7_in kX7_32 rfl (sX7_inB (md_H q) (nI 0) 0 1) rfl rfl rfl rfl rfl (fun r h1 hp => ?_)
  obtain ⟨⟨h3, rfl⟩ | ⟨h3, rfl⟩, rfl⟩ := hp
  · refine ⟨rfl, ?_⟩
    refine ar_if_ne (pc := 6) (tgt := 12) dX7_save_6 (by decide) (fun c6 => ?_) (fun c6 => absurd c6 (by decide))
    refine ar_iconst (pc := 12) dX7_save_12 q_iconst_0 ?_
    refine ar_istore_n (i := 2) (pc := 13) dX7_save_13 rfl (Nat.le_of_ble_eq_true rfl) rfl ?_
    have h := lX7_save_14 (md_H q) (qq_P (vBo (pN z)) (sL z (some (pN z), (pL z).2))) q 0 (by omega) (vBo (pN z)) ((show rq_S q 7 = nI n by have h := roN R; rw [Nat.zero_add] at h; exact h).trans K.1.symm) ⟨rfl, _, rfl, mr_save0 M⟩ 60 0 (by omega)
    rw [cp_0, ru_L0, nI_0] at h
    exact h
  · refine ⟨rfl, ?_⟩
    refine ar_if_ne (pc := 6) (tgt := 12) dX7_save_6 (by decide) (fun c6 => absurd c6 (by decide)) (fun c6 => ?_)
    refine ar_bipush (pc := 9) dX7_save_9 q_bipush_m2 ?_
    exact absurd ⟨by rw [ti_0, nI_toInt (by omega)]; omega, by rw [ti_1, nI_toInt (by omega)]; omega⟩ h3

set_option maxHeartbeats 4000000 in
set_option maxRecDepth 100000 in
theorem sX7_restore_0n (q : RV) (z : PV) (M : mr_R z q) (n : Nat) (K : ok_D (pN z) n) (R : ro_R 0 n (pN z) (rq_S q)) (hu : (pL z).1 = none) : am_Sp mX7_restore [.ref 2, .int (nI 0)] (md_H q) (qq_P (-5) (z)) := by
  refine am_intro (by decide) (Nat.le_of_ble_eq_true rfl) ?_
  refine ar_iload_n (i := 1) (pc := 0) dX7_restore_0 rfl rfl ?_
  refine ar_iconst (pc := 1) dX7_restore_1 q_iconst_0 ?_
  refine ar_iconst (pc := 2) dX7_restore_2 q_iconst_1 ?_
  refine ar_idS (pc := 3) dX7_restore_3 cal_X7_in kX7_32 rfl (sX7_inB (md_H q) (nI 0) 0 1) rfl rfl rfl rfl rfl (fun r h1 hp => ?_)
  obtain ⟨⟨h3, rfl⟩ | ⟨h3, rfl⟩, rfl⟩ := hp
  · refine ⟨rfl, ?_⟩
    refine ar_if_ne (pc := 6) (tgt := 12) dX7_restore_6 (by decide) (fun c6 => ?_) (fun c6 => absurd c6 (by decide))
    refine ar_aload_n (i := 0) (pc := 12) dX7_restore_12 rfl rfl ?_
    refine ar_getf (pc := 13) dX7_restore_13 fX7_19 rfl rfl ?_
    refine ar_iload_n (i := 1) (pc := 16) dX7_restore_16 rfl rfl ?_
    refine ar_zald (pc := 17) dX7_restore_17 rfl (show 0 < 2 by decide) rfl ?_
    rw [show rq_V q 0 = 0 by have h := M.2.2.1.1; unfold sv_R at h; rw [hu] at h; exact h]
    refine ar_if_ne (pc := 18) (tgt := 24) dX7_restore_18 (by decide) (fun c18 => absurd rfl c18) (fun c18 => ?_)
    refine ar_bipush (pc := 21) dX7_restore_21 q_bipush_m5 ?_
    exact ar_iret (pc := 23) dX7_restore_23 rfl rfl rfl ⟨rfl, q, rfl, M⟩
  · refine ⟨rfl, ?_⟩
    refine ar_if_ne (pc := 6) (tgt := 12) dX7_restore_6 (by decide) (fun c6 => absurd c6 (by decide)) (fun c6 => ?_)
    refine ar_bipush (pc := 9) dX7_restore_9 q_bipush_m2 ?_
    exact absurd ⟨by rw [ti_0, nI_toInt (by omega)]; omega, by rw [ti_1, nI_toInt (by omega)]; omega⟩ h3

set_option maxHeartbeats 4000000 in
set_option maxRecDepth 100000 in
theorem sX7_restore_0s (q : RV) (z : PV) (M : mr_R z q) (n : Nat) (K : ok_D (pN z) n) (R : ro_R 0 n (pN z) (rq_S q)) (u : SV) (hu : (pL z).1 = some u) : am_Sp mX7_restore [.ref 2, .int (nI 0)] (md_H q) (qq_P (vBo u) (sN (rcZ z) u)) := by
  have hS : rq_V q 0 = 1 ∧ sl_R 0 u (rq_L q) := by have h := M.2.2.1.1; unfold sv_R at h; rw [hu] at h; exact h
  refine am_intro (by decide) (Nat.le_of_ble_eq_true rfl) ?_
  refine ar_iload_n (i := 1) (pc := 0) dX7_restore_0 rfl rfl ?_
  refine ar_iconst (pc := 1) dX7_restore_1 q_iconst_0 ?_
  refine ar_iconst (pc := 2) dX7_restore_2 q_iconst_1 ?_
  refine ar_idS (pc := 3) dX7_restore_3 cal_X7_in kX7_32 rfl (sX7_inB (md_H q) (nI 0) 0 1) rfl rfl rfl rfl rfl (fun r h1 hp => ?_)
  obtain ⟨⟨h3, rfl⟩ | ⟨h3, rfl⟩, rfl⟩ := hp
  · refine ⟨rfl, ?_⟩
    refine ar_if_ne (pc := 6) (tgt := 12) dX7_restore_6 (by decide) (fun c6 => ?_) (fun c6 => absurd c6 (by decide))
    refine ar_aload_n (i := 0) (pc := 12) dX7_restore_12 rfl rfl ?_
    refine ar_getf (pc := 13) dX7_restore_13 fX7_19 rfl rfl ?_
    refine ar_iload_n (i := 1) (pc := 16) dX7_restore_16 rfl rfl ?_
    refine ar_zald (pc := 17) dX7_restore_17 rfl (show 0 < 2 by decide) rfl ?_
    rw [hS.1]
    refine ar_if_ne (pc := 18) (tgt := 24) dX7_restore_18 (by decide) (fun c18 => ?_) (fun c18 => absurd c18 (by decide))
    refine ar_aload_n (i := 0) (pc := 24) dX7_restore_24 rfl rfl ?_
    refine ar_idV (pc := 25) dX7_restore_25 cal_X7_remembers kX7_86 rfl (sX7_remembers q (pY z).2.2 M.2.1.2.1 M.2.1.2.2.1) rfl rfl rfl rfl rfl rfl rfl (fun r h1 hp => ?_)
    obtain ⟨rfl, rfl⟩ := hp
    refine ⟨pat_md _ _, ?_⟩
    refine ar_hp (h' := md_H (rm_Q q (pY z).2.2)) rfl ?_
    refine ar_iconst (pc := 28) dX7_restore_28 q_iconst_0 ?_
    refine ar_istore_n (i := 2) (pc := 29) dX7_restore_29 rfl (Nat.le_of_ble_eq_true rfl) rfl ?_
    obtain ⟨n2, K2, R2⟩ := hS.2
    have h := lX7_restore_30 (md_H q) (qq_P (vBo u) (sN (rcZ z) u)) (rm_Q q (pY z).2.2) 0 (by omega) (vBo u) ((show rq_L q (60 * 0 + 7) = nI n2 from roN R2).trans K2.1.symm) ⟨rfl, _, rfl, mr_chg0 M (sl_move (fun j hj => by rw [Nat.zero_add, mixF_all hj]; exact congrArg (rq_L q) (by omega)) ⟨n2, K2, R2⟩)⟩ 60 0 (by omega)
    rw [mixF_0, ru_S0, nI_0] at h
    exact h
  · refine ⟨rfl, ?_⟩
    refine ar_if_ne (pc := 6) (tgt := 12) dX7_restore_6 (by decide) (fun c6 => absurd c6 (by decide)) (fun c6 => ?_)
    refine ar_bipush (pc := 9) dX7_restore_9 q_bipush_m2 ?_
    exact absurd ⟨by rw [ti_0, nI_toInt (by omega)]; omega, by rw [ti_1, nI_toInt (by omega)]; omega⟩ h3

set_option maxHeartbeats 4000000 in
set_option maxRecDepth 100000 in
theorem sX7_save_1 (q : RV) (z : PV) (M : mr_R z q) (n : Nat) (K : ok_D (pN z) n) (R : ro_R 0 n (pN z) (rq_S q))  : am_Sp mX7_save [.ref 2, .int (nI 1)] (md_H q) (qq_P (vBo (pN z)) (sL z ((pL z).1, some (pN z)))) := by
  refine am_intro (by decide) (Nat.le_of_ble_eq_true rfl) ?_
  refine ar_iload_n (i := 1) (pc := 0) dX7_save_0 rfl rfl ?_
  refine ar_iconst (pc := 1) dX7_save_1 q_iconst_0 ?_
  refine ar_iconst (pc := 2) dX7_save_2 q_iconst_1 ?_
  refine ar_idS (pc := 3) dX7_save_3 cal_X7_in kX7_32 rfl (sX7_inB (md_H q) (nI 1) 0 1) rfl rfl rfl rfl rfl (fun r h1 hp => ?_)
  obtain ⟨⟨h3, rfl⟩ | ⟨h3, rfl⟩, rfl⟩ := hp
  · refine ⟨rfl, ?_⟩
    refine ar_if_ne (pc := 6) (tgt := 12) dX7_save_6 (by decide) (fun c6 => ?_) (fun c6 => absurd c6 (by decide))
    refine ar_iconst (pc := 12) dX7_save_12 q_iconst_0 ?_
    refine ar_istore_n (i := 2) (pc := 13) dX7_save_13 rfl (Nat.le_of_ble_eq_true rfl) rfl ?_
    have h := lX7_save_14 (md_H q) (qq_P (vBo (pN z)) (sL z ((pL z).1, some (pN z)))) q 1 (by omega) (vBo (pN z)) ((show rq_S q 7 = nI n by have h := roN R; rw [Nat.zero_add] at h; exact h).trans K.1.symm) ⟨rfl, _, rfl, mr_save1 M⟩ 60 0 (by omega)
    rw [cp_0, ru_L0, nI_0] at h
    exact h
  · refine ⟨rfl, ?_⟩
    refine ar_if_ne (pc := 6) (tgt := 12) dX7_save_6 (by decide) (fun c6 => absurd c6 (by decide)) (fun c6 => ?_)
    refine ar_bipush (pc := 9) dX7_save_9 q_bipush_m2 ?_
    exact absurd ⟨by rw [ti_0, nI_toInt (by omega)]; omega, by rw [ti_1, nI_toInt (by omega)]; omega⟩ h3

set_option maxHeartbeats 4000000 in
set_option maxRecDepth 100000 in
theorem sX7_restore_1n (q : RV) (z : PV) (M : mr_R z q) (n : Nat) (K : ok_D (pN z) n) (R : ro_R 0 n (pN z) (rq_S q)) (hu : (pL z).2 = none) : am_Sp mX7_restore [.ref 2, .int (nI 1)] (md_H q) (qq_P (-5) (z)) := by
  refine am_intro (by decide) (Nat.le_of_ble_eq_true rfl) ?_
  refine ar_iload_n (i := 1) (pc := 0) dX7_restore_0 rfl rfl ?_
  refine ar_iconst (pc := 1) dX7_restore_1 q_iconst_0 ?_
  refine ar_iconst (pc := 2) dX7_restore_2 q_iconst_1 ?_
  refine ar_idS (pc := 3) dX7_restore_3 cal_X7_in kX7_32 rfl (sX7_inB (md_H q) (nI 1) 0 1) rfl rfl rfl rfl rfl (fun r h1 hp => ?_)
  obtain ⟨⟨h3, rfl⟩ | ⟨h3, rfl⟩, rfl⟩ := hp
  · refine ⟨rfl, ?_⟩
    refine ar_if_ne (pc := 6) (tgt := 12) dX7_restore_6 (by decide) (fun c6 => ?_) (fun c6 => absurd c6 (by decide))
    refine ar_aload_n (i := 0) (pc := 12) dX7_restore_12 rfl rfl ?_
    refine ar_getf (pc := 13) dX7_restore_13 fX7_19 rfl rfl ?_
    refine ar_iload_n (i := 1) (pc := 16) dX7_restore_16 rfl rfl ?_
    refine ar_zald (pc := 17) dX7_restore_17 rfl (show 1 < 2 by decide) rfl ?_
    rw [show rq_V q 1 = 0 by have h := M.2.2.1.2; unfold sv_R at h; rw [hu] at h; exact h]
    refine ar_if_ne (pc := 18) (tgt := 24) dX7_restore_18 (by decide) (fun c18 => absurd rfl c18) (fun c18 => ?_)
    refine ar_bipush (pc := 21) dX7_restore_21 q_bipush_m5 ?_
    exact ar_iret (pc := 23) dX7_restore_23 rfl rfl rfl ⟨rfl, q, rfl, M⟩
  · refine ⟨rfl, ?_⟩
    refine ar_if_ne (pc := 6) (tgt := 12) dX7_restore_6 (by decide) (fun c6 => absurd c6 (by decide)) (fun c6 => ?_)
    refine ar_bipush (pc := 9) dX7_restore_9 q_bipush_m2 ?_
    exact absurd ⟨by rw [ti_0, nI_toInt (by omega)]; omega, by rw [ti_1, nI_toInt (by omega)]; omega⟩ h3

set_option maxHeartbeats 4000000 in
set_option maxRecDepth 100000 in
theorem sX7_restore_1s (q : RV) (z : PV) (M : mr_R z q) (n : Nat) (K : ok_D (pN z) n) (R : ro_R 0 n (pN z) (rq_S q)) (u : SV) (hu : (pL z).2 = some u) : am_Sp mX7_restore [.ref 2, .int (nI 1)] (md_H q) (qq_P (vBo u) (sN (rcZ z) u)) := by
  have hS : rq_V q 1 = 1 ∧ sl_R 60 u (rq_L q) := by have h := M.2.2.1.2; unfold sv_R at h; rw [hu] at h; exact h
  refine am_intro (by decide) (Nat.le_of_ble_eq_true rfl) ?_
  refine ar_iload_n (i := 1) (pc := 0) dX7_restore_0 rfl rfl ?_
  refine ar_iconst (pc := 1) dX7_restore_1 q_iconst_0 ?_
  refine ar_iconst (pc := 2) dX7_restore_2 q_iconst_1 ?_
  refine ar_idS (pc := 3) dX7_restore_3 cal_X7_in kX7_32 rfl (sX7_inB (md_H q) (nI 1) 0 1) rfl rfl rfl rfl rfl (fun r h1 hp => ?_)
  obtain ⟨⟨h3, rfl⟩ | ⟨h3, rfl⟩, rfl⟩ := hp
  · refine ⟨rfl, ?_⟩
    refine ar_if_ne (pc := 6) (tgt := 12) dX7_restore_6 (by decide) (fun c6 => ?_) (fun c6 => absurd c6 (by decide))
    refine ar_aload_n (i := 0) (pc := 12) dX7_restore_12 rfl rfl ?_
    refine ar_getf (pc := 13) dX7_restore_13 fX7_19 rfl rfl ?_
    refine ar_iload_n (i := 1) (pc := 16) dX7_restore_16 rfl rfl ?_
    refine ar_zald (pc := 17) dX7_restore_17 rfl (show 1 < 2 by decide) rfl ?_
    rw [hS.1]
    refine ar_if_ne (pc := 18) (tgt := 24) dX7_restore_18 (by decide) (fun c18 => ?_) (fun c18 => absurd c18 (by decide))
    refine ar_aload_n (i := 0) (pc := 24) dX7_restore_24 rfl rfl ?_
    refine ar_idV (pc := 25) dX7_restore_25 cal_X7_remembers kX7_86 rfl (sX7_remembers q (pY z).2.2 M.2.1.2.1 M.2.1.2.2.1) rfl rfl rfl rfl rfl rfl rfl (fun r h1 hp => ?_)
    obtain ⟨rfl, rfl⟩ := hp
    refine ⟨pat_md _ _, ?_⟩
    refine ar_hp (h' := md_H (rm_Q q (pY z).2.2)) rfl ?_
    refine ar_iconst (pc := 28) dX7_restore_28 q_iconst_0 ?_
    refine ar_istore_n (i := 2) (pc := 29) dX7_restore_29 rfl (Nat.le_of_ble_eq_true rfl) rfl ?_
    obtain ⟨n2, K2, R2⟩ := hS.2
    have h := lX7_restore_30 (md_H q) (qq_P (vBo u) (sN (rcZ z) u)) (rm_Q q (pY z).2.2) 1 (by omega) (vBo u) ((show rq_L q (60 * 1 + 7) = nI n2 from roN R2).trans K2.1.symm) ⟨rfl, _, rfl, mr_chg0 M (sl_move (fun j hj => by rw [Nat.zero_add, mixF_all hj]; exact congrArg (rq_L q) (by omega)) ⟨n2, K2, R2⟩)⟩ 60 0 (by omega)
    rw [mixF_0, ru_S0, nI_0] at h
    exact h
  · refine ⟨rfl, ?_⟩
    refine ar_if_ne (pc := 6) (tgt := 12) dX7_restore_6 (by decide) (fun c6 => absurd c6 (by decide)) (fun c6 => ?_)
    refine ar_bipush (pc := 9) dX7_restore_9 q_bipush_m2 ?_
    exact absurd ⟨by rw [ti_0, nI_toInt (by omega)]; omega, by rw [ti_1, nI_toInt (by omega)]; omega⟩ h3

