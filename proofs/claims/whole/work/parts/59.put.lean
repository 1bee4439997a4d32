/-! letters: put, wipe -/
/-! rows of the kit's laws, pasted -/
theorem wb_tb (n : Nat) : (lN n).toBitVec = BitVec.ofNat 64 n := rfl
theorem wb_inj {a b : Int64} (h : a.toBitVec = b.toBitVec) : a = b := Int64.toBitVec_inj.mp h
theorem wb_tn {n : Nat} (h : n < 2 ^ 64) : (lN n).toBitVec.toNat = n := by rw [wb_tb, BitVec.toNat_ofNat, Nat.mod_eq_of_lt h]
theorem wb_of (x : Int64) : ∃ n, n < 2 ^ 64 ∧ x = lN n := ⟨x.toBitVec.toNat, x.toBitVec.isLt, wb_inj (by rw [wb_tb]; simp)⟩
theorem wb_c : ∀ k, k < 64 → ((nI k).toInt64 &&& 63) = lN k := by decide +kernel
theorem wb_cu : ∀ k, k < 64 → ((nI k).toInt64.toUInt64 &&& Int64.toUInt64 63) = UInt64.ofNat k := by decide +kernel
theorem wb_sm : ∀ k, k < 64 → (BitVec.ofNat 64 k).smod 64 = BitVec.ofNat 64 k := by decide +kernel
theorem wb_lt2 {a b : Nat} (h : a < b) : 2 ^ a < 2 ^ b := Nat.pow_lt_pow_right (by decide) h
theorem wb_shr {n k : Nat} (hn : n < 2 ^ 64) (hk : k < 64) : ((lN n).toUInt64 >>> ((nI k).toInt64.toUInt64 &&& Int64.toUInt64 63)).toInt64 = lN (n / 2 ^ k) := by
  rw [wb_cu k hk]
  apply wb_inj
  apply BitVec.eq_of_toNat_eq
  show ((lN n).toUInt64 >>> UInt64.ofNat k).toNat = (BitVec.ofNat 64 _).toNat
  have h1 : (UInt64.ofNat k).toNat = k := by
    show (BitVec.ofNat 64 k).toNat = k
    rw [BitVec.toNat_ofNat, Nat.mod_eq_of_lt (by omega)]
  have h2 : (lN n).toUInt64.toNat = n := wb_tn hn
  rw [UInt64.toNat_shiftRight, h1, h2, Nat.mod_eq_of_lt hk, Nat.shiftRight_eq_div_pow, BitVec.toNat_ofNat, Nat.mod_eq_of_lt (Nat.lt_of_le_of_lt (Nat.div_le_self _ _) hn)]
theorem wb_and {a b : Nat} (ha : a < 2 ^ 64) (hb : b < 2 ^ 64) : lN a &&& lN b = lN (a &&& b) := by
  apply wb_inj
  rw [Int64.toBitVec_and, wb_tb, wb_tb, wb_tb]
  apply BitVec.eq_of_toNat_eq
  rw [BitVec.toNat_and, BitVec.toNat_ofNat, BitVec.toNat_ofNat, BitVec.toNat_ofNat, Nat.mod_eq_of_lt ha, Nat.mod_eq_of_lt hb, Nat.mod_eq_of_lt (Nat.and_lt_two_pow _ hb)]
theorem wb_mask {n k : Nat} (hn : n < 2 ^ 64) (hk : k < 64) : lN n &&& lN (2 ^ k - 1) = lN (n % 2 ^ k) := by
  rw [wb_and hn (by have := wb_lt2 hk; omega), Nat.and_two_pow_sub_one_eq_mod]
/-! the bytes of a long -/
def by_N (X k : Nat) : Nat := X / 256 ^ k % 256
theorem by_and {X : Nat} (hX : X < 2 ^ 64) : lN X &&& 255 = lN (X % 256) := by
  have := wb_mask (n := X) (k := 8) hX (by decide)
  rw [show lN (2 ^ 8 - 1) = (255 : Int64) by decide +kernel] at this
  exact this
theorem by_sh8 {X : Nat} (hX : X < 2 ^ 64) : sh8 (lN X) = lN (X / 256) := wb_shr (n := X) (k := 8) hX (by decide)
theorem by_c : ∀ b, b < 256 → ((nI b).toUInt32 % 65536).toInt32.toUInt32.toUInt16.toUInt32.toInt32 = nI b := by decide +kernel
theorem by_chv {X : Nat} (hX : X < 2 ^ 64) : chv (lN X) = nI (X % 256) := by
  unfold chv
  rw [by_and hX, lN_i]
  exact by_c _ (Nat.mod_lt _ (by decide))
theorem by_lshr {X k : Nat} (hX : X < 2 ^ 64) (hk : k < 8) : (lN X >>> ((nI (8 * k)).toInt64 &&& 63)) &&& 255 = lN (by_N X k) := by
  rw [wb_c (8 * k) (by omega), show (255 : Int64) = lN 255 by decide +kernel]
  apply wb_inj
  rw [Int64.toBitVec_and, Int64.toBitVec_shiftRight, wb_tb 255, wb_tb (by_N X k), wb_tb (8 * k), wb_sm (8 * k) (by omega)]
  apply BitVec.eq_of_getLsbD_eq
  intro i hi
  show (((lN X).toBitVec.sshiftRight (BitVec.ofNat 64 (8 * k)).toNat) &&& BitVec.ofNat 64 255).getLsbD i = _
  rw [BitVec.getLsbD_and, BitVec.getLsbD_sshiftRight, wb_tb, BitVec.toNat_ofNat, Nat.mod_eq_of_lt (show 8 * k < 2 ^ 64 by omega), BitVec.getLsbD_ofNat, BitVec.getLsbD_ofNat, BitVec.getLsbD_ofNat, by_N, show (256 : Nat) ^ k = 2 ^ (8 * k) by rw [Nat.pow_mul], show (256 : Nat) = 2 ^ 8 by decide, show (255 : Nat) = 2 ^ 8 - 1 by decide, Nat.testBit_mod_two_pow, Nat.testBit_div_two_pow, Nat.testBit_two_pow_sub_one]
  by_cases c : i < 8
  · simp [c, hi, show 8 * k + i < 64 by omega, show ¬ 64 ≤ i by omega]
    exact congrArg _ (Nat.add_comm _ _)
  · simp [c]
theorem by_s (X k : Nat) : X / 256 ^ k / 256 = X / 256 ^ (k + 1) := by rw [Nat.div_div_eq_div_mul, Nat.pow_succ]
theorem by_8 {X : Nat} (hX : X < 2 ^ 64) : X / 256 ^ 8 = 0 := Nat.div_eq_of_lt (Nat.lt_of_lt_of_le hX (by decide))
theorem lN_z {X : Nat} (h : X < 2 ^ 64) : lN X = 0 ↔ X = 0 := by
  refine ⟨fun z => ?_, fun z => by rw [z]; decide +kernel⟩
  have h2 : (lN X).toBitVec.toNat = (0 : Int64).toBitVec.toNat := by rw [z]
  rw [wb_tn h] at h2
  exact h2.trans (by decide)
/-- how many letters a number holds -/
def cl_N : Nat → Nat → Nat → Nat
  | 0, k, X => if X = 0 then k else 0
  | d + 1, k, X => if X % 256 = 0 then (if X = 0 then k else 0) else if X % 256 < 33 ∨ 126 < X % 256 then 0 else cl_N d (k + 1) (X / 256)
theorem cl_e : ∀ (d k X : Nat), X < 2 ^ 64 → clt d k (lN X) = nI (cl_N d k X)
  | 0, k, X, h => by
    rw [clt_0, cl_N]
    by_cases c : X = 0
    · subst c; rw [if_pos (by decide +kernel), if_pos rfl]
    · rw [if_neg (fun z => c ((lN_z h).mp z)), if_neg c, nI_0]
  | d + 1, k, X, h => by
    have hm : X % 256 < 256 := Nat.mod_lt _ (by decide)
    have e0 : lN (X % 256) = 0 ↔ X % 256 = 0 := by
      rw [show (0 : Int64) = lN 0 by decide +kernel]
      exact lN_eq (by omega) (by omega)
    have eX := lN_z h
    rw [clt_f, clst_e, cl_N]
    by_cases c : X % 256 = 0
    · rw [if_pos (show lN X &&& 255 = 0 by rw [by_and h]; exact e0.mpr c), if_pos c]
      by_cases c2 : X = 0
      · rw [if_pos (eX.mpr c2), if_pos c2]
      · rw [if_neg (fun z => c2 (eX.mp z)), if_neg c2, nI_0]
    · rw [if_neg (show ¬ lN X &&& 255 = 0 by rw [by_and h]; exact fun z => c (e0.mp z)), if_neg c]
      have ek : clk (lN X) ↔ (X % 256 < 33 ∨ 126 < X % 256) := by
        unfold clk
        rw [by_and h, show (33 : Int64) = lN 33 by decide +kernel, show (126 : Int64) = lN 126 by decide +kernel, lN_lt (by omega) (by omega), lN_lt (by omega) (by omega)]
      by_cases c2 : X % 256 < 33 ∨ 126 < X % 256
      · rw [if_pos (ek.mpr c2), if_pos c2, nI_0]
      · rw [if_neg (fun z => c2 (ek.mp z)), if_neg c2, by_sh8 h]
        exact cl_e d (k + 1) (X / 256) (by omega)
theorem cl_v : ∀ (d k X : Nat), cl_N d k X ≠ 0 → ∃ m, m ≤ d ∧ cl_N d k X = k + m ∧ ∀ i, i < m → 33 ≤ by_N X i ∧ by_N X i ≤ 126
  | 0, k, X, h => by
    rw [cl_N] at h ⊢
    by_cases c : X = 0
    · rw [if_pos c]; exact ⟨0, Nat.le_refl 0, rfl, fun i hi => absurd hi (Nat.not_lt_zero i)⟩
    · rw [if_neg c] at h; exact absurd rfl h
  | d + 1, k, X, h => by
    rw [cl_N] at h ⊢
    by_cases c : X % 256 = 0
    · rw [if_pos c] at h ⊢
      by_cases c2 : X = 0
      · rw [if_pos c2]; exact ⟨0, by omega, rfl, fun i hi => absurd hi (Nat.not_lt_zero i)⟩
      · rw [if_neg c2] at h; exact absurd rfl h
    · rw [if_neg c] at h ⊢
      by_cases c2 : X % 256 < 33 ∨ 126 < X % 256
      · rw [if_pos c2] at h; exact absurd rfl h
      · rw [if_neg c2] at h ⊢
        obtain ⟨m, h1, h2, h3⟩ := cl_v d (k + 1) (X / 256) h
        refine ⟨m + 1, by omega, by omega, fun i hi => ?_⟩
        cases i with
        | zero => unfold by_N; rw [Nat.pow_zero, Nat.div_one]; omega
        | succ i =>
          have := h3 i (by omega)
          unfold by_N at this ⊢
          rw [Nat.div_div_eq_div_mul, Nat.mul_comm, ← Nat.pow_succ] at this
          exact this
/-- the letters as they are laid down -/
def pw_F (pd : Nat → Int32) (L C X i : Nat) : Nat → Int32 := fun j => if L ≤ j ∧ j < L + i then nI (by_N X (C - 1 - (j - L))) else pd j
theorem pw_0 (pd : Nat → Int32) (L C X : Nat) : pw_F pd L C X 0 = pd := by
  funext j
  rw [pw_F, if_neg (by omega)]
theorem pw_s (pd : Nat → Int32) (L C X i : Nat) : upd (pw_F pd L C X i) (L + i) (nI (by_N X (C - 1 - i))) = pw_F pd L C X (i + 1) := by
  funext j
  by_cases e : j = L + i
  · subst e
    rw [pk_us, pw_F, if_pos (by omega), show L + i - L = i by omega]
  · rw [pk_un e, pw_F, pw_F]
    by_cases c : L ≤ j ∧ j < L + i
    · rw [if_pos c, if_pos (by omega)]
    · rw [if_neg c, if_neg (by omega)]
theorem ap_e (L : Nat) : ∀ (d X : Nat) (t : Nat → Int32) (j : Nat), X < 2 ^ 64 → apF L d (lN X) t j = if L ≤ j ∧ j < L + d then nI (by_N X (d - 1 - (j - L))) else t j
  | 0, X, t, j, h => by
    rw [apF_0, if_neg (by omega)]
  | d + 1, X, t, j, h => by
    rw [apF_s, by_sh8 h, by_chv h, ap_e L d (X / 256) _ j (by omega)]
    by_cases c : L ≤ j ∧ j < L + d
    · rw [if_pos c, if_pos (by omega)]
      unfold by_N
      rw [Nat.div_div_eq_div_mul, Nat.mul_comm, ← Nat.pow_succ, show (d - 1 - (j - L)).succ = d + 1 - 1 - (j - L) by omega]
    · rw [if_neg c]
      by_cases e : j = L + d
      · subst e
        rw [pk_us, if_pos (by omega)]
        unfold by_N
        rw [show d + 1 - 1 - (L + d - L) = 0 by omega, Nat.pow_zero, Nat.div_one]
      · rw [pk_un e, if_neg (by omega)]
def pu_P (q : RV) (z : PV) (L C X : Nat) : Option Value → am_H → Prop := fun r h1 => (C = 0 ∧ qq_P (-2) z r h1) ∨ (C ≠ 0 ∧ 60 < L + C ∧ qq_P (-4) z r h1) ∨ (C ≠ 0 ∧ L + C ≤ 60 ∧ qq_P (nI (L + C)) (sD z (nI (L + C), apF L C (lN X) (pD z).2.1, (pD z).2.2)) r h1)
theorem mr_put {z : PV} {q : RV} {L C X : Nat} (M : mr_R z q) (hl : (pD z).1 = nI L) (hL : L ≤ 60) (hX : X < 2 ^ 64) (hC : cl_N 8 0 X = C) (h0 : C ≠ 0) (h60 : L + C ≤ 60) : mr_R (sD z (nI (L + C), apF L C (lN X) (pD z).2.1, (pD z).2.2)) (ru_N (ru_P q (pw_F (rq_P q) L C X C)) (nI (L + C))) := by
  obtain ⟨m1, m2, m3, ⟨L', h1, h2, h3, h4⟩⟩ := M
  have eL : L' = L := (nI_eq (by omega) (by omega)).mp (h2.symm.trans hl)
  subst eL
  obtain ⟨m, e1, e2, e3⟩ := cl_v 8 0 X (by rw [hC]; exact h0)
  refine ⟨m1, m2, m3, ⟨L' + C, h60, rfl, rfl, fun i hi => ?_⟩⟩
  show apF L' C (lN X) (pD z).2.1 i = pw_F (rq_P q) L' C X C i ∧ 33 ≤ (pw_F (rq_P q) L' C X C i).toInt ∧ (pw_F (rq_P q) L' C X C i).toInt ≤ 126
  rw [ap_e L' C X _ i hX, pw_F]
  by_cases c : L' ≤ i ∧ i < L' + C
  · rw [if_pos c, if_pos c]
    have v := e3 (C - 1 - (i - L')) (by omega)
    rw [nI_toInt (by omega)]
    exact ⟨rfl, by omega, by omega⟩
  · rw [if_neg c, if_neg c]
    exact h4 i (by omega)
set_option maxHeartbeats 4000000 in
set_option maxRecDepth 100000 in
theorem lX7_put_136 (h0 : am_H) (q : RV) (z : PV) (M : mr_R z q) (L C X : Nat) (hL : L ≤ 60) (hl : (pD z).1 = nI L) (hl2 : rq_N q = nI L) (hX : X < 2 ^ 64) (hC : cl_N 8 0 X = C) (c0 : C ≠ 0) (c8 : C ≤ 8) (c60 : L + C ≤ 60) (mm rr ee : Int32) : ∀ (d i : Nat) (kv : Int32) (o7 : Option Value), i + d = C → (i < C → kv = nI (C - 1 - i)) → (i = C → kv = -1) → am_RW mX7_put h0 (pu_P q z L C X) 0 0 136 [some (.ref 2), some (.long (lN X)), none, some (.int mm), some (.int rr), some (.int ee), some (.int kv), o7] [] (md_H (ru_N (ru_P q (pw_F (rq_P q) L C X i)) (nI (L + i)))) := by
  intro d
  induction d with
  | zero =>
    intro i kv o7 hi k1 k2
    have e : i = C := by omega
    subst e
    have ek := k2 rfl
    subst ek
    refine ar_iload (pc := 136) dX7_put_136 rfl ?_
    refine ar_if_lt (pc := 138) (tgt := 178) dX7_put_138 (by decide) (fun c138 => ?_) (fun c138 => absurd (by decide +kernel) c138)
    refine ar_aload_n (i := 0) (pc := 178) dX7_put_178 rfl rfl ?_
    refine ar_getf (pc := 179) dX7_put_179 fX7_130 rfl rfl ?_
    exact ar_iret (pc := 182) dX7_put_182 rfl rfl rfl (Or.inr (Or.inr ⟨c0, c60, rfl, _, rfl, mr_put M hl hL hX hC c0 c60⟩))
  | succ d ih =>
    intro i kv o7 hi k1 k2
    have ek := k1 (by omega)
    subst ek
    have hinc : ∃ y, nI (C - 1 - i) + Int32.ofInt (-1) = y ∧ (i + 1 < C → y = nI (C - 1 - (i + 1))) ∧ (i + 1 = C → y = -1) := by
      refine ⟨_, rfl, fun h => ?_, fun h => ?_⟩
      · obtain ⟨c, hc⟩ : ∃ c, C - 1 - i = c + 1 := ⟨C - 2 - i, by omega⟩
        rw [hc, ni_dec, show c = C - 1 - (i + 1) by omega]
      · rw [show C - 1 - i = 0 by omega, nI_0]
        decide +kernel
    obtain ⟨y, hy, y1, y2⟩ := hinc
    refine ar_iload (pc := 136) dX7_put_136 rfl ?_
    refine ar_if_lt (pc := 138) (tgt := 178) dX7_put_138 (by decide) (fun c138 => absurd c138 (nI_pos (by omega))) (fun c138 => ?_)
    refine ar_aload_n (i := 0) (pc := 141) dX7_put_141 rfl rfl ?_
    refine ar_getf (pc := 142) dX7_put_142 fX7_23 rfl rfl ?_
    refine ar_aload_n (i := 0) (pc := 145) dX7_put_145 rfl rfl ?_
    refine ar_getf (pc := 146) dX7_put_146 fX7_130 rfl rfl ?_
    refine ar_lload_n (i := 1) (pc := 149) dX7_put_149 rfl rfl ?_
    refine ar_bipush (pc := 150) dX7_put_150 q_bipush_8 ?_
    refine ar_iload (pc := 152) dX7_put_152 rfl ?_
    refine ar_imul (pc := 154) dX7_put_154 ?_
    rw [show (8 : Int32) = nI 8 from rfl, pk_mul]
    refine ar_lshr (pc := 155) dX7_put_155 ?_
    refine ar_ldc2 (pc := 156) dX7_put_156 cX7_136 ?_
    refine ar_land (pc := 159) dX7_put_159 ?_
    rw [by_lshr hX (show C - 1 - i < 8 by omega)]
    refine ar_l2i (pc := 160) dX7_put_160 ?_
    rw [lN_i]
    refine ar_iast (pc := 161) dX7_put_161 rfl (show L + i < 60 by omega) rfl ?_
    rw [md_P]
    refine ar_hp (h' := md_H (ru_N (ru_P q (pw_F (rq_P q) L C X (i + 1))) (nI (L + i)))) (by rw [← pw_s]; rfl) ?_
    refine ar_aload_n (i := 0) (pc := 162) dX7_put_162 rfl rfl ?_
    refine ar_dup (pc := 163) dX7_put_163 rfl ?_
    refine ar_getf (pc := 164) dX7_put_164 fX7_130 rfl rfl ?_
    refine ar_iconst (pc := 167) dX7_put_167 q_iconst_1 ?_
    refine ar_iadd (pc := 168) dX7_put_168 ?_
    rw [show rq_N (ru_N (ru_P q (pw_F (rq_P q) L C X (i + 1))) (nI (L + i))) = nI (L + i) from rfl, nI_1]
    refine ar_putf (pc := 169) dX7_put_169 fX7_130 rfl (Nat.le_of_ble_eq_true rfl) (fun _ => ⟨rfl, rfl⟩) ?_
    rw [md_N]
    refine ar_hp (h' := md_H (ru_N (ru_P q (pw_F (rq_P q) L C X (i + 1))) (nI (L + (i + 1))))) rfl ?_
    refine ar_iinc (pc := 172) dX7_put_172 rfl hy (Nat.le_of_ble_eq_true rfl) rfl ?_
    refine ar_goto (tgt := 136) (pc := 175) dX7_put_175 (by decide) ?_
    exact ih (i + 1) y _ (by omega) y1 y2
theorem cl_z {C X k : Nat} (hI : C = cl_N (8 - k) k (X / 256 ^ k)) (hb : by_N X k = 0) (hk : k < 8) : C = if X / 256 ^ (k + 1) = 0 then k else 0 := by
  obtain ⟨c, hc⟩ : ∃ c, 8 - k = c + 1 := ⟨7 - k, by omega⟩
  rw [hc, cl_N, if_pos (show X / 256 ^ k % 256 = 0 from hb)] at hI
  rw [hI, ← by_s]
  unfold by_N at hb
  by_cases e : X / 256 ^ k = 0
  · rw [if_pos e, if_pos (by rw [e])]
  · rw [if_neg e, if_neg (by omega)]
theorem cl_n {C X k : Nat} (hI : C = cl_N (8 - k) k (X / 256 ^ k)) (hb : ¬ by_N X k = 0) (hv : ¬ (by_N X k < 33 ∨ 126 < by_N X k)) (hk : k < 8) : C = cl_N (8 - (k + 1)) (k + 1) (X / 256 ^ (k + 1)) := by
  obtain ⟨c, hc⟩ : ∃ c, 8 - k = c + 1 := ⟨7 - k, by omega⟩
  rw [hc, cl_N, if_neg (show ¬ X / 256 ^ k % 256 = 0 from hb), if_neg (show ¬ (X / 256 ^ k % 256 < 33 ∨ 126 < X / 256 ^ k % 256) from hv), by_s] at hI
  rw [hI, show 8 - (k + 1) = c by omega]
theorem cl_x {C X k : Nat} (hI : C = cl_N (8 - k) k (X / 256 ^ k)) (hb : ¬ by_N X k = 0) (hv : ¬ (33 ≤ by_N X k ∧ by_N X k ≤ 126)) (hk : k < 8) : C = 0 := by
  obtain ⟨c, hc⟩ : ∃ c, 8 - k = c + 1 := ⟨7 - k, by omega⟩
  rw [hc, cl_N, if_neg (show ¬ X / 256 ^ k % 256 = 0 from hb), if_pos (show X / 256 ^ k % 256 < 33 ∨ 126 < X / 256 ^ k % 256 by unfold by_N at hv; omega)] at hI
  exact hI
theorem cl_i {C X k e : Nat} (hI : C = if X / 256 ^ k = 0 then e else 0) (hb : by_N X k = 0) : C = if X / 256 ^ (k + 1) = 0 then e else 0 := by
  rw [hI, ← by_s]
  unfold by_N at hb
  by_cases c : X / 256 ^ k = 0
  · rw [if_pos c, if_pos (by rw [c])]
  · rw [if_neg c, if_neg (by omega)]
theorem cl_j {C X k e : Nat} (hI : C = if X / 256 ^ k = 0 then e else 0) (hb : ¬ by_N X k = 0) : C = 0 := by
  unfold by_N at hb
  rw [hI, if_neg (fun c => hb (by rw [c]))]
theorem by_lt (X k : Nat) : by_N X k < 256 := Nat.mod_lt _ (by decide)
set_option maxHeartbeats 4000000 in
set_option maxRecDepth 100000 in
theorem lX7_put_11 (q : RV) (z : PV) (M : mr_R z q) (L C X : Nat) (hL : L ≤ 60) (hl : (pD z).1 = nI L) (hl2 : rq_N q = nI L) (hX : X < 2 ^ 64) (hC : cl_N 8 0 X = C) : ∀ (d k : Nat) (mm rr ee : Int32) (o7 : Option Value), k + d = 8 → ((rr = 1 ∧ ee = 0 ∧ mm = nI k ∧ C = cl_N (8 - k) k (X / 256 ^ (k))) ∨ (rr = 1 ∧ ee = 1 ∧ ∃ e, e ≤ 8 ∧ mm = nI e ∧ C = if X / 256 ^ (k) = 0 then e else 0) ∨ (rr = 0 ∧ (ee = 0 ∨ ee = 1) ∧ C = 0)) → am_RW mX7_put (md_H q) (pu_P q z L C X) 0 0 11 [some (.ref 2), some (.long (lN X)), none, some (.int mm), some (.int rr), some (.int ee), some (.int (nI k)), o7] [] (md_H q) := by
  intro d
  induction d with
  | zero =>
    intro k mm rr ee o7 hk hI
    have e : k = 8 := by omega
    subst e
    have x8 := by_8 hX
    rcases hI with ⟨rfl, rfl, em, hI⟩ | ⟨rfl, rfl, e, he, em, hI⟩ | ⟨rfl, h2, hI⟩
    · have eC : C = 8 := by rw [hI, x8]; rfl
      have c8 : C ≤ 8 := by omega
      have em : mm = nI C := by rw [em, eC]
      subst em
      have e0 : nI C = 0 → C = 0 := fun z => (nI_eq (by omega) (by omega)).mp (z.trans nI_0.symm)
      refine ar_iload (pc := 11) dX7_put_11 rfl ?_
      refine ar_bipush (pc := 13) dX7_put_13 q_bipush_8 ?_
      refine ar_icmp_ge (pc := 15) (tgt := 105) dX7_put_15 (by decide) (fun c15 => ?_) (fun c15 => absurd (by decide +kernel) c15)
      refine ar_iload (pc := 105) dX7_put_105 rfl ?_
      refine ar_if_eq (pc := 107) (tgt := 114) dX7_put_107 (by decide) (fun c107 => absurd c107 (by decide)) (fun c107 => ?_)
      refine ar_iload_n (i := 3) (pc := 110) dX7_put_110 rfl rfl ?_
      refine ar_if_ne (pc := 111) (tgt := 117) dX7_put_111 (by decide) (fun c111 => ?_) (fun c111 => ?_)
      · refine ar_aload_n (i := 0) (pc := 117) dX7_put_117 rfl rfl ?_
        refine ar_getf (pc := 118) dX7_put_118 fX7_130 rfl rfl ?_
        refine ar_iload_n (i := 3) (pc := 121) dX7_put_121 rfl rfl ?_
        refine ar_iadd (pc := 122) dX7_put_122 ?_
        rw [hl2, nI_add]
        refine ar_bipush (pc := 123) dX7_put_123 q_bipush_60 ?_
        refine ar_icmp_le (pc := 125) (tgt := 131) dX7_put_125 (by decide) (fun c125 => ?_) (fun c125 => ?_)
        · refine ar_iload_n (i := 3) (pc := 131) dX7_put_131 rfl rfl ?_
          refine ar_iconst (pc := 132) dX7_put_132 q_iconst_1 ?_
          refine ar_isub (pc := 133) dX7_put_133 ?_
          refine ar_istore (pc := 134) dX7_put_134 (Nat.le_of_ble_eq_true rfl) rfl ?_
          have h60 : L + C ≤ 60 := by have h := c125; rw [Int32.le_iff_toInt_le, ti_60, nI_toInt (by omega)] at h; omega
          have hC0 : C ≠ 0 := fun z => c111 (by rw [z, nI_0])
          have h := lX7_put_136 (md_H q) q z M L C X hL hl hl2 hX hC hC0 c8 h60 (nI C) 1 0 C 0 (nI C - 1) o7 (by omega) (fun _ => by obtain ⟨c, hc⟩ : ∃ c, C = c + 1 := ⟨C - 1, by omega⟩; rw [hc, nI_pred]; exact congrArg nI (by omega)) (fun e => absurd e.symm hC0)
          rw [pw_0, Nat.add_zero, ← hl2, ru_P0, ru_N0] at h
          exact h
        · refine ar_bipush (pc := 128) dX7_put_128 q_bipush_m4 ?_
          exact ar_iret (pc := 130) dX7_put_130 rfl rfl rfl (Or.inr (Or.inl ⟨fun z => c111 (by rw [z, nI_0]), by have h := Int32.not_le.mp c125; rw [Int32.lt_iff_toInt_lt, ti_60, nI_toInt (by omega)] at h; omega, rfl, q, rfl, M⟩))
      · refine ar_bipush (pc := 114) dX7_put_114 q_bipush_m2 ?_
        exact ar_iret (pc := 116) dX7_put_116 rfl rfl rfl (Or.inl ⟨by first | exact e0 c111 | exact e0 (c111.trans rfl), rfl, q, rfl, M⟩)
    · have eC : C = e := by rw [hI, x8, if_pos rfl]
      have c8 : C ≤ 8 := by omega
      have em : mm = nI C := by rw [em, eC]
      subst em
      have e0 : nI C = 0 → C = 0 := fun z => (nI_eq (by omega) (by omega)).mp (z.trans nI_0.symm)
      refine ar_iload (pc := 11) dX7_put_11 rfl ?_
      refine ar_bipush (pc := 13) dX7_put_13 q_bipush_8 ?_
      refine ar_icmp_ge (pc := 15) (tgt := 105) dX7_put_15 (by decide) (fun c15 => ?_) (fun c15 => absurd (by decide +kernel) c15)
      refine ar_iload (pc := 105) dX7_put_105 rfl ?_
      refine ar_if_eq (pc := 107) (tgt := 114) dX7_put_107 (by decide) (fun c107 => absurd c107 (by decide)) (fun c107 => ?_)
      refine ar_iload_n (i := 3) (pc := 110) dX7_put_110 rfl rfl ?_
      refine ar_if_ne (pc := 111) (tgt := 117) dX7_put_111 (by decide) (fun c111 => ?_) (fun c111 => ?_)
      · refine ar_aload_n (i := 0) (pc := 117) dX7_put_117 rfl rfl ?_
        refine ar_getf (pc := 118) dX7_put_118 fX7_130 rfl rfl ?_
        refine ar_iload_n (i := 3) (pc := 121) dX7_put_121 rfl rfl ?_
        refine ar_iadd (pc := 122) dX7_put_122 ?_
        rw [hl2, nI_add]
        refine ar_bipush (pc := 123) dX7_put_123 q_bipush_60 ?_
        refine ar_icmp_le (pc := 125) (tgt := 131) dX7_put_125 (by decide) (fun c125 => ?_) (fun c125 => ?_)
        · refine ar_iload_n (i := 3) (pc := 131) dX7_put_131 rfl rfl ?_
          refine ar_iconst (pc := 132) dX7_put_132 q_iconst_1 ?_
          refine ar_isub (pc := 133) dX7_put_133 ?_
          refine ar_istore (pc := 134) dX7_put_134 (Nat.le_of_ble_eq_true rfl) rfl ?_
          have h60 : L + C ≤ 60 := by have h := c125; rw [Int32.le_iff_toInt_le, ti_60, nI_toInt (by omega)] at h; omega
          have hC0 : C ≠ 0 := fun z => c111 (by rw [z, nI_0])
          have h := lX7_put_136 (md_H q) q z M L C X hL hl hl2 hX hC hC0 c8 h60 (nI C) 1 1 C 0 (nI C - 1) o7 (by omega) (fun _ => by obtain ⟨c, hc⟩ : ∃ c, C = c + 1 := ⟨C - 1, by omega⟩; rw [hc, nI_pred]; exact congrArg nI (by omega)) (fun e => absurd e.symm hC0)
          rw [pw_0, Nat.add_zero, ← hl2, ru_P0, ru_N0] at h
          exact h
        · refine ar_bipush (pc := 128) dX7_put_128 q_bipush_m4 ?_
          exact ar_iret (pc := 130) dX7_put_130 rfl rfl rfl (Or.inr (Or.inl ⟨fun z => c111 (by rw [z, nI_0]), by have h := Int32.not_le.mp c125; rw [Int32.lt_iff_toInt_lt, ti_60, nI_toInt (by omega)] at h; omega, rfl, q, rfl, M⟩))
      · refine ar_bipush (pc := 114) dX7_put_114 q_bipush_m2 ?_
        exact ar_iret (pc := 116) dX7_put_116 rfl rfl rfl (Or.inl ⟨by first | exact e0 c111 | exact e0 (c111.trans rfl), rfl, q, rfl, M⟩)
    · skip
      refine ar_iload (pc := 11) dX7_put_11 rfl ?_
      refine ar_bipush (pc := 13) dX7_put_13 q_bipush_8 ?_
      refine ar_icmp_ge (pc := 15) (tgt := 105) dX7_put_15 (by decide) (fun c15 => ?_) (fun c15 => absurd (by decide +kernel) c15)
      refine ar_iload (pc := 105) dX7_put_105 rfl ?_
      refine ar_if_eq (pc := 107) (tgt := 114) dX7_put_107 (by decide) (fun c107 => ?_) (fun c107 => absurd rfl c107)
      refine ar_bipush (pc := 114) dX7_put_114 q_bipush_m2 ?_
      exact ar_iret (pc := 116) dX7_put_116 rfl rfl rfl (Or.inl ⟨hI, rfl, q, rfl, M⟩)
  | succ d ih =>
    intro k mm rr ee o7 hk hI
    have hb256 := by_lt X k
    rcases hI with ⟨rfl, rfl, rfl, hI⟩ | ⟨rfl, rfl, e, he, rfl, hI⟩ | ⟨rfl, h2, hI⟩
    · by_cases hb0 : by_N X k = 0
      · skip
        refine ar_iload (pc := 11) dX7_put_11 rfl ?_
        refine ar_bipush (pc := 13) dX7_put_13 q_bipush_8 ?_
        refine ar_icmp_ge (pc := 15) (tgt := 105) dX7_put_15 (by decide) (fun c15 => absurd ((nI_leI (a := 8) (b := k) (by omega) (by omega)).mp c15) (by omega)) (fun c15 => ?_)
        refine ar_lload_n (i := 1) (pc := 18) dX7_put_18 rfl rfl ?_
        refine ar_bipush (pc := 19) dX7_put_19 q_bipush_8 ?_
        refine ar_iload (pc := 21) dX7_put_21 rfl ?_
        refine ar_imul (pc := 23) dX7_put_23 ?_
        rw [show (8 : Int32) = nI 8 from rfl, pk_mul]
        refine ar_lshr (pc := 24) dX7_put_24 ?_
        refine ar_ldc2 (pc := 25) dX7_put_25 cX7_136 ?_
        refine ar_land (pc := 28) dX7_put_28 ?_
        rw [by_lshr hX (show k < 8 by omega)]
        refine ar_l2i (pc := 29) dX7_put_29 ?_
        rw [lN_i]
        refine ar_istore (pc := 30) dX7_put_30 (Nat.le_of_ble_eq_true rfl) rfl ?_
        refine ar_iload (pc := 32) dX7_put_32 rfl ?_
        refine ar_if_ne (pc := 34) (tgt := 42) dX7_put_34 (by decide) (fun c34 => absurd rfl c34) (fun c34 => ?_)
        refine ar_iload (pc := 37) dX7_put_37 rfl ?_
        refine ar_if_ne (pc := 39) (tgt := 46) dX7_put_39 (by decide) (fun c39 => absurd (show nI (by_N X k) = 0 by rw [hb0, nI_0]) c39) (fun c39 => ?_)
        refine ar_iconst (pc := 42) dX7_put_42 q_iconst_1 ?_
        refine ar_goto (tgt := 47) (pc := 43) dX7_put_43 (by decide) ?_
        refine ar_istore (pc := 47) dX7_put_47 (Nat.le_of_ble_eq_true rfl) rfl ?_
        refine ar_iload (pc := 49) dX7_put_49 rfl ?_
        refine ar_if_eq (pc := 51) (tgt := 83) dX7_put_51 (by decide) (fun c51 => absurd c51 (by decide)) (fun c51 => ?_)
        refine ar_iload (pc := 54) dX7_put_54 rfl ?_
        refine ar_if_eq (pc := 56) (tgt := 67) dX7_put_56 (by decide) (fun c56 => absurd c56 (by decide)) (fun c56 => ?_)
        refine ar_iload (pc := 59) dX7_put_59 rfl ?_
        refine ar_if_ne (pc := 61) (tgt := 83) dX7_put_61 (by decide) (fun c61 => absurd (show nI (by_N X k) = 0 by rw [hb0, nI_0]) c61) (fun c61 => ?_)
        refine ar_goto (tgt := 79) (pc := 64) dX7_put_64 (by decide) ?_
        refine ar_iconst (pc := 79) dX7_put_79 q_iconst_1 ?_
        refine ar_goto (tgt := 84) (pc := 80) dX7_put_80 (by decide) ?_
        refine ar_istore (pc := 84) dX7_put_84 (Nat.le_of_ble_eq_true rfl) rfl ?_
        refine ar_iload_n (i := 3) (pc := 86) dX7_put_86 rfl rfl ?_
        refine ar_iload (pc := 87) dX7_put_87 rfl ?_
        refine ar_if_eq (pc := 89) (tgt := 96) dX7_put_89 (by decide) (fun c89 => absurd c89 (by decide)) (fun c89 => ?_)
        refine ar_iconst (pc := 92) dX7_put_92 q_iconst_0 ?_
        refine ar_goto (tgt := 97) (pc := 93) dX7_put_93 (by decide) ?_
        refine ar_iadd (pc := 97) dX7_put_97 ?_
        refine ar_istore_n (i := 3) (pc := 98) dX7_put_98 rfl (Nat.le_of_ble_eq_true rfl) rfl ?_
        refine ar_iinc (pc := 99) dX7_put_99 rfl (ni_inc _) (Nat.le_of_ble_eq_true rfl) rfl ?_
        refine ar_goto (tgt := 11) (pc := 102) dX7_put_102 (by decide) ?_
        exact ih (k + 1) _ 1 1 _ (by omega) (Or.inr (Or.inl ⟨rfl, rfl, k, by omega, by rw [add_0'], cl_z hI hb0 (by omega)⟩))
      · skip
        refine ar_iload (pc := 11) dX7_put_11 rfl ?_
        refine ar_bipush (pc := 13) dX7_put_13 q_bipush_8 ?_
        refine ar_icmp_ge (pc := 15) (tgt := 105) dX7_put_15 (by decide) (fun c15 => absurd ((nI_leI (a := 8) (b := k) (by omega) (by omega)).mp c15) (by omega)) (fun c15 => ?_)
        refine ar_lload_n (i := 1) (pc := 18) dX7_put_18 rfl rfl ?_
        refine ar_bipush (pc := 19) dX7_put_19 q_bipush_8 ?_
        refine ar_iload (pc := 21) dX7_put_21 rfl ?_
        refine ar_imul (pc := 23) dX7_put_23 ?_
        rw [show (8 : Int32) = nI 8 from rfl, pk_mul]
        refine ar_lshr (pc := 24) dX7_put_24 ?_
        refine ar_ldc2 (pc := 25) dX7_put_25 cX7_136 ?_
        refine ar_land (pc := 28) dX7_put_28 ?_
        rw [by_lshr hX (show k < 8 by omega)]
        refine ar_l2i (pc := 29) dX7_put_29 ?_
        rw [lN_i]
        refine ar_istore (pc := 30) dX7_put_30 (Nat.le_of_ble_eq_true rfl) rfl ?_
        refine ar_iload (pc := 32) dX7_put_32 rfl ?_
        refine ar_if_ne (pc := 34) (tgt := 42) dX7_put_34 (by decide) (fun c34 => absurd rfl c34) (fun c34 => ?_)
        refine ar_iload (pc := 37) dX7_put_37 rfl ?_
        refine ar_if_ne (pc := 39) (tgt := 46) dX7_put_39 (by decide) (fun c39 => ?_) (fun c39 => absurd c39 (nI_ne0 (by omega) (by omega)))
        refine ar_iconst (pc := 46) dX7_put_46 q_iconst_0 ?_
        refine ar_istore (pc := 47) dX7_put_47 (Nat.le_of_ble_eq_true rfl) rfl ?_
        refine ar_iload (pc := 49) dX7_put_49 rfl ?_
        refine ar_if_eq (pc := 51) (tgt := 83) dX7_put_51 (by decide) (fun c51 => absurd c51 (by decide)) (fun c51 => ?_)
        refine ar_iload (pc := 54) dX7_put_54 rfl ?_
        refine ar_if_eq (pc := 56) (tgt := 67) dX7_put_56 (by decide) (fun c56 => ?_) (fun c56 => absurd rfl c56)
        refine ar_iload (pc := 67) dX7_put_67 rfl ?_
        refine ar_bipush (pc := 69) dX7_put_69 q_bipush_33 ?_
        refine ar_bipush (pc := 71) dX7_put_71 q_bipush_126 ?_
        refine ar_idS (pc := 73) dX7_put_73 cal_X7_in kX7_32 rfl (sX7_inB _ (nI (by_N X k)) 33 126) rfl rfl rfl rfl rfl (fun r h1 hp => ?_)
        obtain ⟨⟨h73, rfl⟩ | ⟨h73, rfl⟩, rfl⟩ := hp
        · refine ⟨rfl, ?_⟩
          refine ar_if_eq (pc := 76) (tgt := 83) dX7_put_76 (by decide) (fun c76 => absurd c76 (by decide)) (fun c76 => ?_)
          refine ar_iconst (pc := 79) dX7_put_79 q_iconst_1 ?_
          refine ar_goto (tgt := 84) (pc := 80) dX7_put_80 (by decide) ?_
          refine ar_istore (pc := 84) dX7_put_84 (Nat.le_of_ble_eq_true rfl) rfl ?_
          refine ar_iload_n (i := 3) (pc := 86) dX7_put_86 rfl rfl ?_
          refine ar_iload (pc := 87) dX7_put_87 rfl ?_
          refine ar_if_eq (pc := 89) (tgt := 96) dX7_put_89 (by decide) (fun c89 => ?_) (fun c89 => absurd rfl c89)
          refine ar_iconst (pc := 96) dX7_put_96 q_iconst_1 ?_
          refine ar_iadd (pc := 97) dX7_put_97 ?_
          refine ar_istore_n (i := 3) (pc := 98) dX7_put_98 rfl (Nat.le_of_ble_eq_true rfl) rfl ?_
          refine ar_iinc (pc := 99) dX7_put_99 rfl (ni_inc _) (Nat.le_of_ble_eq_true rfl) rfl ?_
          refine ar_goto (tgt := 11) (pc := 102) dX7_put_102 (by decide) ?_
          exact ih (k + 1) _ 1 0 _ (by omega) (Or.inl ⟨rfl, rfl, nI_1 k, cl_n hI hb0 (by rw [show (33 : Int32).toInt = 33 by decide +kernel, show (126 : Int32).toInt = 126 by decide +kernel, nI_toInt (by omega)] at h73; omega) (by omega)⟩)
        · refine ⟨rfl, ?_⟩
          refine ar_if_eq (pc := 76) (tgt := 83) dX7_put_76 (by decide) (fun c76 => ?_) (fun c76 => absurd c76 (by decide))
          refine ar_iconst (pc := 83) dX7_put_83 q_iconst_0 ?_
          refine ar_istore (pc := 84) dX7_put_84 (Nat.le_of_ble_eq_true rfl) rfl ?_
          refine ar_iload_n (i := 3) (pc := 86) dX7_put_86 rfl rfl ?_
          refine ar_iload (pc := 87) dX7_put_87 rfl ?_
          refine ar_if_eq (pc := 89) (tgt := 96) dX7_put_89 (by decide) (fun c89 => ?_) (fun c89 => absurd rfl c89)
          refine ar_iconst (pc := 96) dX7_put_96 q_iconst_1 ?_
          refine ar_iadd (pc := 97) dX7_put_97 ?_
          refine ar_istore_n (i := 3) (pc := 98) dX7_put_98 rfl (Nat.le_of_ble_eq_true rfl) rfl ?_
          refine ar_iinc (pc := 99) dX7_put_99 rfl (ni_inc _) (Nat.le_of_ble_eq_true rfl) rfl ?_
          refine ar_goto (tgt := 11) (pc := 102) dX7_put_102 (by decide) ?_
          exact ih (k + 1) _ 0 0 _ (by omega) (Or.inr (Or.inr ⟨rfl, Or.inl rfl, cl_x hI hb0 (fun e => h73 (by rw [show (33 : Int32).toInt = 33 by decide +kernel, show (126 : Int32).toInt = 126 by decide +kernel, nI_toInt (by omega)]; omega)) (by omega)⟩))
    · by_cases hb0 : by_N X k = 0
      · skip
        refine ar_iload (pc := 11) dX7_put_11 rfl ?_
        refine ar_bipush (pc := 13) dX7_put_13 q_bipush_8 ?_
        refine ar_icmp_ge (pc := 15) (tgt := 105) dX7_put_15 (by decide) (fun c15 => absurd ((nI_leI (a := 8) (b := k) (by omega) (by omega)).mp c15) (by omega)) (fun c15 => ?_)
        refine ar_lload_n (i := 1) (pc := 18) dX7_put_18 rfl rfl ?_
        refine ar_bipush (pc := 19) dX7_put_19 q_bipush_8 ?_
        refine ar_iload (pc := 21) dX7_put_21 rfl ?_
        refine ar_imul (pc := 23) dX7_put_23 ?_
        rw [show (8 : Int32) = nI 8 from rfl, pk_mul]
        refine ar_lshr (pc := 24) dX7_put_24 ?_
        refine ar_ldc2 (pc := 25) dX7_put_25 cX7_136 ?_
        refine ar_land (pc := 28) dX7_put_28 ?_
        rw [by_lshr hX (show k < 8 by omega)]
        refine ar_l2i (pc := 29) dX7_put_29 ?_
        rw [lN_i]
        refine ar_istore (pc := 30) dX7_put_30 (Nat.le_of_ble_eq_true rfl) rfl ?_
        refine ar_iload (pc := 32) dX7_put_32 rfl ?_
        refine ar_if_ne (pc := 34) (tgt := 42) dX7_put_34 (by decide) (fun c34 => ?_) (fun c34 => absurd c34 (by decide))
        refine ar_iconst (pc := 42) dX7_put_42 q_iconst_1 ?_
        refine ar_goto (tgt := 47) (pc := 43) dX7_put_43 (by decide) ?_
        refine ar_istore (pc := 47) dX7_put_47 (Nat.le_of_ble_eq_true rfl) rfl ?_
        refine ar_iload (pc := 49) dX7_put_49 rfl ?_
        refine ar_if_eq (pc := 51) (tgt := 83) dX7_put_51 (by decide) (fun c51 => absurd c51 (by decide)) (fun c51 => ?_)
        refine ar_iload (pc := 54) dX7_put_54 rfl ?_
        refine ar_if_eq (pc := 56) (tgt := 67) dX7_put_56 (by decide) (fun c56 => absurd c56 (by decide)) (fun c56 => ?_)
        refine ar_iload (pc := 59) dX7_put_59 rfl ?_
        refine ar_if_ne (pc := 61) (tgt := 83) dX7_put_61 (by decide) (fun c61 => absurd (show nI (by_N X k) = 0 by rw [hb0, nI_0]) c61) (fun c61 => ?_)
        refine ar_goto (tgt := 79) (pc := 64) dX7_put_64 (by decide) ?_
        refine ar_iconst (pc := 79) dX7_put_79 q_iconst_1 ?_
        refine ar_goto (tgt := 84) (pc := 80) dX7_put_80 (by decide) ?_
        refine ar_istore (pc := 84) dX7_put_84 (Nat.le_of_ble_eq_true rfl) rfl ?_
        refine ar_iload_n (i := 3) (pc := 86) dX7_put_86 rfl rfl ?_
        refine ar_iload (pc := 87) dX7_put_87 rfl ?_
        refine ar_if_eq (pc := 89) (tgt := 96) dX7_put_89 (by decide) (fun c89 => absurd c89 (by decide)) (fun c89 => ?_)
        refine ar_iconst (pc := 92) dX7_put_92 q_iconst_0 ?_
        refine ar_goto (tgt := 97) (pc := 93) dX7_put_93 (by decide) ?_
        refine ar_iadd (pc := 97) dX7_put_97 ?_
        refine ar_istore_n (i := 3) (pc := 98) dX7_put_98 rfl (Nat.le_of_ble_eq_true rfl) rfl ?_
        refine ar_iinc (pc := 99) dX7_put_99 rfl (ni_inc _) (Nat.le_of_ble_eq_true rfl) rfl ?_
        refine ar_goto (tgt := 11) (pc := 102) dX7_put_102 (by decide) ?_
        exact ih (k + 1) _ 1 1 _ (by omega) (Or.inr (Or.inl ⟨rfl, rfl, e, he, by rw [add_0'], cl_i hI hb0⟩))
      · skip
        refine ar_iload (pc := 11) dX7_put_11 rfl ?_
        refine ar_bipush (pc := 13) dX7_put_13 q_bipush_8 ?_
        refine ar_icmp_ge (pc := 15) (tgt := 105) dX7_put_15 (by decide) (fun c15 => absurd ((nI_leI (a := 8) (b := k) (by omega) (by omega)).mp c15) (by omega)) (fun c15 => ?_)
        refine ar_lload_n (i := 1) (pc := 18) dX7_put_18 rfl rfl ?_
        refine ar_bipush (pc := 19) dX7_put_19 q_bipush_8 ?_
        refine ar_iload (pc := 21) dX7_put_21 rfl ?_
        refine ar_imul (pc := 23) dX7_put_23 ?_
        rw [show (8 : Int32) = nI 8 from rfl, pk_mul]
        refine ar_lshr (pc := 24) dX7_put_24 ?_
        refine ar_ldc2 (pc := 25) dX7_put_25 cX7_136 ?_
        refine ar_land (pc := 28) dX7_put_28 ?_
        rw [by_lshr hX (show k < 8 by omega)]
        refine ar_l2i (pc := 29) dX7_put_29 ?_
        rw [lN_i]
        refine ar_istore (pc := 30) dX7_put_30 (Nat.le_of_ble_eq_true rfl) rfl ?_
        refine ar_iload (pc := 32) dX7_put_32 rfl ?_
        refine ar_if_ne (pc := 34) (tgt := 42) dX7_put_34 (by decide) (fun c34 => ?_) (fun c34 => absurd c34 (by decide))
        refine ar_iconst (pc := 42) dX7_put_42 q_iconst_1 ?_
        refine ar_goto (tgt := 47) (pc := 43) dX7_put_43 (by decide) ?_
        refine ar_istore (pc := 47) dX7_put_47 (Nat.le_of_ble_eq_true rfl) rfl ?_
        refine ar_iload (pc := 49) dX7_put_49 rfl ?_
        refine ar_if_eq (pc := 51) (tgt := 83) dX7_put_51 (by decide) (fun c51 => absurd c51 (by decide)) (fun c51 => ?_)
        refine ar_iload (pc := 54) dX7_put_54 rfl ?_
        refine ar_if_eq (pc := 56) (tgt := 67) dX7_put_56 (by decide) (fun c56 => absurd c56 (by decide)) (fun c56 => ?_)
        refine ar_iload (pc := 59) dX7_put_59 rfl ?_
        refine ar_if_ne (pc := 61) (tgt := 83) dX7_put_61 (by decide) (fun c61 => ?_) (fun c61 => absurd c61 (nI_ne0 (by omega) (by omega)))
        refine ar_iconst (pc := 83) dX7_put_83 q_iconst_0 ?_
        refine ar_istore (pc := 84) dX7_put_84 (Nat.le_of_ble_eq_true rfl) rfl ?_
        refine ar_iload_n (i := 3) (pc := 86) dX7_put_86 rfl rfl ?_
        refine ar_iload (pc := 87) dX7_put_87 rfl ?_
        refine ar_if_eq (pc := 89) (tgt := 96) dX7_put_89 (by decide) (fun c89 => absurd c89 (by decide)) (fun c89 => ?_)
        refine ar_iconst (pc := 92) dX7_put_92 q_iconst_0 ?_
        refine ar_goto (tgt := 97) (pc := 93) dX7_put_93 (by decide) ?_
        refine ar_iadd (pc := 97) dX7_put_97 ?_
        refine ar_istore_n (i := 3) (pc := 98) dX7_put_98 rfl (Nat.le_of_ble_eq_true rfl) rfl ?_
        refine ar_iinc (pc := 99) dX7_put_99 rfl (ni_inc _) (Nat.le_of_ble_eq_true rfl) rfl ?_
        refine ar_goto (tgt := 11) (pc := 102) dX7_put_102 (by decide) ?_
        exact ih (k + 1) _ 0 1 _ (by omega) (Or.inr (Or.inr ⟨rfl, Or.inr rfl, cl_j hI hb0⟩))
    · skip
      refine ar_iload (pc := 11) dX7_put_11 rfl ?_
      refine ar_bipush (pc := 13) dX7_put_13 q_bipush_8 ?_
      refine ar_icmp_ge (pc := 15) (tgt := 105) dX7_put_15 (by decide) (fun c15 => absurd ((nI_leI (a := 8) (b := k) (by omega) (by omega)).mp c15) (by omega)) (fun c15 => ?_)
      refine ar_lload_n (i := 1) (pc := 18) dX7_put_18 rfl rfl ?_
      refine ar_bipush (pc := 19) dX7_put_19 q_bipush_8 ?_
      refine ar_iload (pc := 21) dX7_put_21 rfl ?_
      refine ar_imul (pc := 23) dX7_put_23 ?_
      rw [show (8 : Int32) = nI 8 from rfl, pk_mul]
      refine ar_lshr (pc := 24) dX7_put_24 ?_
      refine ar_ldc2 (pc := 25) dX7_put_25 cX7_136 ?_
      refine ar_land (pc := 28) dX7_put_28 ?_
      rw [by_lshr hX (show k < 8 by omega)]
      refine ar_l2i (pc := 29) dX7_put_29 ?_
      rw [lN_i]
      refine ar_istore (pc := 30) dX7_put_30 (Nat.le_of_ble_eq_true rfl) rfl ?_
      refine ar_iload (pc := 32) dX7_put_32 rfl ?_
      refine ar_if_ne (pc := 34) (tgt := 42) dX7_put_34 (by decide) (fun c34 => ?_) (fun c34 => ?_)
      · refine ar_iconst (pc := 42) dX7_put_42 q_iconst_1 ?_
        refine ar_goto (tgt := 47) (pc := 43) dX7_put_43 (by decide) ?_
        refine ar_istore (pc := 47) dX7_put_47 (Nat.le_of_ble_eq_true rfl) rfl ?_
        refine ar_iload (pc := 49) dX7_put_49 rfl ?_
        refine ar_if_eq (pc := 51) (tgt := 83) dX7_put_51 (by decide) (fun c51 => ?_) (fun c51 => absurd rfl c51)
        refine ar_iconst (pc := 83) dX7_put_83 q_iconst_0 ?_
        refine ar_istore (pc := 84) dX7_put_84 (Nat.le_of_ble_eq_true rfl) rfl ?_
        refine ar_iload_n (i := 3) (pc := 86) dX7_put_86 rfl rfl ?_
        refine ar_iload (pc := 87) dX7_put_87 rfl ?_
        refine ar_if_eq (pc := 89) (tgt := 96) dX7_put_89 (by decide) (fun c89 => absurd c89 (by decide)) (fun c89 => ?_)
        refine ar_iconst (pc := 92) dX7_put_92 q_iconst_0 ?_
        refine ar_goto (tgt := 97) (pc := 93) dX7_put_93 (by decide) ?_
        refine ar_iadd (pc := 97) dX7_put_97 ?_
        refine ar_istore_n (i := 3) (pc := 98) dX7_put_98 rfl (Nat.le_of_ble_eq_true rfl) rfl ?_
        refine ar_iinc (pc := 99) dX7_put_99 rfl (ni_inc _) (Nat.le_of_ble_eq_true rfl) rfl ?_
        refine ar_goto (tgt := 11) (pc := 102) dX7_put_102 (by decide) ?_
        exact ih (k + 1) _ 0 1 _ (by omega) (Or.inr (Or.inr ⟨rfl, Or.inr rfl, hI⟩))
      · refine ar_iload (pc := 37) dX7_put_37 rfl ?_
        refine ar_if_ne (pc := 39) (tgt := 46) dX7_put_39 (by decide) (fun c39 => ?_) (fun c39 => ?_)
        · refine ar_iconst (pc := 46) dX7_put_46 q_iconst_0 ?_
          refine ar_istore (pc := 47) dX7_put_47 (Nat.le_of_ble_eq_true rfl) rfl ?_
          refine ar_iload (pc := 49) dX7_put_49 rfl ?_
          refine ar_if_eq (pc := 51) (tgt := 83) dX7_put_51 (by decide) (fun c51 => ?_) (fun c51 => absurd rfl c51)
          refine ar_iconst (pc := 83) dX7_put_83 q_iconst_0 ?_
          refine ar_istore (pc := 84) dX7_put_84 (Nat.le_of_ble_eq_true rfl) rfl ?_
          refine ar_iload_n (i := 3) (pc := 86) dX7_put_86 rfl rfl ?_
          refine ar_iload (pc := 87) dX7_put_87 rfl ?_
          refine ar_if_eq (pc := 89) (tgt := 96) dX7_put_89 (by decide) (fun c89 => ?_) (fun c89 => absurd rfl c89)
          refine ar_iconst (pc := 96) dX7_put_96 q_iconst_1 ?_
          refine ar_iadd (pc := 97) dX7_put_97 ?_
          refine ar_istore_n (i := 3) (pc := 98) dX7_put_98 rfl (Nat.le_of_ble_eq_true rfl) rfl ?_
          refine ar_iinc (pc := 99) dX7_put_99 rfl (ni_inc _) (Nat.le_of_ble_eq_true rfl) rfl ?_
          refine ar_goto (tgt := 11) (pc := 102) dX7_put_102 (by decide) ?_
          exact ih (k + 1) _ 0 0 _ (by omega) (Or.inr (Or.inr ⟨rfl, Or.inl rfl, hI⟩))
        · refine ar_iconst (pc := 42) dX7_put_42 q_iconst_1 ?_
          refine ar_goto (tgt := 47) (pc := 43) dX7_put_43 (by decide) ?_
          refine ar_istore (pc := 47) dX7_put_47 (Nat.le_of_ble_eq_true rfl) rfl ?_
          refine ar_iload (pc := 49) dX7_put_49 rfl ?_
          refine ar_if_eq (pc := 51) (tgt := 83) dX7_put_51 (by decide) (fun c51 => ?_) (fun c51 => absurd rfl c51)
          refine ar_iconst (pc := 83) dX7_put_83 q_iconst_0 ?_
          refine ar_istore (pc := 84) dX7_put_84 (Nat.le_of_ble_eq_true rfl) rfl ?_
          refine ar_iload_n (i := 3) (pc := 86) dX7_put_86 rfl rfl ?_
          refine ar_iload (pc := 87) dX7_put_87 rfl ?_
          refine ar_if_eq (pc := 89) (tgt := 96) dX7_put_89 (by decide) (fun c89 => absurd c89 (by decide)) (fun c89 => ?_)
          refine ar_iconst (pc := 92) dX7_put_92 q_iconst_0 ?_
          refine ar_goto (tgt := 97) (pc := 93) dX7_put_93 (by decide) ?_
          refine ar_iadd (pc := 97) dX7_put_97 ?_
          refine ar_istore_n (i := 3) (pc := 98) dX7_put_98 rfl (Nat.le_of_ble_eq_true rfl) rfl ?_
          refine ar_iinc (pc := 99) dX7_put_99 rfl (ni_inc _) (Nat.le_of_ble_eq_true rfl) rfl ?_
          refine ar_goto (tgt := 11) (pc := 102) dX7_put_102 (by decide) ?_
          exact ih (k + 1) _ 0 1 _ (by omega) (Or.inr (Or.inr ⟨rfl, Or.inr rfl, hI⟩))
set_option maxHeartbeats 4000000 in
set_option maxRecDepth 100000 in
theorem sX7_put (q : RV) (z : PV) (M : mr_R z q) (L C X : Nat) (hL : L ≤ 60) (hl : (pD z).1 = nI L) (hl2 : rq_N q = nI L) (hX : X < 2 ^ 64) (hC : cl_N 8 0 X = C) : am_Sp mX7_put [.ref 2, .long (lN X)] (md_H q) (pu_P q z L C X) := by
  refine am_intro (by decide) (Nat.le_of_ble_eq_true rfl) ?_
  refine ar_iconst (pc := 0) dX7_put_0 q_iconst_0 ?_
  refine ar_istore_n (i := 3) (pc := 1) dX7_put_1 rfl (Nat.le_of_ble_eq_true rfl) rfl ?_
  refine ar_iconst (pc := 2) dX7_put_2 q_iconst_1 ?_
  refine ar_istore (pc := 3) dX7_put_3 (Nat.le_of_ble_eq_true rfl) rfl ?_
  refine ar_iconst (pc := 5) dX7_put_5 q_iconst_0 ?_
  refine ar_istore (pc := 6) dX7_put_6 (Nat.le_of_ble_eq_true rfl) rfl ?_
  refine ar_iconst (pc := 8) dX7_put_8 q_iconst_0 ?_
  refine ar_istore (pc := 9) dX7_put_9 (Nat.le_of_ble_eq_true rfl) rfl ?_
  rw [← nI_0]
  have h := lX7_put_11 q z M L C X hL hl hl2 hX hC 8 0 (nI 0) 1 (nI 0) none (by omega) (Or.inl ⟨rfl, nI_0, rfl, by rw [Nat.pow_zero, Nat.div_one]; exact hC.symm⟩)
  exact h

set_option maxHeartbeats 4000000 in
set_option maxRecDepth 100000 in
theorem sX7_wipe (q : RV) (z : PV) (M : mr_R z q) : am_Sp mX7_wipe [.ref 2] (md_H q) (qq_P (pD z).1 (sD z (0, (pD z).2))) := by
  refine am_intro (by decide) (Nat.le_of_ble_eq_true rfl) ?_
  have M2 : mr_R (sD z (0, (pD z).2)) (ru_N q 0) := ⟨M.1, M.2.1, M.2.2.1, ⟨0, by omega, nI_0.symm, nI_0.symm, fun i hi => absurd hi (Nat.not_lt_zero i)⟩⟩
  have e1 : rq_N q = (pD z).1 := by obtain ⟨L, -, e1, e2, -⟩ := M.2.2.2; rw [e1, e2]
  refine ar_aload_n (i := 0) (pc := 0) dX7_wipe_0 rfl rfl ?_
  refine ar_getf (pc := 1) dX7_wipe_1 fX7_130 rfl rfl ?_
  refine ar_istore_n (i := 1) (pc := 4) dX7_wipe_4 rfl (Nat.le_of_ble_eq_true rfl) rfl ?_
  refine ar_aload_n (i := 0) (pc := 5) dX7_wipe_5 rfl rfl ?_
  refine ar_iconst (pc := 6) dX7_wipe_6 q_iconst_0 ?_
  refine ar_putf (pc := 7) dX7_wipe_7 fX7_130 rfl (Nat.le_of_ble_eq_true rfl) (fun _ => ⟨rfl, rfl⟩) ?_
  refine ar_iload_n (i := 1) (pc := 10) dX7_wipe_10 rfl rfl ?_
  rw [md_N]
  exact ar_iret (pc := 11) dX7_wipe_11 rfl rfl rfl ⟨by rw [e1], _, rfl, M2⟩

