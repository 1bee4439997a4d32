/-! the class Day: a day -/
/-- the post of the hats -/
def phP (t : Nat → Int32) (q : SV) (n : Nat) (r : Int32) : Option Value → am_H → Prop := fun r0 h1 => r0 = some (.int (cns q n t r 8)) ∧ h1 = vsQ t q (phV q n t r)
def daV (q : SV) (r : Int32) : SV := uRa (uDa q (vDa q + 1)) (if r = 0 then vRa q else vRa q + 1)
def rnV (u : SV) : Int32 := if drw (vX u) 100 < vS u 5 then 1 else 0
theorem daV_0 (q : SV) {r : Int32} (h : r = 0) : daV q r = uDa q (vDa q + 1) := by rw [daV, if_pos h]; rfl
theorem daV_1 (q : SV) {r : Int32} (h : ¬ r = 0) : daV q r = uRa (uDa q (vDa q + 1)) (vRa q + 1) := by rw [daV, if_neg h]
theorem vsQ_e (t : Nat → Int32) (q w : SV) (h : vS w = vS q) : vsH t (arF 1 t (vS q 0) (vS q 2)) (taF 1 t (vS q 0) (vS q 2)) (vS q 2) (paF 1 t (vS q 0) (vS q 2)) (arF 0 t (vS q 1) (vS q 2)) (taF 0 t (vS q 1) (vS q 2)) (vS q 2) (paF 0 t (vS q 1) (vS q 2)) w = vsQ t w w := by rw [← h]
theorem vS_daV (q : SV) (r : Int32) : vS (daV q r) = vS q := rfl
theorem vBo_daV (q : SV) (r : Int32) : vBo (daV q r) = vBo q := rfl
theorem vP_daV (q : SV) (r : Int32) : vP (daV q r) = vP q := rfl
theorem vS_uX (q : SV) (x : Int64) : vS (uX q x) = vS q := rfl
theorem vBo_uX (q : SV) (x : Int64) : vBo (uX q x) = vBo q := rfl
theorem vP_uX (q : SV) (x : Int64) : vP (uX q x) = vP q := rfl
theorem vRa_uDa (q : SV) (x : Int32) : vRa (uDa q x) = vRa q := rfl
theorem rnV_1 {u : SV} {y : Int32} (e : y = drw (vX u) 100) (h : y < vS u 5) : rnV u = 1 := by subst e; rw [rnV, if_pos h]
theorem rnV_0 {u : SV} {y : Int32} (e : y = drw (vX u) 100) (h : ¬ y < vS u 5) : rnV u = 0 := by subst e; rw [rnV, if_neg h]
set_option maxHeartbeats 4000000 in
set_option maxRecDepth 100000 in
theorem lX0_pass_53 (h0 : am_H) (t : Nat → Int32) (q : SV) (n : Nat) (hn : vBo q = nI n) (h8 : n ≤ 8) (hp : ∀ k, k < 8 → stP q n k → inP (vP q k)) (r : Int32) : am_RW mX0_pass h0 (phP t q n r) (0 + am_nc mX0_drawLots + am_nc mX0_choosePitches + am_nc mX3_draw + am_nc mX3_setting) (0 + am_ns mX0_drawLots + am_ns mX0_choosePitches + am_ns mX3_draw + am_ns mX3_setting) 53 [some (.ref 10), some (.ref 2), some (.int r)] [] (vsQ t q q) := by
  refine ar_aload_n (i := 0) (pc := 53) dX0_pass_53 rfl rfl ?_
  refine ar_aload_n (i := 1) (pc := 54) dX0_pass_54 rfl rfl ?_
  refine ar_iload_n (i := 2) (pc := 55) dX0_pass_55 rfl rfl ?_
  refine ar_idS (pc := 56) dX0_pass_56 cal_X0_passHats kX0_35 rfl (sX0_passHats t q n hn h8 hp r) rfl rfl rfl rfl rfl (fun r h1 hp => ?_)
  obtain ⟨rfl, rfl⟩ := hp
  refine ⟨pat_vs .., ?_⟩
  exact ar_iret (pc := 59) dX0_pass_59 rfl rfl rfl ⟨rfl, rfl⟩
set_option maxHeartbeats 4000000 in
set_option maxRecDepth 100000 in
theorem lX0_pass_29 (h0 : am_H) (t : Nat → Int32) (q : SV) (n : Nat) (hn : vBo q = nI n) (h8 : n ≤ 8) (hp : ∀ k, k < 8 → stP q n k → inP (vP q k)) (r : Int32) : am_RW mX0_pass h0 (phP t (daV q r) n r) (0 + am_nc mX0_drawLots + am_nc mX0_choosePitches + am_nc mX3_draw + am_nc mX3_setting) (0 + am_ns mX0_drawLots + am_ns mX0_choosePitches + am_ns mX3_draw + am_ns mX3_setting) 29 [some (.ref 10), some (.ref 2), some (.int r)] [] (vsQ t q q) := by
  refine ar_aload_n (i := 0) (pc := 29) dX0_pass_29 rfl rfl ?_
  refine ar_dup (pc := 30) dX0_pass_30 rfl ?_
  refine ar_getf (pc := 31) dX0_pass_31 fX0_28 rfl rfl ?_
  refine ar_iconst (pc := 34) dX0_pass_34 q_iconst_1 ?_
  refine ar_iadd (pc := 35) dX0_pass_35 ?_
  refine ar_putf (pc := 36) dX0_pass_36 fX0_28 rfl (Nat.le_of_ble_eq_true rfl) (fun _ => ⟨rfl, rfl⟩) ?_
  rw [vs_Da]
  refine ar_iload_n (i := 2) (pc := 39) dX0_pass_39 rfl rfl ?_
  refine ar_if_eq (pc := 40) (tgt := 53) dX0_pass_40 (by decide) (fun c40 => ?_) (fun c40 => ?_)
  · rw [← daV_0 q c40]
    rw [vsQ_e t q (daV q r) (vS_daV q r)]
    exact lX0_pass_53 h0 t (daV q r) n hn h8 (fun k hk hs => hp k hk hs) r
  · refine ar_aload_n (i := 0) (pc := 43) dX0_pass_43 rfl rfl ?_
    refine ar_dup (pc := 44) dX0_pass_44 rfl ?_
    refine ar_getf (pc := 45) dX0_pass_45 fX0_32 rfl rfl ?_
    refine ar_iconst (pc := 48) dX0_pass_48 q_iconst_1 ?_
    refine ar_iadd (pc := 49) dX0_pass_49 ?_
    refine ar_putf (pc := 50) dX0_pass_50 fX0_32 rfl (Nat.le_of_ble_eq_true rfl) (fun _ => ⟨rfl, rfl⟩) ?_
    rw [vs_Ra, vRa_uDa, ← daV_1 q c40]
    rw [vsQ_e t q (daV q r) (vS_daV q r)]
    exact lX0_pass_53 h0 t (daV q r) n hn h8 (fun k hk hs => hp k hk hs) r
theorem stin_e {v w : SV} (h : vP v = vP w) {n : Nat} (hp : ∀ k, k < 8 → stP w n k → inP (vP w k)) : ∀ k, k < 8 → stP v n k → inP (vP v k) := by
  intro k hk hs
  rw [h]
  exact hp k hk ⟨hs.1, by rw [← h]; exact hs.2⟩
set_option maxHeartbeats 4000000 in
set_option maxRecDepth 100000 in
theorem lX0_pass_9 (h0 : am_H) (t : Nat → Int32) (u : SV) (n : Nat) (hn : vBo u = nI n) (h8 : n ≤ 8) (hp : ∀ k, k < 8 → stP u n k → inP (vP u k)) : am_RW mX0_pass h0 (phP t (daV (uX u (lcg (vX u))) (rnV u)) n (rnV u)) (0 + am_nc mX0_drawLots + am_nc mX0_choosePitches) (0 + am_ns mX0_drawLots + am_ns mX0_choosePitches) 9 [some (.ref 10), some (.ref 2), none] [] (vsQ t u u) := by
  refine ar_aload_n (i := 0) (pc := 9) dX0_pass_9 rfl rfl ?_
  refine ar_bipush (pc := 10) dX0_pass_10 q_bipush_100 ?_
  rw [show (100 : Int32) = nI 100 by decide +kernel]
  refine ar_mc (pc := 12) (l := [0, 1, 10, 11, 12, 13, 14, 15, 16, 17]) (ar_rV dX0_pass_12 cal_X3_draw kX0_19 rfl (sX3_draw u (m := 100) (by decide) (by decide)) rfl rfl rfl rfl rfl okst rfl rfl) okst rfl rfl rfl rfl (fun r h1 hp => ?_)
  obtain ⟨rfl, rfl⟩ := hp
  refine ⟨rfl, ?_⟩
  rw [mrgS]
  refine ar_topi (fun y12 e12 => ?_)
  refine ar_aload_n (i := 0) (pc := 15) dX0_pass_15 rfl rfl ?_
  refine ar_iconst (pc := 16) dX0_pass_16 q_iconst_5 ?_
  refine ar_mc (pc := 17) (l := [0, 1, 10, 11, 12, 13, 14, 15, 16, 17]) (ar_rV dX0_pass_17 cal_X3_setting kX0_25 rfl (sX3_setting (uX u (lcg (vX u))) (k := 5) (by decide)) rfl rfl rfl rfl rfl okst rfl rfl) okst rfl rfl rfl rfl (fun r h1 hp => ?_)
  obtain ⟨rfl, rfl⟩ := hp
  refine ⟨rfl, ?_⟩
  rw [mrgS, vS_uX]
  refine ar_icmp_ge (pc := 20) (tgt := 27) dX0_pass_20 (by decide) (fun c20 => ?_) (fun c20 => ?_)
  · refine ar_iconst (pc := 27) dX0_pass_27 q_iconst_0 ?_
    refine ar_istore_n (i := 2) (pc := 28) dX0_pass_28 rfl (Nat.le_of_ble_eq_true rfl) rfl ?_
    rw [vsQ_e t u (uX u (lcg (vX u))) (vS_uX _ _)]
    rw [rnV_0 e12 (Int32.not_lt.mpr c20)]
    exact lX0_pass_29 h0 t (uX u (lcg (vX u))) n ((vBo_uX _ _).trans hn) h8 (stin_e (vP_uX _ _) hp) _
  · refine ar_iconst (pc := 23) dX0_pass_23 q_iconst_1 ?_
    refine ar_goto (tgt := 28) (pc := 24) dX0_pass_24 (by decide) ?_
    refine ar_istore_n (i := 2) (pc := 28) dX0_pass_28 rfl (Nat.le_of_ble_eq_true rfl) rfl ?_
    rw [vsQ_e t u (uX u (lcg (vX u))) (vS_uX _ _)]
    rw [rnV_1 e12 (Int32.not_le.mp c20)]
    exact lX0_pass_29 h0 t (uX u (lcg (vX u))) n ((vBo_uX _ _).trans hn) h8 (stin_e (vP_uX _ _) hp) _
/-- the State when the pitches of a day are chosen, and the tops -/
noncomputable def puV (v : SV) (n : Nat) : SV := uP (dlV v n) (chs (dlV v n) n 8).2
noncomputable def ptV (v : SV) (n : Nat) : Nat → Int32 := (chs (dlV v n) n 8).1
noncomputable def pqV (v : SV) (n : Nat) : SV := daV (uX (puV v n) (lcg (vX (puV v n)))) (rnV (puV v n))
theorem vBo_puV (v : SV) (n : Nat) : vBo (puV v n) = vBo v := rfl
theorem puV_in (v : SV) (n : Nat) (hp : ∀ k, k < 8 → vP v k = -6 ∨ inP (vP v k)) : ∀ k, k < 8 → stP (puV v n) n k → inP (vP (puV v n) k) := by
  intro k hk hs
  have h := chs_in (dlV v n) n hp 8 k hk
  have e : vP (puV v n) = (chs (dlV v n) n 8).2 := vP_uP _ _
  rw [e]
  rcases h with h | h
  · have h2 := hs.2
    rw [e] at h2
    exact absurd h h2
  · exact h
set_option maxHeartbeats 4000000 in
set_option maxRecDepth 100000 in
theorem sX0_pass (tp : Nat → Int32) (la lt : Nat → Int32) (ls lp : Int32) (ra rt : Nat → Int32) (rs rp : Int32) (v : SV) (n : Nat) (hn : vBo v = nI n) (h8 : n ≤ 8) (hp : ∀ k, k < 8 → vP v k = -6 ∨ inP (vP v k)) : am_Sp mX0_pass [.ref 10, .ref 2] (vsH tp la lt ls lp ra rt rs rp v) (phP (ptV v n) (pqV v n) n (rnV (puV v n))) := by
  refine am_intro (by decide) (Nat.le_of_ble_eq_true rfl) ?_
  refine ar_aload_n (i := 0) (pc := 0) dX0_pass_0 rfl rfl ?_
  refine ar_mc (pc := 1) (l := [0, 1, 10, 11, 12, 13, 14, 15, 16, 17]) (ar_rS dX0_pass_1 cal_X0_drawLots kX0_9 rfl (sX0_drawLots v n hn h8) rfl rfl rfl okst rfl rfl) okst rfl rfl rfl rfl (fun r h1 hp => ?_)
  obtain ⟨rfl, rfl⟩ := hp
  refine ⟨rfl, ?_⟩
  rw [mrgS]
  refine ar_aload_n (i := 0) (pc := 4) dX0_pass_4 rfl rfl ?_
  refine ar_aload_n (i := 1) (pc := 5) dX0_pass_5 rfl rfl ?_
  refine ar_idS (pc := 6) dX0_pass_6 cal_X0_choosePitches kX0_15 rfl (sX0_choosePitches tp la lt ls lp ra rt rs rp (dlV v n) n ((vBo_dlV v n).trans hn) h8) rfl rfl rfl rfl rfl (fun r h1 hp => ?_)
  obtain ⟨rfl, rfl⟩ := hp
  refine ⟨pat_vs .., ?_⟩
  rw [← vsS_uP]
  exact lX0_pass_9 _ (ptV v n) (puV v n) n ((vBo_puV v n).trans hn) h8 (puV_in v n hp)
