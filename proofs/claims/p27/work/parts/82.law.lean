/-! the law: from its entry, turn after turn -/
theorem ok_v0 {ff : Nat → Int32} (F : f0_D ff) : ok_D (v0 ff) 0 := by
  obtain ⟨a0, a1, a2, a3, a4, a5⟩ := F
  refine ⟨nI_0.symm, ⟨by omega, ⟨1, by omega, (by decide +kernel : (1 : Int64) = lN 1)⟩, fun k hk => absurd hk (Nat.not_lt_zero _), fun j k hk => absurd hk (Nat.not_lt_zero _), fun k hk => absurd hk (Nat.not_lt_zero _), ?_⟩, (by decide +kernel : (0 : Int32).toInt ≤ 9999), fun k hk => ?_, (by decide +kernel : 0 ≤ (48 : Int32).toInt ∧ (48 : Int32).toInt < 4096), fun k _ => Or.inl rfl, fun k _ => Or.inr ?_⟩
  · show (0 : Int32) ≤ ff 4
    rw [a4]; decide +kernel
  · show 0 ≤ (ff k).toInt ∧ (ff k).toInt ≤ _
    rcases (show k = 0 ∨ k = 1 ∨ k = 2 ∨ k = 3 ∨ k = 4 ∨ k = 5 by omega) with rfl | rfl | rfl | rfl | rfl | rfl
    · rw [a0]; decide +kernel
    · rw [a1]; decide +kernel
    · rw [a2]; decide +kernel
    · rw [a3]; decide +kernel
    · rw [a4]; decide +kernel
    · rw [a5]; decide +kernel
  · exact (by decide +kernel : 0 ≤ (0 : Int32).toInt ∧ (0 : Int32).toInt < 12)
theorem mo_v0 (ff : Nat → Int32) : mo_D (v0 ff) 0 0 := ⟨0, fun _ => 0, fun _ => 0, fun _ => 0, rfl, by omega, rfl, by omega, fun k hk => absurd hk (Nat.not_lt_zero k), Nat.le_refl 0, Nat.le_refl 0⟩
theorem sw_0 {v : SV} (K : ok_D v 0) : swN v 0 = vS v 0 + vS v 1 := by
  have a := sf_sum 1 K.2.1.1 K.2.1.2.2.2.1 K.2.1.2.2.2.2.1
  have b := sf_sum 0 K.2.1.1 K.2.1.2.2.2.1 K.2.1.2.2.2.2.1
  rw [sw_e]
  have a' : (wl_L 1 v 0 12).1 = vS v 0 := by
    have := Int32.sub_eq_iff_eq_add.mp (show vS v 0 - (wl_L 1 v 0 12).1 = 0 from a.symm)
    rw [Int32.zero_add] at this
    exact this.symm
  have b' : (wl_L 0 v 0 12).1 = vS v 1 := by
    have := Int32.sub_eq_iff_eq_add.mp (show vS v 1 - (wl_L 0 v 0 12).1 = 0 from b.symm)
    rw [Int32.zero_add] at this
    exact this.symm
  rw [a', b']
theorem la_up {κ : Nat} (h : κ ≤ 6) {v : SV} {z0 z : PV} (a : lz_D κ v z0 z) : lz_D 6 v z0 z := ⟨⟨a.1.1, a.1.2.1, Nat.le_trans a.1.2.2 h⟩, a.2⟩
/-! the script -/
def lwT (N : Nat) (f : Nat → Int32) : am_H := [some (.inr (.inl (.int, false, N, f)))]
theorem lr_T (N : Nat) (f : Nat → Int32) : lr_H (lwT N f) := ⟨rfl, fun _ _ _ => rfl⟩
abbrev lwR (N : Nat) (f g : Nat → Int32) : am_H := some (am_ia 8 g) :: lwT N f
theorem lw_scr (N : Nat) (f g : Nat → Int32) (ff gg : Nat → Int32) (z : PV) : (ppH false ff false gg z ++ lwR N f g)[99]? = some (some (.inr (.inl (.int, false, N, f)))) := by
  rw [show (99 : Nat) = 1 + 98 from rfl, ap_98 (ppH_len ..)]
  rfl
abbrev lwP : Option Value → am_H → Prop := fun r _ => r = some (.int 1)
set_option maxHeartbeats 4000000 in
set_option maxRecDepth 100000 in
theorem sL_cell {h : am_H} {N k : Nat} {f : Nat → Int32} (hk : k < 2 ^ 31) (hs : h[99]? = some (some (.inr (.inl (.int, false, N, f))))) : am_Sp mL_cell [.ref 99, .int (nI k)] h (fun r h1 => (∃ x, r = some (.int x)) ∧ h1 = h) := by
  refine am_intro (by decide) (Nat.le_of_ble_eq_true rfl) ?_
  refine ar_iload_n (i := 1) (pc := 0) dL_cell_0 rfl rfl ?_
  refine ar_aload_n (i := 0) (pc := 1) dL_cell_1 rfl rfl ?_
  refine ar_alen (pc := 2) dL_cell_2 hs ?_
  refine ar_icmp_ge (pc := 3) (tgt := 12) dL_cell_3 (by decide) (fun c3 => ?_) (fun c3 => ?_)
  · refine ar_sipush (pc := 12) dL_cell_12 q_sipush_7919 ?_
    refine ar_iload_n (i := 1) (pc := 15) dL_cell_15 rfl rfl ?_
    refine ar_iconst (pc := 16) dL_cell_16 q_iconst_3 ?_
    refine ar_iadd (pc := 17) dL_cell_17 ?_
    refine ar_imul (pc := 18) dL_cell_18 ?_
    refine ar_iload_n (i := 1) (pc := 19) dL_cell_19 rfl rfl ?_
    refine ar_bipush (pc := 20) dL_cell_20 q_bipush_11 ?_
    refine ar_iadd (pc := 22) dL_cell_22 ?_
    refine ar_imul (pc := 23) dL_cell_23 ?_
    exact ar_iret (pc := 24) dL_cell_24 rfl rfl rfl ⟨⟨_, rfl⟩, rfl⟩
  · refine ar_aload_n (i := 0) (pc := 6) dL_cell_6 rfl rfl ?_
    refine ar_iload_n (i := 1) (pc := 7) dL_cell_7 rfl rfl ?_
    refine ar_iald (pc := 8) dL_cell_8 hs (show k < N from Nat.lt_of_not_le fun q => c3 (nI_le q hk)) rfl ?_
    refine ar_goto (tgt := 24) (pc := 9) dL_cell_9 (by decide) ?_
    exact ar_iret (pc := 24) dL_cell_24 rfl rfl rfl ⟨⟨_, rfl⟩, rfl⟩
theorem ar_cell {h0 : am_H} {P : Option Value → am_H → Prop} {kc ks pc idx : Nat} {L : List (Option Value)} {S : List Value} {N k : Nat} {f g ff gg : Nat → Int32} {z : PV} (d : decode (am_b mL_law) pc = .ok (.invokestatic idx, 3)) (lk : Cond.methodLink (am_y mL_law).cls idx (am_y mL_cell) ∈ am_ws ∧ Cond.static (am_y mL_cell) ∈ am_ws) (hk : k < 2 ^ 31) (hcat : ((S.map Value.category).sum).ble 8 = true) (hL : lf_B L S = true) (hc : kc ≤ 600000) (hs : ks ≤ 7302250) (K : ∀ x, am_RW mL_law h0 P kc ks (pc + 3) L (.int x :: S) (ppH false ff false gg z ++ lwR N f g)) : am_RW mL_law h0 P kc ks pc L (.int (nI k) :: .ref 99 :: S) (ppH false ff false gg z ++ lwR N f g) := by
  refine ar_ow d cal_L_cell lk rfl (sL_cell hk (lw_scr N f g ff gg z)) (lr_ia (lr_T N f)) rfl rfl hcat hL (Nat.add_zero kc) (Nat.add_zero ks) hc hs fun r h1 hp => ?_
  obtain ⟨⟨x, rfl⟩, rfl⟩ := hp
  exact ⟨pmo_rf _, K x⟩
set_option maxHeartbeats 4000000 in
set_option maxRecDepth 100000 in
theorem law_79 {N : Nat} {f ff gg : Nat → Int32} (G : g0_D gg) {h0 : am_H} : ∀ (d e : Nat), e + d = 80 → ∀ (v : SV) (z : PV) (g : Nat → Int32) (kc ks : Nat), in_D v e → ∀ z0 : PV, lz_D 6 v z0 z → kc ≤ 40 + 200 * e → ks ≤ 400 + 1600 * e → am_RW mL_law h0 lwP kc ks 79 [some (.ref 99), some (.ref 2), some (.ref 98), some (.int (nI e))] [] (ppH false ff false gg z ++ lwR N f g) := by
  intro d
  induction d with
  | zero =>
    intro e he v z g kc ks I z0 hz hkc hks
    have e80 : e = 80 := by omega
    subst e80
    obtain ⟨n, d, K, M, -⟩ := I
    have h8 := K.2.1.1
    refine ar_iload_n (i := 3) (pc := 79) dL_law_79 rfl rfl ?_
    refine ar_bipush (pc := 80) dL_law_80 q_bipush_80 ?_
    refine ar_icmp_ge (pc := 82) (tgt := 138) dL_law_82 (by decide) (fun c82 => ?_) (fun c82 => absurd (Int32.le_refl _) c82)
    refine ar_aload_n (i := 1) (pc := 138) dL_law_138 rfl rfl ?_
    refine ar_bipush (pc := 139) dL_law_139 q_bipush_10 ?_
    refine ar_cl (pc := 141) dL_law_141 cal_X6_come kL_59 rfl rfl (an_comeo) hz (lr_ia (lr_T N f)) rfl rfl rfl rfl (rfl : kc + 8 = kc + 8) (rfl : ks + 67 = ks + 67) (show kc + 8 ≤ 600000 by omega) (show ks + 67 ≤ 7302250 by omega) (fun z hz => ?_)
    refine ar_bipush (pc := 144) dL_law_144 q_bipush_m2 ?_
    refine ar_icmp_ne (pc := 146) (tgt := 221) dL_law_146 (by decide) (fun c146 => absurd rfl c146) (fun c146 => ?_)
    refine ar_aload_n (i := 1) (pc := 149) dL_law_149 rfl rfl ?_
    refine ar_bipush (pc := 150) dL_law_150 q_bipush_6 ?_
    refine ar_iconst (pc := 152) dL_law_152 q_iconst_0 ?_
    refine ar_cl (pc := 153) dL_law_153 cal_X6_set kL_69 rfl rfl (an_seto) hz (lr_ia (lr_T N f)) rfl rfl rfl rfl (Nat.add_assoc kc 8 8) (Nat.add_assoc ks 67 67) (show kc + 16 ≤ 600000 by omega) (show ks + 134 ≤ 7302250 by omega) (fun z hz => ?_)
    refine ar_bipush (pc := 156) dL_law_156 q_bipush_m2 ?_
    refine ar_icmp_ne (pc := 158) (tgt := 221) dL_law_158 (by decide) (fun c158 => absurd rfl c158) (fun c158 => ?_)
    refine ar_aload_n (i := 1) (pc := 161) dL_law_161 rfl rfl ?_
    refine ar_iconst (pc := 162) dL_law_162 q_iconst_4 ?_
    refine ar_bipush (pc := 163) dL_law_163 q_bipush_6 ?_
    refine ar_cl (pc := 165) dL_law_165 cal_X6_set kL_69 rfl rfl (an_setv G) hz (lr_ia (lr_T N f)) rfl rfl rfl rfl (Nat.add_assoc kc 16 8) (Nat.add_assoc ks 134 67) (show kc + 24 ≤ 600000 by omega) (show ks + 201 ≤ 7302250 by omega) (fun z hz => ?_)
    refine ar_bipush (pc := 168) dL_law_168 q_bipush_m2 ?_
    refine ar_icmp_ne (pc := 170) (tgt := 221) dL_law_170 (by decide) (fun c170 => absurd rfl c170) (fun c170 => ?_)
    refine ar_aload_n (i := 1) (pc := 173) dL_law_173 rfl rfl ?_
    refine ar_bipush (pc := 174) dL_law_174 q_bipush_101 ?_
    refine ar_iconst (pc := 176) dL_law_176 q_iconst_0 ?_
    refine ar_cl (pc := 177) dL_law_177 cal_X6_ifPlayed kL_31 rfl rfl (an_ifpo) hz (lr_ia (lr_T N f)) rfl rfl rfl rfl (Nat.add_zero (kc + 24)) (Nat.add_zero (ks + 201)) (show (kc + 24) ≤ 600000 by omega) (show (ks + 201) ≤ 7302250 by omega) (fun z hz => ?_)
    refine ar_bipush (pc := 180) dL_law_180 q_bipush_m2 ?_
    refine ar_icmp_ne (pc := 182) (tgt := 221) dL_law_182 (by decide) (fun c182 => absurd rfl c182) (fun c182 => ?_)
    refine ar_aload_n (i := 1) (pc := 185) dL_law_185 rfl rfl ?_
    refine ar_bipush (pc := 186) dL_law_186 q_bipush_17 ?_
    refine ar_cl (pc := 188) dL_law_188 cal_X6_count kL_14 rfl rfl (an_counto) hz (lr_ia (lr_T N f)) rfl rfl rfl rfl (Nat.add_zero (kc + 24)) (Nat.add_zero (ks + 201)) (show (kc + 24) ≤ 600000 by omega) (show (ks + 201) ≤ 7302250 by omega) (fun z hz => ?_)
    refine ar_bipush (pc := 191) dL_law_191 q_bipush_m2 ?_
    refine ar_icmp_ne (pc := 193) (tgt := 221) dL_law_193 (by decide) (fun c193 => absurd rfl c193) (fun c193 => ?_)
    refine ar_aload_n (i := 1) (pc := 196) dL_law_196 rfl rfl ?_
    refine ar_iconst (pc := 197) dL_law_197 q_iconst_0 ?_
    refine ar_bipush (pc := 198) dL_law_198 q_bipush_12 ?_
    refine ar_cl (pc := 200) dL_law_200 cal_X6_ifStood kL_44 rfl rfl (an_ifso K 0 12 (by decide)) hz (lr_ia (lr_T N f)) rfl rfl rfl rfl (Nat.add_zero (kc + 24)) (Nat.add_zero (ks + 201)) (show (kc + 24) ≤ 600000 by omega) (show (ks + 201) ≤ 7302250 by omega) (fun z hz => ?_)
    refine ar_iconst (pc := 203) dL_law_203 q_iconst_m1 ?_
    refine ar_icmp_ne (pc := 204) (tgt := 221) dL_law_204 (by decide) (fun c204 => absurd rfl c204) (fun c204 => ?_)
    refine ar_aload_n (i := 1) (pc := 207) dL_law_207 rfl rfl ?_
    refine ar_bipush (pc := 208) dL_law_208 q_bipush_8 ?_
    refine ar_cl (pc := 210) dL_law_210 cal_X6_bestPitch kL_41 rfl rfl (an_bpn K 8 (fun q => by have := q.2; rw [show (8 : Int32).toInt = 8 by decide] at this; omega)) hz (lr_ia (lr_T N f)) rfl rfl rfl rfl (Nat.add_zero (kc + 24)) (Nat.add_zero (ks + 201)) (show (kc + 24) ≤ 600000 by omega) (show (ks + 201) ≤ 7302250 by omega) (fun z hz => ?_)
    refine ar_iconst (pc := 213) dL_law_213 q_iconst_m1 ?_
    refine ar_icmp_ne (pc := 214) (tgt := 221) dL_law_214 (by decide) (fun c214 => absurd rfl c214) (fun c214 => ?_)
    refine ar_iconst (pc := 217) dL_law_217 q_iconst_1 ?_
    refine ar_goto (tgt := 222) (pc := 218) dL_law_218 (by decide) ?_
    exact ar_zret (pc := 222) dL_law_222 rfl (Or.inr rfl) (Nat.ble_eq_true_of_le (show kc + 24 ≤ 600000 by omega)) (Nat.ble_eq_true_of_le (show ks + 201 ≤ 7302250 by omega)) rfl
  | succ d ih =>
    intro e he v z g kc ks I z0 hz hkc hks
    refine ar_iload_n (i := 3) (pc := 79) dL_law_79 rfl rfl ?_
    refine ar_bipush (pc := 80) dL_law_80 q_bipush_80 ?_
    refine ar_icmp_ge (pc := 82) (tgt := 138) dL_law_82 (by decide) (fun c82 => absurd c82 (nI_ge (show e < 80 by omega) (by decide))) (fun c82 => ?_)
    refine ar_aload_n (i := 1) (pc := 85) dL_law_85 rfl rfl ?_
    refine ar_aload_n (i := 2) (pc := 86) dL_law_86 rfl rfl ?_
    refine ar_aload_n (i := 0) (pc := 87) dL_law_87 rfl rfl ?_
    refine ar_iconst (pc := 88) dL_law_88 q_iconst_2 ?_
    refine ar_iload_n (i := 3) (pc := 89) dL_law_89 rfl rfl ?_
    refine ar_imul (pc := 90) dL_law_90 ?_
    refine ar_hs (show 2 * nI e = nI (2 * e) from pk_mul 2 e) ?_
    refine ar_cell (pc := 91) dL_law_91 kL_87 (by omega) rfl rfl (show kc ≤ 600000 by omega) (show ks ≤ 7302250 by omega) (fun V => ?_)
    refine ar_aload_n (i := 0) (pc := 94) dL_law_94 rfl rfl ?_
    refine ar_iconst (pc := 95) dL_law_95 q_iconst_2 ?_
    refine ar_iload_n (i := 3) (pc := 96) dL_law_96 rfl rfl ?_
    refine ar_imul (pc := 97) dL_law_97 ?_
    refine ar_iconst (pc := 98) dL_law_98 q_iconst_1 ?_
    refine ar_iadd (pc := 99) dL_law_99 ?_
    refine ar_hs (show 2 * nI e + 1 = nI (2 * e + 1) by rw [show (2 : Int32) * nI e = nI (2 * e) from pk_mul 2 e, nI_1]) ?_
    refine ar_cell (pc := 100) dL_law_100 kL_87 (by omega) rfl rfl (show kc ≤ 600000 by omega) (show ks ≤ 7302250 by omega) (fun W => ?_)
    refine ar_ow (pc := 103) dL_law_103 cal_L_does kL_91 rfl (sL_does G I (show e < 80 by omega) hz.1 (lr_T N f) V W) (lr_ia (lr_T N f)) rfl rfl rfl rfl (rfl : kc + 200 = kc + 200) (rfl : ks + 1600 = ks + 1600) (show kc + 200 ≤ 600000 by omega) (show ks + 1600 ≤ 7302250 by omega) (fun r h1 hp => ?_)
    obtain ⟨rfl, z1, g1, v1, I1, hz1, rfl⟩ := hp
    refine ⟨pmo_app (pmo_pp hz1.2) (pmo_ia g g1 _), ?_⟩
    obtain ⟨n1, d1, K1, M1, hd1⟩ := id I1
    have hz := lz_0 hz1.1
    refine ar_if_eq (pc := 106) (tgt := 130) dL_law_106 (by decide) (fun c106 => absurd c106 (by decide)) (fun c106 => ?_)
    refine ar_aload_n (i := 1) (pc := 109) dL_law_109 rfl rfl ?_
    refine ar_ln (pc := 110) dL_law_110 cal_L_areCrowds kL_95 rfl (sL_crowds K1 M1) hz (lr_ia (lr_T N f)) rfl rfl rfl rfl (Nat.add_zero (kc + 200)) (Nat.add_zero (ks + 1600)) (show kc + 200 ≤ 600000 by omega) (show ks + 1600 ≤ 7302250 by omega) (fun z hz => ?_)
    refine ar_if_eq (pc := 113) (tgt := 130) dL_law_113 (by decide) (fun c113 => absurd c113 (by decide)) (fun c113 => ?_)
    refine ar_iload_n (i := 3) (pc := 116) dL_law_116 rfl rfl ?_
    refine ar_iconst (pc := 117) dL_law_117 q_iconst_3 ?_
    refine ar_irem (pc := 118) dL_law_118 (by decide) ?_
    refine ar_iconst (pc := 119) dL_law_119 q_iconst_1 ?_
    refine ar_icmp_ne (pc := 120) (tgt := 132) dL_law_120 (by decide) (fun c120 => ?_) (fun c120 => ?_)
    · refine ar_iinc (pc := 132) dL_law_132 rfl (nI_1 e) (Nat.le_of_ble_eq_true rfl) rfl ?_
      refine ar_goto (tgt := 79) (pc := 135) dL_law_135 (by decide) ?_
      exact ih (e + 1) (by omega) v1 _ g1 (kc + 200) (ks + 1600) I1 _ hz (by omega) (by omega)
    · refine ar_aload_n (i := 1) (pc := 123) dL_law_123 rfl rfl ?_
      refine ar_ln (pc := 124) dL_law_124 cal_L_arePitches kL_99 rfl (sL_pit K1) hz (lr_ia (lr_T N f)) rfl rfl rfl rfl (Nat.add_zero (kc + 200)) (Nat.add_zero (ks + 1600)) (show kc + 200 ≤ 600000 by omega) (show ks + 1600 ≤ 7302250 by omega) (fun z hz => ?_)
      refine ar_if_ne (pc := 127) (tgt := 132) dL_law_127 (by decide) (fun c127 => ?_) (fun c127 => absurd c127 (by decide))
      refine ar_iinc (pc := 132) dL_law_132 rfl (nI_1 e) (Nat.le_of_ble_eq_true rfl) rfl ?_
      refine ar_goto (tgt := 79) (pc := 135) dL_law_135 (by decide) ?_
      exact ih (e + 1) (by omega) v1 _ g1 (kc + 200) (ks + 1600) I1 _ hz (by omega) (by omega)
def lw0 (N : Nat) (f : Nat → Int32) (ff gg : Nat → Int32) : am_H := (some (fsC false ff) :: some (fsC false gg) :: nn 96) ++ (none :: lwT N f)
theorem nn_no {n j : Nat} {c : am_C} (e : (nn n)[j]? = some (some c)) : False := by
  have := List.eq_of_mem_replicate (List.mem_of_getElem? e)
  cases this
theorem pm_init (ff gg : Nat → Int32) : pmo (some (fsC false ff) :: some (fsC false gg) :: some (am_oj 5 [.null, .null, .null, .null, .null, .null]) :: nn 95 : am_H) (ppH false ff false gg (z0 ff)) := by
  refine ⟨rfl, fun j c e => ?_⟩
  match j, e with
  | 0, e => cases e; exact ⟨_, rfl, rfl⟩
  | 1, e => cases e; exact ⟨_, rfl, rfl⟩
  | 2, e => cases e; exact ⟨_, rfl, rfl⟩
  | j + 3, e => exact (nn_no (n := 95) e).elim
theorem fr_init (N : Nat) (f : Nat → Int32) (ff gg : Nat → Int32) : ∀ j, (some (fsC false ff) :: some (fsC false gg) :: some (am_oj 5 [.null, .null, .null, .null, .null, .null]) :: nn 95 : am_H)[j]? = some none → 2 ≤ j ∧ frL j [some (.ref 99), none, none, none] [.ref 2] = true ∧ frH j ((some (fsC false ff) :: some (fsC false gg) :: some (am_oj 5 [.null, .null, .null, .null, .null, .null]) :: nn 95 : am_H) ++ (none :: lwT N f)) = true := by
  intro j e
  match j, e with
  | 0, e => cases e
  | 1, e => cases e
  | 2, e => cases e
  | j + 3, e =>
    have hj := (List.getElem?_eq_some_iff.mp e).1
    have hj' : j + 3 < 98 := hj
    refine ⟨by omega, ?_, rfl⟩
    show (((!([99] : List Nat).contains (j + 3)) && true) && ((!([2] : List Nat).contains (j + 3)) && true)) = true
    simp
    omega
theorem la_z0 (ff : Nat → Int32) : la_D 0 (v0 ff) (z0 ff) := ⟨rfl, (by decide : 0 < 6), Nat.le_refl 0⟩
set_option maxHeartbeats 4000000 in
set_option maxRecDepth 100000 in
theorem law_0 {N : Nat} (f : Nat → Int32) {ff gg : Nat → Int32} (F : f0_D ff) (G : g0_D gg) : am_RW mL_law (lw0 N f ff gg) lwP 0 0 0 [some (.ref 99), none, none, none] [] (lw0 N f ff gg) := by
  have K := ok_v0 F
  refine ar_new (pc := 0) (k := 2) dL_law_0 wL_9 rfl (by decide) rfl (Nat.le_of_ble_eq_true rfl) (Nat.le_of_ble_eq_true rfl) ?_
  refine ar_hp (h' := (some (fsC false ff) :: some (fsC false gg) :: some (am_oj 5 [.null, .null, .null, .null, .null, .null]) :: nn 95 : am_H) ++ (none :: lwT N f)) rfl ?_
  refine ar_dup (pc := 3) dL_law_3 rfl ?_
  have hr := am_runI (pc := 4) (S := [.ref 2]) (h := (some (fsC false ff) :: some (fsC false gg) :: some (am_oj 5 [.null, .null, .null, .null, .null, .null]) :: nn 95 : am_H) ++ (none :: lwT N f)) (μ := fun k => k) dL_law_4 cal_X6_init rfl rfl kL_83.1 kL_83.2 (Nat.le_of_ble_eq_true rfl) (sX6_init false ff false gg) rfl (Nat.le_of_ble_eq_true rfl) ⟨rfl, rfl⟩ (fun j c hj => by rw [am_rcid, List.getElem?_append_left (List.getElem?_eq_some_iff.mp hj).1]; exact hj) (fun i j c d _ _ he => he)
  refine ar_call (pc := 4) hr (Nat.le_of_ble_eq_true rfl) (Nat.le_of_ble_eq_true rfl) (fun j c hj => by rw [am_rcid, List.getElem?_append_left (List.getElem?_eq_some_iff.mp hj).1]; exact hj) fun r h1 hp => ?_
  obtain ⟨rfl, rfl⟩ := hp
  refine ⟨back_id (pm_init ff gg) (fr_init N f ff gg), ?_⟩
  rw [mrg_id (pm_init ff gg)]
  refine ar_astore_n (i := 1) (pc := 7) dL_law_7 rfl (Nat.le_of_ble_eq_true rfl) rfl ?_
  refine ar_bipush (pc := 8) dL_law_8 q_bipush_8 ?_
  refine ar_newa (pc := 10) (k := 98) (atype := .int) (ty := .int) (N := 8) dL_law_10 rfl rfl wt_int rfl (by decide) (by decide) (by show (_ ++ _)[0 + 98]? = _; rw [ap_98 (ppH_len ..)]; rfl) (by decide) (free_of rfl (frH_app _ _ _ (frH_pp _ _ _ _ _ _ (by omega) (fun i a b c => by omega) (by omega) (by omega)) rfl)) (Nat.le_of_ble_eq_true rfl) (Nat.le_of_ble_eq_true rfl) ?_
  refine ar_hp (h' := ppH false ff false gg (z0 ff) ++ lwR N f (fun _ => 0)) (by show List.set (_ ++ _) (98 + 0) _ = _; rw [set_98 (ppH_len ..)]; rfl) ?_
  refine ar_astore_n (i := 2) (pc := 12) dL_law_12 rfl (Nat.le_of_ble_eq_true rfl) rfl ?_
  have hz : lz_D 0 (v0 ff) (z0 ff) (z0 ff) := lz_0 (la_z0 ff)
  refine ar_aload_n (i := 1) (pc := 13) dL_law_13 rfl rfl ?_
  refine ar_bipush (pc := 14) dL_law_14 q_bipush_6 ?_
  refine ar_cl (pc := 16) dL_law_16 cal_X6_count kL_14 rfl rfl (an_count6 K) hz (lr_ia (lr_T N f)) rfl rfl rfl rfl rfl rfl (Nat.le_of_ble_eq_true rfl) (Nat.le_of_ble_eq_true rfl) (fun z hz => ?_)
  refine ar_iconst (pc := 19) dL_law_19 q_iconst_1 ?_
  refine ar_icmp_ne (pc := 20) (tgt := 75) dL_law_20 (by decide) (fun c20 => absurd (show (vX (v0 ff)).toInt32 = 1 from (show (1 : Int64).toInt32 = 1 by decide)) c20) (fun c20 => ?_)
  refine ar_aload_n (i := 1) (pc := 23) dL_law_23 rfl rfl ?_
  refine ar_bipush (pc := 24) dL_law_24 q_bipush_9 ?_
  refine ar_cl (pc := 26) dL_law_26 cal_X6_count kL_14 rfl rfl (an_count9 K) hz (lr_ia (lr_T N f)) rfl rfl rfl rfl rfl rfl (Nat.le_of_ble_eq_true rfl) (Nat.le_of_ble_eq_true rfl) (fun z hz => ?_)
  refine ar_bipush (pc := 29) dL_law_29 q_bipush_48 ?_
  refine ar_icmp_ne (pc := 31) (tgt := 75) dL_law_31 (by decide) (fun c31 => absurd rfl c31) (fun c31 => ?_)
  refine ar_aload_n (i := 1) (pc := 34) dL_law_34 rfl rfl ?_
  refine ar_bipush (pc := 35) dL_law_35 q_bipush_11 ?_
  refine ar_cl (pc := 37) dL_law_37 cal_X6_count kL_14 rfl rfl (an_count11 K) hz (lr_ia (lr_T N f)) rfl rfl rfl rfl rfl rfl (Nat.le_of_ble_eq_true rfl) (Nat.le_of_ble_eq_true rfl) (fun z hz => ?_)
  refine ar_sipush (pc := 40) dL_law_40 q_sipush_300 ?_
  refine ar_icmp_ne (pc := 43) (tgt := 75) dL_law_43 (by decide) (fun c43 => absurd (show swN (v0 ff) 0 = 300 by rw [sw_0 K]; show ff 0 + ff 1 = 300; rw [F.1, F.2.1]; decide) c43) (fun c43 => ?_)
  refine ar_aload_n (i := 1) (pc := 46) dL_law_46 rfl rfl ?_
  refine ar_iconst (pc := 47) dL_law_47 q_iconst_0 ?_
  refine ar_cl (pc := 48) dL_law_48 cal_X6_lot kL_38 rfl rfl (an_lot 0) hz (lr_ia (lr_T N f)) rfl rfl rfl rfl rfl rfl (Nat.le_of_ble_eq_true rfl) (Nat.le_of_ble_eq_true rfl) (fun z hz => ?_)
  refine ar_bipush (pc := 51) dL_law_51 q_bipush_m6 ?_
  refine ar_icmp_ne (pc := 53) (tgt := 75) dL_law_53 (by decide) (fun c53 => absurd (lot_e (v := v0 ff) (k := 0) (by omega)) c53) (fun c53 => ?_)
  refine ar_aload_n (i := 1) (pc := 56) dL_law_56 rfl rfl ?_
  refine ar_bipush (pc := 57) dL_law_57 q_bipush_8 ?_
  refine ar_cl (pc := 59) dL_law_59 cal_X6_lot kL_38 rfl rfl (an_lot 8) hz (lr_ia (lr_T N f)) rfl rfl rfl rfl rfl rfl (Nat.le_of_ble_eq_true rfl) (Nat.le_of_ble_eq_true rfl) (fun z hz => ?_)
  refine ar_iconst (pc := 62) dL_law_62 q_iconst_m1 ?_
  refine ar_icmp_ne (pc := 63) (tgt := 75) dL_law_63 (by decide) (fun c63 => absurd (show lotV (v0 ff) 8 = -1 from if_neg (by decide)) c63) (fun c63 => ?_)
  refine ar_aload_n (i := 1) (pc := 66) dL_law_66 rfl rfl ?_
  refine ar_cl (pc := 67) dL_law_67 cal_X6_undo kL_84 rfl rfl (an_undo) hz (lr_ia (lr_T N f)) rfl rfl rfl rfl rfl rfl (Nat.le_of_ble_eq_true rfl) (Nat.le_of_ble_eq_true rfl) (fun z hz => ?_)
  refine ar_bipush (pc := 70) dL_law_70 q_bipush_m5 ?_
  refine ar_icmp_eq (pc := 72) (tgt := 77) dL_law_72 (by decide) (fun c72 => ?_) (fun c72 => absurd rfl c72)
  refine ar_iconst (pc := 77) dL_law_77 q_iconst_0 ?_
  refine ar_istore_n (i := 3) (pc := 78) dL_law_78 rfl (Nat.le_of_ble_eq_true rfl) rfl ?_
  exact law_79 G 80 0 rfl (v0 ff) _ _ _ _ (in_mk K (mo_v0 ff) (Nat.le_refl 0)) _ (la_up (by omega) hz) (Nat.le_of_ble_eq_true rfl) (Nat.le_of_ble_eq_true rfl)
