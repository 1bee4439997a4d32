/-! the law: crowds, hats, firsts -/
/-- the hats, the firsts and the idle days after d days -/
def mo_D (v : SV) (n d : Nat) : Prop := ∃ (T : Nat) (t f i : Nat → Nat), vDa v = nI d ∧ d ≤ 80 ∧ vTa v = nI T ∧ T ≤ 16000 * d ∧ (∀ k, k < n → vT v k = nI (t k) ∧ vF v k = nI (f k) ∧ vI v k = nI (i k) ∧ f k + i k ≤ 2 * d) ∧ su_N t n ≤ T ∧ su_N f n ≤ d
theorem wl_rg {l : Int32} {v : SV} {n : Nat} (K : ok_D v n) (hl : l = 0 ∨ l = 1) (k : Nat) : ∃ c, c ≤ 999 ∧ (wl_L l v n k).1 = nI c := by
  have S := K.2.2.2.1
  have g : ∀ k, k < 6 → vS v k = nI (ix (vS v k)) := fun k hk => ix_eq (S k hk).1
  have s0 := S 0 (by omega)
  have s1 := S 1 (by omega)
  have s2 := S 2 (by omega)
  rw [if_pos (by omega)] at s0 s1
  rw [if_neg (by omega), if_neg (by omega)] at s2
  rcases hl with rfl | rfl
  · have := wk_rg (t := fun k => tp_L v n (pi 0 k)) (a := ix (vS v 1)) (b := ix (vS v 2)) (by unfold ix; omega) (by unfold ix; omega) k
    rw [← g 1 (by omega), ← g 2 (by omega)] at this
    exact this
  · have := wk_rg (t := fun k => tp_L v n (pi 1 k)) (a := ix (vS v 0)) (b := ix (vS v 2)) (by unfold ix; omega) (by unfold ix; omega) k
    rw [← g 0 (by omega), ← g 2 (by omega)] at this
    exact this
theorem wl_nl {l : Int32} {v : SV} {n : Nat} (K : ok_D v n) (hl : l = 0 ∨ l = 1) (k : Nat) : ¬ (wl_L l v n k).1 < 0 := by
  obtain ⟨c, hc, e⟩ := wl_rg K hl k
  rw [e]
  exact nI_pos (by omega)
theorem sw_e (v : SV) (n : Nat) : swN v n = (wl_L 1 v n 12).1 + (wl_L 0 v n 12).1 := rfl
theorem cr_sf (v : SV) (n k : Nat) : crA v (lkT v n (-6) 8) (vP v k) (vH v k) = sfV 1 v n k + sfV 0 v n k := rfl
theorem sm_all {a l r : Int32} : a - (l + r) + l + r = a := by rw [Int32.add_assoc, Int32.sub_add_cancel]
theorem p_lt0 {v : SV} {n k : Nat} (ip : inP (vP v k)) : ¬ vP v k < 0 := by
  rw [Int32.lt_iff_toInt_lt, ti_0]
  have := ip.1
  omega
set_option maxHeartbeats 4000000 in
set_option maxRecDepth 100000 in
theorem lL_crowds_23 {gg ff : Nat → Int32} {κ n d0 : Nat} {v : SV} (K : ok_D v n) (M : mo_D v n d0) {h0 : am_H} {z0 : PV} {R : am_H} (hR : lr_H R) : ∀ (d k : Nat), k + d = n → k ≤ n → ∀ z : PV, lz_D κ v z0 z → am_RW mL_areCrowds h0 (ln_P 1 ff gg κ v z0 R) 0 0 23 [some (.ref 2), some (.int (wl_L 1 v n 12).1), some (.int (wl_L 0 v n 12).1), some (.int (su_I (fun b => sfV 1 v n b + sfV 0 v n b) k)), some (.int (su_I (vT v) k)), some (.int (su_I (vF v) k)), some (.int (nI k)), none, none] [] (ppH false ff false gg z ++ R) := by
  have h8 := K.2.1.1
  obtain ⟨T, t, f, i, M1, M2, M3, M4, MK, M6, M7⟩ := M
  intro d
  induction d with
  | zero =>
    intro k hk _ z hz
    have e : k = n := by omega
    subst e
    have hbn : ¬ bkP k (nI k) := fun q => by
      have := q.2
      rw [nI_toInt (by omega)] at this
      omega
    refine ar_iload (pc := 23) dL_areCrowds_23 rfl ?_
    refine ar_aload_n (i := 0) (pc := 25) dL_areCrowds_25 rfl rfl ?_
    refine ar_bipush (pc := 26) dL_areCrowds_26 q_bipush_7 ?_
    refine ar_cl (pc := 28) dL_areCrowds_28 cal_X6_count kL_14 rfl rfl (an_count7 K) hz hR rfl rfl rfl rfl rfl rfl (Nat.le_of_ble_eq_true rfl) (Nat.le_of_ble_eq_true rfl) (fun z hz => ?_)
    refine ar_icmp_ge (pc := 31) (tgt := 192) dL_areCrowds_31 (by decide) (fun c31 => ?_) (fun c31 => absurd (Int32.le_refl _) c31)
    refine ar_iload_n (i := 1) (pc := 192) dL_areCrowds_192 rfl rfl ?_
    refine ar_if_lt (pc := 193) (tgt := 282) dL_areCrowds_193 (by decide) (fun c193 => absurd c193 (wl_nl K (Or.inr rfl) 12)) (fun c193 => ?_)
    refine ar_iload_n (i := 2) (pc := 196) dL_areCrowds_196 rfl rfl ?_
    refine ar_if_lt (pc := 197) (tgt := 282) dL_areCrowds_197 (by decide) (fun c197 => absurd c197 (wl_nl K (Or.inl rfl) 12)) (fun c197 => ?_)
    refine ar_aload_n (i := 0) (pc := 200) dL_areCrowds_200 rfl rfl ?_
    refine ar_bipush (pc := 201) dL_areCrowds_201 q_bipush_10 ?_
    refine ar_cl (pc := 203) dL_areCrowds_203 cal_X6_count kL_14 rfl rfl (an_count10 K) hz hR rfl rfl rfl rfl rfl rfl (Nat.le_of_ble_eq_true rfl) (Nat.le_of_ble_eq_true rfl) (fun z hz => ?_)
    refine ar_iload_n (i := 3) (pc := 206) dL_areCrowds_206 rfl rfl ?_
    refine ar_icmp_ne (pc := 207) (tgt := 282) dL_areCrowds_207 (by decide) (fun c207 => absurd (cr_sum h8 K.2.1.2.2.2.1 K.2.1.2.2.2.2.1).symm c207) (fun c207 => ?_)
    refine ar_aload_n (i := 0) (pc := 210) dL_areCrowds_210 rfl rfl ?_
    refine ar_bipush (pc := 211) dL_areCrowds_211 q_bipush_11 ?_
    refine ar_cl (pc := 213) dL_areCrowds_213 cal_X6_count kL_14 rfl rfl (an_count11 K) hz hR rfl rfl rfl rfl rfl rfl (Nat.le_of_ble_eq_true rfl) (Nat.le_of_ble_eq_true rfl) (fun z hz => ?_)
    refine ar_iload_n (i := 1) (pc := 216) dL_areCrowds_216 rfl rfl ?_
    refine ar_iload_n (i := 2) (pc := 217) dL_areCrowds_217 rfl rfl ?_
    refine ar_iadd (pc := 218) dL_areCrowds_218 ?_
    refine ar_icmp_ne (pc := 219) (tgt := 282) dL_areCrowds_219 (by decide) (fun c219 => absurd (sw_e v k) c219) (fun c219 => ?_)
    refine ar_iload_n (i := 3) (pc := 222) dL_areCrowds_222 rfl rfl ?_
    refine ar_iload_n (i := 1) (pc := 223) dL_areCrowds_223 rfl rfl ?_
    refine ar_iadd (pc := 224) dL_areCrowds_224 ?_
    refine ar_iload_n (i := 2) (pc := 225) dL_areCrowds_225 rfl rfl ?_
    refine ar_iadd (pc := 226) dL_areCrowds_226 ?_
    refine ar_aload_n (i := 0) (pc := 227) dL_areCrowds_227 rfl rfl ?_
    refine ar_iconst (pc := 228) dL_areCrowds_228 q_iconst_0 ?_
    refine ar_cl (pc := 229) dL_areCrowds_229 cal_X6_count kL_14 rfl rfl (an_count0) hz hR rfl rfl rfl rfl rfl rfl (Nat.le_of_ble_eq_true rfl) (Nat.le_of_ble_eq_true rfl) (fun z hz => ?_)
    refine ar_aload_n (i := 0) (pc := 232) dL_areCrowds_232 rfl rfl ?_
    refine ar_iconst (pc := 233) dL_areCrowds_233 q_iconst_1 ?_
    refine ar_cl (pc := 234) dL_areCrowds_234 cal_X6_count kL_14 rfl rfl (an_count1) hz hR rfl rfl rfl rfl rfl rfl (Nat.le_of_ble_eq_true rfl) (Nat.le_of_ble_eq_true rfl) (fun z hz => ?_)
    refine ar_iadd (pc := 237) dL_areCrowds_237 ?_
    refine ar_icmp_ne (pc := 238) (tgt := 282) dL_areCrowds_238 (by decide) (fun c238 => absurd (show su_I (fun b => sfV 1 v k b + sfV 0 v k b) k + (wl_L 1 v k 12).1 + (wl_L 0 v k 12).1 = vS v 0 + vS v 1 by rw [cr_sum h8 K.2.1.2.2.2.1 K.2.1.2.2.2.2.1, sw_e, sm_all]) c238) (fun c238 => ?_)
    refine ar_iload (pc := 241) dL_areCrowds_241 rfl ?_
    refine ar_aload_n (i := 0) (pc := 243) dL_areCrowds_243 rfl rfl ?_
    refine ar_bipush (pc := 244) dL_areCrowds_244 q_bipush_14 ?_
    refine ar_cl (pc := 246) dL_areCrowds_246 cal_X6_count kL_14 rfl rfl (an_count14 K) hz hR rfl rfl rfl rfl rfl rfl (Nat.le_of_ble_eq_true rfl) (Nat.le_of_ble_eq_true rfl) (fun z hz => ?_)
    refine ar_icmp_gt (pc := 249) (tgt := 282) dL_areCrowds_249 (by decide) (fun c249 => absurd c249 (Int32.not_lt.mpr (by rw [su_IN k (fun i hi => (MK i hi).1), M3]; exact nI_le M6 (by omega)))) (fun c249 => ?_)
    refine ar_iload (pc := 252) dL_areCrowds_252 rfl ?_
    refine ar_aload_n (i := 0) (pc := 254) dL_areCrowds_254 rfl rfl ?_
    refine ar_bipush (pc := 255) dL_areCrowds_255 q_bipush_12 ?_
    refine ar_cl (pc := 257) dL_areCrowds_257 cal_X6_count kL_14 rfl rfl (an_count12 K) hz hR rfl rfl rfl rfl rfl rfl (Nat.le_of_ble_eq_true rfl) (Nat.le_of_ble_eq_true rfl) (fun z hz => ?_)
    refine ar_icmp_gt (pc := 260) (tgt := 282) dL_areCrowds_260 (by decide) (fun c260 => absurd c260 (Int32.not_lt.mpr (by rw [su_IN k (fun i hi => (MK i hi).2.1), M1]; exact nI_le M7 (by omega)))) (fun c260 => ?_)
    refine ar_aload_n (i := 0) (pc := 263) dL_areCrowds_263 rfl rfl ?_
    refine ar_aload_n (i := 0) (pc := 264) dL_areCrowds_264 rfl rfl ?_
    refine ar_bipush (pc := 265) dL_areCrowds_265 q_bipush_7 ?_
    refine ar_cl (pc := 267) dL_areCrowds_267 cal_X6_count kL_14 rfl rfl (an_count7 K) hz hR rfl rfl rfl rfl rfl rfl (Nat.le_of_ble_eq_true rfl) (Nat.le_of_ble_eq_true rfl) (fun z hz => ?_)
    refine ar_iconst (pc := 270) dL_areCrowds_270 q_iconst_0 ?_
    refine ar_cl (pc := 271) dL_areCrowds_271 cal_X6_booth kL_18 rfl rfl (an_boothn K (nI k) 0 hbn) hz hR rfl rfl rfl rfl rfl rfl (Nat.le_of_ble_eq_true rfl) (Nat.le_of_ble_eq_true rfl) (fun z hz => ?_)
    refine ar_iconst (pc := 274) dL_areCrowds_274 q_iconst_m1 ?_
    refine ar_icmp_ne (pc := 275) (tgt := 282) dL_areCrowds_275 (by decide) (fun c275 => absurd rfl c275) (fun c275 => ?_)
    refine ar_iconst (pc := 278) dL_areCrowds_278 q_iconst_1 ?_
    refine ar_goto (tgt := 283) (pc := 279) dL_areCrowds_279 (by decide) ?_
    exact ar_zret (pc := 283) dL_areCrowds_283 rfl (Or.inr rfl) rfl rfl ⟨rfl, z, hz, rfl⟩
  | succ d ih =>
    intro k hkd _ z hz
    have hk : k < n := by omega
    refine ar_iload (pc := 23) dL_areCrowds_23 rfl ?_
    refine ar_aload_n (i := 0) (pc := 25) dL_areCrowds_25 rfl rfl ?_
    refine ar_bipush (pc := 26) dL_areCrowds_26 q_bipush_7 ?_
    refine ar_cl (pc := 28) dL_areCrowds_28 cal_X6_count kL_14 rfl rfl (an_count7 K) hz hR rfl rfl rfl rfl rfl rfl (Nat.le_of_ble_eq_true rfl) (Nat.le_of_ble_eq_true rfl) (fun z hz => ?_)
    refine ar_icmp_ge (pc := 31) (tgt := 192) dL_areCrowds_31 (by decide) (fun c31 => absurd c31 (nI_ge hk (by omega))) (fun c31 => ?_)
    refine ar_iload (pc := 34) dL_areCrowds_34 rfl ?_
    refine ar_bipush (pc := 36) dL_areCrowds_36 q_bipush_8 ?_
    refine ar_icmp_ge (pc := 38) (tgt := 192) dL_areCrowds_38 (by decide) (fun c38 => absurd c38 (nI_ge (show k < 8 by omega) (by decide))) (fun c38 => ?_)
    refine ar_aload_n (i := 0) (pc := 41) dL_areCrowds_41 rfl rfl ?_
    refine ar_iload (pc := 42) dL_areCrowds_42 rfl ?_
    refine ar_iconst (pc := 44) dL_areCrowds_44 q_iconst_2 ?_
    refine ar_cl (pc := 45) dL_areCrowds_45 cal_X6_booth kL_18 rfl rfl (an_booth2 K hk) hz hR rfl rfl rfl rfl rfl rfl (Nat.le_of_ble_eq_true rfl) (Nat.le_of_ble_eq_true rfl) (fun z hz => ?_)
    refine ar_hs (cr_sf v n k) ?_
    refine ar_istore (pc := 48) dL_areCrowds_48 (Nat.le_of_ble_eq_true rfl) rfl ?_
    refine ar_aload_n (i := 0) (pc := 50) dL_areCrowds_50 rfl rfl ?_
    refine ar_iload (pc := 51) dL_areCrowds_51 rfl ?_
    refine ar_iconst (pc := 53) dL_areCrowds_53 q_iconst_1 ?_
    refine ar_cl (pc := 54) dL_areCrowds_54 cal_X6_booth kL_18 rfl rfl (an_booth1 K hk) hz hR rfl rfl rfl rfl rfl rfl (Nat.le_of_ble_eq_true rfl) (Nat.le_of_ble_eq_true rfl) (fun z hz => ?_)
    rcases K.2.1.2.2.2.2.1 k hk with e6 | ip
    · refine ar_if_lt (pc := 57) (tgt := 64) dL_areCrowds_57 (by decide) (fun c57 => ?_) (fun c57 => absurd (show vP v k < 0 by rw [e6]; decide) c57)
      refine ar_iconst (pc := 64) dL_areCrowds_64 q_iconst_0 ?_
      refine ar_istore (pc := 65) dL_areCrowds_65 (Nat.le_of_ble_eq_true rfl) rfl ?_
      refine ar_iload_n (i := 3) (pc := 67) dL_areCrowds_67 rfl rfl ?_
      refine ar_iload (pc := 68) dL_areCrowds_68 rfl ?_
      refine ar_iadd (pc := 70) dL_areCrowds_70 ?_
      refine ar_istore_n (i := 3) (pc := 71) dL_areCrowds_71 rfl (Nat.le_of_ble_eq_true rfl) rfl ?_
      refine ar_iload (pc := 72) dL_areCrowds_72 rfl ?_
      refine ar_aload_n (i := 0) (pc := 74) dL_areCrowds_74 rfl rfl ?_
      refine ar_iload (pc := 75) dL_areCrowds_75 rfl ?_
      refine ar_iconst (pc := 77) dL_areCrowds_77 q_iconst_5 ?_
      refine ar_cl (pc := 78) dL_areCrowds_78 cal_X6_booth kL_18 rfl rfl (an_booth5 K hk) hz hR rfl rfl rfl rfl rfl rfl (Nat.le_of_ble_eq_true rfl) (Nat.le_of_ble_eq_true rfl) (fun z hz => ?_)
      refine ar_iadd (pc := 81) dL_areCrowds_81 ?_
      refine ar_istore (pc := 82) dL_areCrowds_82 (Nat.le_of_ble_eq_true rfl) rfl ?_
      refine ar_iload (pc := 84) dL_areCrowds_84 rfl ?_
      refine ar_aload_n (i := 0) (pc := 86) dL_areCrowds_86 rfl rfl ?_
      refine ar_iload (pc := 87) dL_areCrowds_87 rfl ?_
      refine ar_bipush (pc := 89) dL_areCrowds_89 q_bipush_6 ?_
      refine ar_cl (pc := 91) dL_areCrowds_91 cal_X6_booth kL_18 rfl rfl (an_booth6 K hk) hz hR rfl rfl rfl rfl rfl rfl (Nat.le_of_ble_eq_true rfl) (Nat.le_of_ble_eq_true rfl) (fun z hz => ?_)
      refine ar_iadd (pc := 94) dL_areCrowds_94 ?_
      refine ar_istore (pc := 95) dL_areCrowds_95 (Nat.le_of_ble_eq_true rfl) rfl ?_
      refine ar_iload (pc := 97) dL_areCrowds_97 rfl ?_
      refine ar_aload_n (i := 0) (pc := 99) dL_areCrowds_99 rfl rfl ?_
      refine ar_iload (pc := 100) dL_areCrowds_100 rfl ?_
      refine ar_iconst (pc := 102) dL_areCrowds_102 q_iconst_3 ?_
      refine ar_cl (pc := 103) dL_areCrowds_103 cal_X6_booth kL_18 rfl rfl (an_booth3 K hk) hz hR rfl rfl rfl rfl rfl rfl (Nat.le_of_ble_eq_true rfl) (Nat.le_of_ble_eq_true rfl) (fun z hz => ?_)
      refine ar_aload_n (i := 0) (pc := 106) dL_areCrowds_106 rfl rfl ?_
      refine ar_iload (pc := 107) dL_areCrowds_107 rfl ?_
      refine ar_iconst (pc := 109) dL_areCrowds_109 q_iconst_4 ?_
      refine ar_cl (pc := 110) dL_areCrowds_110 cal_X6_booth kL_18 rfl rfl (an_booth4 K hk) hz hR rfl rfl rfl rfl rfl rfl (Nat.le_of_ble_eq_true rfl) (Nat.le_of_ble_eq_true rfl) (fun z hz => ?_)
      refine ar_iadd (pc := 113) dL_areCrowds_113 ?_
      refine ar_icmp_ne (pc := 114) (tgt := 184) dL_areCrowds_114 (by decide) (fun c114 => absurd rfl c114) (fun c114 => ?_)
      refine ar_iload (pc := 117) dL_areCrowds_117 rfl ?_
      refine ar_if_ne (pc := 119) (tgt := 145) dL_areCrowds_119 (by decide) (fun c119 => absurd rfl c119) (fun c119 => ?_)
      refine ar_iload (pc := 122) dL_areCrowds_122 rfl ?_
      refine ar_aload_n (i := 0) (pc := 124) dL_areCrowds_124 rfl rfl ?_
      refine ar_iload (pc := 125) dL_areCrowds_125 rfl ?_
      refine ar_iconst (pc := 127) dL_areCrowds_127 q_iconst_0 ?_
      refine ar_iconst (pc := 128) dL_areCrowds_128 q_iconst_0 ?_
      refine ar_cl (pc := 129) dL_areCrowds_129 cal_X6_seen kL_21 rfl rfl (an_seenz0 K hk e6) hz hR rfl rfl rfl rfl rfl rfl (Nat.le_of_ble_eq_true rfl) (Nat.le_of_ble_eq_true rfl) (fun z hz => ?_)
      refine ar_iadd (pc := 132) dL_areCrowds_132 ?_
      refine ar_aload_n (i := 0) (pc := 133) dL_areCrowds_133 rfl rfl ?_
      refine ar_iload (pc := 134) dL_areCrowds_134 rfl ?_
      refine ar_iconst (pc := 136) dL_areCrowds_136 q_iconst_1 ?_
      refine ar_iconst (pc := 137) dL_areCrowds_137 q_iconst_1 ?_
      refine ar_cl (pc := 138) dL_areCrowds_138 cal_X6_seen kL_21 rfl rfl (an_seenz1 K hk e6) hz hR rfl rfl rfl rfl rfl rfl (Nat.le_of_ble_eq_true rfl) (Nat.le_of_ble_eq_true rfl) (fun z hz => ?_)
      refine ar_iadd (pc := 141) dL_areCrowds_141 ?_
      refine ar_if_ne (pc := 142) (tgt := 184) dL_areCrowds_142 (by decide) (fun c142 => absurd (show sfV 1 v n k + sfV 0 v n k + 0 + 0 = 0 by rw [sf_6 e6, sf_6 e6]; decide) c142) (fun c142 => ?_)
      refine ar_aload_n (i := 0) (pc := 145) dL_areCrowds_145 rfl rfl ?_
      refine ar_iload (pc := 146) dL_areCrowds_146 rfl ?_
      refine ar_bipush (pc := 148) dL_areCrowds_148 q_bipush_7 ?_
      refine ar_cl (pc := 150) dL_areCrowds_150 cal_X6_booth kL_18 rfl rfl (an_booth7 K hk) hz hR rfl rfl rfl rfl rfl rfl (Nat.le_of_ble_eq_true rfl) (Nat.le_of_ble_eq_true rfl) (fun z hz => ?_)
      refine ar_if_lt (pc := 153) (tgt := 184) dL_areCrowds_153 (by decide) (fun c153 => absurd c153 (by rw [(MK k hk).2.2.1]; exact nI_pos (by have := (MK k hk).2.2.2; omega))) (fun c153 => ?_)
      refine ar_aload_n (i := 0) (pc := 156) dL_areCrowds_156 rfl rfl ?_
      refine ar_iload (pc := 157) dL_areCrowds_157 rfl ?_
      refine ar_bipush (pc := 159) dL_areCrowds_159 q_bipush_6 ?_
      refine ar_cl (pc := 161) dL_areCrowds_161 cal_X6_booth kL_18 rfl rfl (an_booth6 K hk) hz hR rfl rfl rfl rfl rfl rfl (Nat.le_of_ble_eq_true rfl) (Nat.le_of_ble_eq_true rfl) (fun z hz => ?_)
      refine ar_aload_n (i := 0) (pc := 164) dL_areCrowds_164 rfl rfl ?_
      refine ar_iload (pc := 165) dL_areCrowds_165 rfl ?_
      refine ar_bipush (pc := 167) dL_areCrowds_167 q_bipush_7 ?_
      refine ar_cl (pc := 169) dL_areCrowds_169 cal_X6_booth kL_18 rfl rfl (an_booth7 K hk) hz hR rfl rfl rfl rfl rfl rfl (Nat.le_of_ble_eq_true rfl) (Nat.le_of_ble_eq_true rfl) (fun z hz => ?_)
      refine ar_iadd (pc := 172) dL_areCrowds_172 ?_
      refine ar_iconst (pc := 173) dL_areCrowds_173 q_iconst_2 ?_
      refine ar_aload_n (i := 0) (pc := 174) dL_areCrowds_174 rfl rfl ?_
      refine ar_bipush (pc := 175) dL_areCrowds_175 q_bipush_12 ?_
      refine ar_cl (pc := 177) dL_areCrowds_177 cal_X6_count kL_14 rfl rfl (an_count12 K) hz hR rfl rfl rfl rfl rfl rfl (Nat.le_of_ble_eq_true rfl) (Nat.le_of_ble_eq_true rfl) (fun z hz => ?_)
      refine ar_imul (pc := 180) dL_areCrowds_180 ?_
      refine ar_icmp_le (pc := 181) (tgt := 186) dL_areCrowds_181 (by decide) (fun c181 => ?_) (fun c181 => absurd (show vF v k + vI v k ≤ 2 * vDa v by rw [(MK k hk).2.1, (MK k hk).2.2.1, M1, nI_add, show (2 : Int32) = nI 2 from rfl, pk_mul]; exact nI_le (MK k hk).2.2.2 (by omega)) c181)
      refine ar_iinc (pc := 186) dL_areCrowds_186 rfl (nI_1 k) (Nat.le_of_ble_eq_true rfl) rfl ?_
      refine ar_goto (tgt := 23) (pc := 189) dL_areCrowds_189 (by decide) ?_
      refine ar_fg ?_ (ih (k + 1) (by omega) (by omega) z hz)
      exact ⟨rfl, rfl, rfl, rfl, rfl, rfl, rfl, trivial⟩
    · refine ar_if_lt (pc := 57) (tgt := 64) dL_areCrowds_57 (by decide) (fun c57 => absurd c57 (p_lt0 (n := n) ip)) (fun c57 => ?_)
      refine ar_iconst (pc := 60) dL_areCrowds_60 q_iconst_1 ?_
      refine ar_goto (tgt := 65) (pc := 61) dL_areCrowds_61 (by decide) ?_
      refine ar_istore (pc := 65) dL_areCrowds_65 (Nat.le_of_ble_eq_true rfl) rfl ?_
      refine ar_iload_n (i := 3) (pc := 67) dL_areCrowds_67 rfl rfl ?_
      refine ar_iload (pc := 68) dL_areCrowds_68 rfl ?_
      refine ar_iadd (pc := 70) dL_areCrowds_70 ?_
      refine ar_istore_n (i := 3) (pc := 71) dL_areCrowds_71 rfl (Nat.le_of_ble_eq_true rfl) rfl ?_
      refine ar_iload (pc := 72) dL_areCrowds_72 rfl ?_
      refine ar_aload_n (i := 0) (pc := 74) dL_areCrowds_74 rfl rfl ?_
      refine ar_iload (pc := 75) dL_areCrowds_75 rfl ?_
      refine ar_iconst (pc := 77) dL_areCrowds_77 q_iconst_5 ?_
      refine ar_cl (pc := 78) dL_areCrowds_78 cal_X6_booth kL_18 rfl rfl (an_booth5 K hk) hz hR rfl rfl rfl rfl rfl rfl (Nat.le_of_ble_eq_true rfl) (Nat.le_of_ble_eq_true rfl) (fun z hz => ?_)
      refine ar_iadd (pc := 81) dL_areCrowds_81 ?_
      refine ar_istore (pc := 82) dL_areCrowds_82 (Nat.le_of_ble_eq_true rfl) rfl ?_
      refine ar_iload (pc := 84) dL_areCrowds_84 rfl ?_
      refine ar_aload_n (i := 0) (pc := 86) dL_areCrowds_86 rfl rfl ?_
      refine ar_iload (pc := 87) dL_areCrowds_87 rfl ?_
      refine ar_bipush (pc := 89) dL_areCrowds_89 q_bipush_6 ?_
      refine ar_cl (pc := 91) dL_areCrowds_91 cal_X6_booth kL_18 rfl rfl (an_booth6 K hk) hz hR rfl rfl rfl rfl rfl rfl (Nat.le_of_ble_eq_true rfl) (Nat.le_of_ble_eq_true rfl) (fun z hz => ?_)
      refine ar_iadd (pc := 94) dL_areCrowds_94 ?_
      refine ar_istore (pc := 95) dL_areCrowds_95 (Nat.le_of_ble_eq_true rfl) rfl ?_
      refine ar_iload (pc := 97) dL_areCrowds_97 rfl ?_
      refine ar_aload_n (i := 0) (pc := 99) dL_areCrowds_99 rfl rfl ?_
      refine ar_iload (pc := 100) dL_areCrowds_100 rfl ?_
      refine ar_iconst (pc := 102) dL_areCrowds_102 q_iconst_3 ?_
      refine ar_cl (pc := 103) dL_areCrowds_103 cal_X6_booth kL_18 rfl rfl (an_booth3 K hk) hz hR rfl rfl rfl rfl rfl rfl (Nat.le_of_ble_eq_true rfl) (Nat.le_of_ble_eq_true rfl) (fun z hz => ?_)
      refine ar_aload_n (i := 0) (pc := 106) dL_areCrowds_106 rfl rfl ?_
      refine ar_iload (pc := 107) dL_areCrowds_107 rfl ?_
      refine ar_iconst (pc := 109) dL_areCrowds_109 q_iconst_4 ?_
      refine ar_cl (pc := 110) dL_areCrowds_110 cal_X6_booth kL_18 rfl rfl (an_booth4 K hk) hz hR rfl rfl rfl rfl rfl rfl (Nat.le_of_ble_eq_true rfl) (Nat.le_of_ble_eq_true rfl) (fun z hz => ?_)
      refine ar_iadd (pc := 113) dL_areCrowds_113 ?_
      refine ar_icmp_ne (pc := 114) (tgt := 184) dL_areCrowds_114 (by decide) (fun c114 => absurd rfl c114) (fun c114 => ?_)
      refine ar_iload (pc := 117) dL_areCrowds_117 rfl ?_
      refine ar_if_ne (pc := 119) (tgt := 145) dL_areCrowds_119 (by decide) (fun c119 => ?_) (fun c119 => absurd c119 (by decide))
      refine ar_aload_n (i := 0) (pc := 145) dL_areCrowds_145 rfl rfl ?_
      refine ar_iload (pc := 146) dL_areCrowds_146 rfl ?_
      refine ar_bipush (pc := 148) dL_areCrowds_148 q_bipush_7 ?_
      refine ar_cl (pc := 150) dL_areCrowds_150 cal_X6_booth kL_18 rfl rfl (an_booth7 K hk) hz hR rfl rfl rfl rfl rfl rfl (Nat.le_of_ble_eq_true rfl) (Nat.le_of_ble_eq_true rfl) (fun z hz => ?_)
      refine ar_if_lt (pc := 153) (tgt := 184) dL_areCrowds_153 (by decide) (fun c153 => absurd c153 (by rw [(MK k hk).2.2.1]; exact nI_pos (by have := (MK k hk).2.2.2; omega))) (fun c153 => ?_)
      refine ar_aload_n (i := 0) (pc := 156) dL_areCrowds_156 rfl rfl ?_
      refine ar_iload (pc := 157) dL_areCrowds_157 rfl ?_
      refine ar_bipush (pc := 159) dL_areCrowds_159 q_bipush_6 ?_
      refine ar_cl (pc := 161) dL_areCrowds_161 cal_X6_booth kL_18 rfl rfl (an_booth6 K hk) hz hR rfl rfl rfl rfl rfl rfl (Nat.le_of_ble_eq_true rfl) (Nat.le_of_ble_eq_true rfl) (fun z hz => ?_)
      refine ar_aload_n (i := 0) (pc := 164) dL_areCrowds_164 rfl rfl ?_
      refine ar_iload (pc := 165) dL_areCrowds_165 rfl ?_
      refine ar_bipush (pc := 167) dL_areCrowds_167 q_bipush_7 ?_
      refine ar_cl (pc := 169) dL_areCrowds_169 cal_X6_booth kL_18 rfl rfl (an_booth7 K hk) hz hR rfl rfl rfl rfl rfl rfl (Nat.le_of_ble_eq_true rfl) (Nat.le_of_ble_eq_true rfl) (fun z hz => ?_)
      refine ar_iadd (pc := 172) dL_areCrowds_172 ?_
      refine ar_iconst (pc := 173) dL_areCrowds_173 q_iconst_2 ?_
      refine ar_aload_n (i := 0) (pc := 174) dL_areCrowds_174 rfl rfl ?_
      refine ar_bipush (pc := 175) dL_areCrowds_175 q_bipush_12 ?_
      refine ar_cl (pc := 177) dL_areCrowds_177 cal_X6_count kL_14 rfl rfl (an_count12 K) hz hR rfl rfl rfl rfl rfl rfl (Nat.le_of_ble_eq_true rfl) (Nat.le_of_ble_eq_true rfl) (fun z hz => ?_)
      refine ar_imul (pc := 180) dL_areCrowds_180 ?_
      refine ar_icmp_le (pc := 181) (tgt := 186) dL_areCrowds_181 (by decide) (fun c181 => ?_) (fun c181 => absurd (show vF v k + vI v k ≤ 2 * vDa v by rw [(MK k hk).2.1, (MK k hk).2.2.1, M1, nI_add, show (2 : Int32) = nI 2 from rfl, pk_mul]; exact nI_le (MK k hk).2.2.2 (by omega)) c181)
      refine ar_iinc (pc := 186) dL_areCrowds_186 rfl (nI_1 k) (Nat.le_of_ble_eq_true rfl) rfl ?_
      refine ar_goto (tgt := 23) (pc := 189) dL_areCrowds_189 (by decide) ?_
      refine ar_fg ?_ (ih (k + 1) (by omega) (by omega) z hz)
      exact ⟨rfl, rfl, rfl, rfl, rfl, rfl, rfl, trivial⟩
set_option maxHeartbeats 4000000 in
set_option maxRecDepth 100000 in
theorem sL_crowds {gg : Nat → Int32} {κ n d0 : Nat} {v : SV} (K : ok_D v n) (M : mo_D v n d0) : ln_S gg mL_areCrowds [.ref 2] 1 κ v κ v := by
  intro ff z R hz0 hR
  refine am_intro (by decide) (Nat.le_of_ble_eq_true rfl) ?_
  have hz := lz_0 hz0
  refine ar_aload_n (i := 0) (pc := 0) dL_areCrowds_0 rfl rfl ?_
  refine ar_iconst (pc := 1) dL_areCrowds_1 q_iconst_0 ?_
  refine ar_ln (pc := 2) dL_areCrowds_2 cal_L_goes kL_25 rfl (sL_goes0 K) hz hR rfl rfl rfl rfl rfl rfl (Nat.le_of_ble_eq_true rfl) (Nat.le_of_ble_eq_true rfl) (fun z hz => ?_)
  refine ar_istore_n (i := 1) (pc := 5) dL_areCrowds_5 rfl (Nat.le_of_ble_eq_true rfl) rfl ?_
  refine ar_aload_n (i := 0) (pc := 6) dL_areCrowds_6 rfl rfl ?_
  refine ar_iconst (pc := 7) dL_areCrowds_7 q_iconst_1 ?_
  refine ar_ln (pc := 8) dL_areCrowds_8 cal_L_goes kL_25 rfl (sL_goes1 K) hz hR rfl rfl rfl rfl rfl rfl (Nat.le_of_ble_eq_true rfl) (Nat.le_of_ble_eq_true rfl) (fun z hz => ?_)
  refine ar_istore_n (i := 2) (pc := 11) dL_areCrowds_11 rfl (Nat.le_of_ble_eq_true rfl) rfl ?_
  refine ar_iconst (pc := 12) dL_areCrowds_12 q_iconst_0 ?_
  refine ar_istore_n (i := 3) (pc := 13) dL_areCrowds_13 rfl (Nat.le_of_ble_eq_true rfl) rfl ?_
  refine ar_iconst (pc := 14) dL_areCrowds_14 q_iconst_0 ?_
  refine ar_istore (pc := 15) dL_areCrowds_15 (Nat.le_of_ble_eq_true rfl) rfl ?_
  refine ar_iconst (pc := 17) dL_areCrowds_17 q_iconst_0 ?_
  refine ar_istore (pc := 18) dL_areCrowds_18 (Nat.le_of_ble_eq_true rfl) rfl ?_
  refine ar_iconst (pc := 20) dL_areCrowds_20 q_iconst_0 ?_
  refine ar_istore (pc := 21) dL_areCrowds_21 (Nat.le_of_ble_eq_true rfl) rfl ?_
  refine ar_fg ?_ (lL_crowds_23 K M hR n 0 (by omega) (by omega) z hz)
  exact ⟨rfl, rfl, rfl, rfl, rfl, rfl, rfl, trivial⟩
