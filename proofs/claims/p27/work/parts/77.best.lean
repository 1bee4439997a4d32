/-! the law: a booth at all pitches and with all heights -/
set_option maxHeartbeats 4000000 in
set_option maxRecDepth 100000 in
theorem lL_best_31 {gg ff : Nat → Int32} {n b : Nat} {v : SV} (K : ok_D v n) (hb : b < n) {h0 : am_H} {z0 : PV} {R : am_H} (hR : lr_H R) (C : ∀ y : Int32, ok_D (mv_W v b y) n → inP y → ∀ (z : PV) (kc ks : Nat), lz_D 6 (mv_W v b y) z0 z → kc ≤ 96 → ks ≤ 804 → am_RW mL_isBest h0 (ln_P 1 ff gg 6 v z0 R) kc ks 124 [some (.ref 2), some (.int (nI b)), some (.int (bopC (bc_F v n b) (bo_F v n b) 12).1), some (.int (vP v b)), some (.int (vH v b)), some (.int (bopC (bc_F v n b) (bo_F v n b) 12).1), none, none, none, none, none, none, none, none] [] (ppH false ff false gg z ++ R)) : ∀ (d k : Nat), k + d = 12 → ∀ y : Int32, ok_D (mv_W v b y) n → ((∃ q, q < k ∧ ¬ tkP v n (nI q) b) → inP y) → ∀ (z : PV) (kc ks : Nat), lz_D 6 (mv_W v b y) z0 z → kc ≤ 8 * k → ks ≤ 67 * k → am_RW mL_isBest h0 (ln_P 1 ff gg 6 v z0 R) kc ks 31 [some (.ref 2), some (.int (nI b)), some (.int (bopC (bc_F v n b) (bo_F v n b) 12).1), some (.int (vP v b)), some (.int (vH v b)), some (.int (bopC (bc_F v n b) (bo_F v n b) k).1), some (.int (bopC (bc_F v n b) (bo_F v n b) k).2), some (.int (nI k)), none, none, none, none, none, none] [] (ppH false ff false gg z ++ R) := by
  have h8 := K.2.1.1
  intro d
  induction d with
  | zero =>
    intro k hk y K2 hy z kc ks hz hkc hks
    have e : k = 12 := by omega
    subst e
    refine ar_iload (pc := 31) dL_isBest_31 rfl ?_
    refine ar_bipush (pc := 33) dL_isBest_33 q_bipush_12 ?_
    refine ar_icmp_ge (pc := 35) (tgt := 124) dL_isBest_35 (by decide) (fun c35 => ?_) (fun c35 => absurd (Int32.le_refl _) c35)
    obtain ⟨q, q1, q2⟩ := mv_ex (b := b) K
    refine ar_fg ?_ (C y K2 (hy ⟨q, q1, q2⟩) z kc ks hz (by omega) (by omega))
    exact ⟨rfl, rfl, rfl, rfl, rfl, rfl, trivial⟩
  | succ d ih =>
    intro k hkd y K2 hy z kc ks hz hkc hks
    have hk : k < 12 := by omega
    refine ar_iload (pc := 31) dL_isBest_31 rfl ?_
    refine ar_bipush (pc := 33) dL_isBest_33 q_bipush_12 ?_
    refine ar_icmp_ge (pc := 35) (tgt := 124) dL_isBest_35 (by decide) (fun c35 => absurd c35 (nI_ge (show k < 12 by omega) (by decide))) (fun c35 => ?_)
    rcases Classical.em (tkP v n (nI k) b) with ht | ht
    · have E := bo_t K hb hk ht
      refine ar_aload_n (i := 0) (pc := 38) dL_isBest_38 rfl rfl ?_
      refine ar_iload_n (i := 1) (pc := 39) dL_isBest_39 rfl rfl ?_
      refine ar_iload (pc := 40) dL_isBest_40 rfl ?_
      refine ar_cl (pc := 42) dL_isBest_42 cal_X6_ifStood kL_44 rfl rfl (an_ifst K2 hb hk ((mv_tk K K2 hb hk).mpr ht)) hz hR rfl rfl rfl rfl (Nat.add_zero kc) (Nat.add_zero ks) (show kc ≤ 184 by omega) (show ks ≤ 1541 by omega) (fun z hz => ?_)
      refine ar_istore (pc := 45) dL_isBest_45 (Nat.le_of_ble_eq_true rfl) rfl ?_
      refine ar_aload_n (i := 0) (pc := 47) dL_isBest_47 rfl rfl ?_
      refine ar_iload_n (i := 1) (pc := 48) dL_isBest_48 rfl rfl ?_
      refine ar_iload (pc := 49) dL_isBest_49 rfl ?_
      refine ar_cl (pc := 51) dL_isBest_51 cal_X6_stand kL_47 rfl rfl (an_standt K2 hb (Or.inr (in_p hk)) ((mv_tk K K2 hb hk).mpr ht)) hz hR rfl rfl rfl rfl (rfl : kc + 8 = kc + 8) (rfl : ks + 67 = ks + 67) (show kc + 8 ≤ 184 by omega) (show ks + 67 ≤ 1541 by omega) (fun z hz => ?_)
      refine ar_istore (pc := 54) dL_isBest_54 (Nat.le_of_ble_eq_true rfl) rfl ?_
      refine ar_iload (pc := 56) dL_isBest_56 rfl ?_
      refine ar_bipush (pc := 58) dL_isBest_58 q_bipush_m5 ?_
      refine ar_icmp_ne (pc := 60) (tgt := 73) dL_isBest_60 (by decide) (fun c60 => absurd rfl c60) (fun c60 => ?_)
      refine ar_iload (pc := 63) dL_isBest_63 rfl ?_
      refine ar_iload (pc := 65) dL_isBest_65 rfl ?_
      refine ar_icmp_eq (pc := 67) (tgt := 86) dL_isBest_67 (by decide) (fun c67 => ?_) (fun c67 => absurd rfl c67)
      refine ar_iload (pc := 86) dL_isBest_86 rfl ?_
      refine ar_iload (pc := 88) dL_isBest_88 rfl ?_
      refine ar_icmp_le (pc := 90) (tgt := 98) dL_isBest_90 (by decide) (fun c90 => ?_) (fun c90 => absurd (Int32.not_lt.mp E.2) c90)
      refine ar_iload (pc := 98) dL_isBest_98 rfl ?_
      refine ar_istore (pc := 100) dL_isBest_100 (Nat.le_of_ble_eq_true rfl) rfl ?_
      refine ar_iload (pc := 102) dL_isBest_102 rfl ?_
      refine ar_iload (pc := 104) dL_isBest_104 rfl ?_
      refine ar_icmp_le (pc := 106) (tgt := 114) dL_isBest_106 (by decide) (fun c106 => ?_) (fun c106 => absurd (Int32.not_lt.mp E.2) c106)
      refine ar_iload (pc := 114) dL_isBest_114 rfl ?_
      refine ar_istore (pc := 116) dL_isBest_116 (Nat.le_of_ble_eq_true rfl) rfl ?_
      refine ar_iinc (pc := 118) dL_isBest_118 rfl (nI_1 k) (Nat.le_of_ble_eq_true rfl) rfl ?_
      refine ar_goto (tgt := 31) (pc := 121) dL_isBest_121 (by decide) ?_
      have A := ih (k + 1) (by omega) y K2 (fun ⟨q, q1, q2⟩ => hy ⟨q, by by_cases e : q = k; (subst e; exact absurd ht q2); omega, q2⟩) z (kc + 8) (ks + 67) hz (by omega) (by omega)
      rw [E.1] at A
      refine ar_fg ?_ A
      exact ⟨rfl, rfl, rfl, rfl, rfl, rfl, rfl, rfl, trivial⟩
    · have K3 : ok_D (mv_W v b (nI k)) n := ok_stand K (Or.inr (in_p hk)) ht
      refine ar_aload_n (i := 0) (pc := 38) dL_isBest_38 rfl rfl ?_
      refine ar_iload_n (i := 1) (pc := 39) dL_isBest_39 rfl rfl ?_
      refine ar_iload (pc := 40) dL_isBest_40 rfl ?_
      refine ar_cl (pc := 42) dL_isBest_42 cal_X6_ifStood kL_44 rfl rfl (an_ifss K2 hb hk (fun q => ht ((mv_tk K K2 hb hk).mp q))) hz hR rfl rfl rfl rfl (Nat.add_zero kc) (Nat.add_zero ks) (show kc ≤ 184 by omega) (show ks ≤ 1541 by omega) (fun z hz => ?_)
      refine ar_hs (bc_mv (show b < 8 by omega)) ?_
      refine ar_istore (pc := 45) dL_isBest_45 (Nat.le_of_ble_eq_true rfl) rfl ?_
      refine ar_aload_n (i := 0) (pc := 47) dL_isBest_47 rfl rfl ?_
      refine ar_iload_n (i := 1) (pc := 48) dL_isBest_48 rfl rfl ?_
      refine ar_iload (pc := 49) dL_isBest_49 rfl ?_
      refine ar_cl (pc := 51) dL_isBest_51 cal_X6_stand kL_47 rfl rfl (an_mv K2 hb (Or.inr (in_p hk)) (fun q => ht ((mv_tk K K2 hb hk).mp q))) hz hR rfl rfl rfl rfl (rfl : kc + 8 = kc + 8) (rfl : ks + 67 = ks + 67) (show kc + 8 ≤ 184 by omega) (show ks + 67 ≤ 1541 by omega) (fun z hz => ?_)
      refine ar_istore (pc := 54) dL_isBest_54 (Nat.le_of_ble_eq_true rfl) rfl ?_
      refine ar_iload (pc := 56) dL_isBest_56 rfl ?_
      refine ar_bipush (pc := 58) dL_isBest_58 q_bipush_m5 ?_
      refine ar_icmp_ne (pc := 60) (tgt := 73) dL_isBest_60 (by decide) (fun c60 => ?_) (fun c60 => absurd c60 (mv_5 K2 hb))
      refine ar_aload_n (i := 0) (pc := 73) dL_isBest_73 rfl rfl ?_
      refine ar_iload_n (i := 1) (pc := 74) dL_isBest_74 rfl rfl ?_
      refine ar_iconst (pc := 75) dL_isBest_75 q_iconst_2 ?_
      refine ar_cl (pc := 76) dL_isBest_76 cal_X6_booth kL_18 rfl rfl (an_booth2 K3 hb) hz hR rfl rfl rfl rfl (Nat.add_zero (kc + 8)) (Nat.add_zero (ks + 67)) (show (kc + 8) ≤ 184 by omega) (show (ks + 67) ≤ 1541 by omega) (fun z hz => ?_)
      refine ar_hs (mv_cr K K3 hb hk) ?_
      refine ar_iload (pc := 79) dL_isBest_79 rfl ?_
      refine ar_icmp_eq (pc := 81) (tgt := 86) dL_isBest_81 (by decide) (fun c81 => ?_) (fun c81 => absurd rfl c81)
      refine ar_iload (pc := 86) dL_isBest_86 rfl ?_
      refine ar_iload (pc := 88) dL_isBest_88 rfl ?_
      refine ar_icmp_le (pc := 90) (tgt := 98) dL_isBest_90 (by decide) (fun c90 => ?_) (fun c90 => ?_)
      · refine ar_iload (pc := 98) dL_isBest_98 rfl ?_
        refine ar_istore (pc := 100) dL_isBest_100 (Nat.le_of_ble_eq_true rfl) rfl ?_
        refine ar_iload (pc := 102) dL_isBest_102 rfl ?_
        refine ar_iload (pc := 104) dL_isBest_104 rfl ?_
        refine ar_icmp_le (pc := 106) (tgt := 114) dL_isBest_106 (by decide) (fun c106 => ?_) (fun c106 => absurd c90 c106)
        refine ar_iload (pc := 114) dL_isBest_114 rfl ?_
        refine ar_istore (pc := 116) dL_isBest_116 (Nat.le_of_ble_eq_true rfl) rfl ?_
        refine ar_iinc (pc := 118) dL_isBest_118 rfl (nI_1 k) (Nat.le_of_ble_eq_true rfl) rfl ?_
        refine ar_goto (tgt := 31) (pc := 121) dL_isBest_121 (by decide) ?_
        have A := ih (k + 1) (by omega) (nI k) K3 (fun _ => in_p hk) z (kc + 8) (ks + 67) hz (by omega) (by omega)
        rw [bo_no (Int32.not_lt.mpr c90)] at A
        refine ar_fg ?_ A
        exact ⟨rfl, rfl, rfl, rfl, rfl, rfl, rfl, rfl, trivial⟩
      · refine ar_iload (pc := 93) dL_isBest_93 rfl ?_
        refine ar_goto (tgt := 100) (pc := 95) dL_isBest_95 (by decide) ?_
        refine ar_istore (pc := 100) dL_isBest_100 (Nat.le_of_ble_eq_true rfl) rfl ?_
        refine ar_iload (pc := 102) dL_isBest_102 rfl ?_
        refine ar_iload (pc := 104) dL_isBest_104 rfl ?_
        refine ar_icmp_le (pc := 106) (tgt := 114) dL_isBest_106 (by decide) (fun c106 => absurd c106 c90) (fun c106 => ?_)
        refine ar_iload (pc := 109) dL_isBest_109 rfl ?_
        refine ar_goto (tgt := 116) (pc := 111) dL_isBest_111 (by decide) ?_
        refine ar_istore (pc := 116) dL_isBest_116 (Nat.le_of_ble_eq_true rfl) rfl ?_
        refine ar_iinc (pc := 118) dL_isBest_118 rfl (nI_1 k) (Nat.le_of_ble_eq_true rfl) rfl ?_
        refine ar_goto (tgt := 31) (pc := 121) dL_isBest_121 (by decide) ?_
        have A := ih (k + 1) (by omega) (nI k) K3 (fun _ => in_p hk) z (kc + 8) (ks + 67) hz (by omega) (by omega)
        rw [bo_y K hb hk ht (Int32.not_le.mp c90)] at A
        refine ar_fg ?_ A
        exact ⟨rfl, rfl, rfl, rfl, rfl, rfl, rfl, rfl, trivial⟩
set_option maxHeartbeats 4000000 in
set_option maxRecDepth 100000 in
theorem lL_best_200 {gg ff : Nat → Int32} {n b : Nat} {v : SV} (K : ok_D v n) (hb : b < n) {h0 : am_H} {z0 : PV} {R : am_H} (hR : lr_H R) (hs : stP v n b) : ∀ (d k : Nat), k + d = 9 → ∀ y : Int32, ok_D (hw_W v b y) n → (1 ≤ k → y = nI k) → ∀ (z : PV) (kc ks : Nat), lz_D 6 (hw_W v b y) z0 z → kc ≤ 104 + 8 * k → ks ≤ 871 + 67 * k → am_RW mL_isBest h0 (ln_P 1 ff gg 6 v z0 R) kc ks 200 [some (.ref 2), some (.int (nI b)), none, none, some (.int (vH v b)), none, some (.int (bl_F (crH v n b) k).2), none, some (.int 1), some (.int (bhF (crH v n b) 8).1), some (.int (bl_F (crH v n b) k).1), some (.int (nI (k + 1))), none, none] [] (ppH false ff false gg z ++ R) := by
  have h8 := K.2.1.1
  have hN : ∀ i, 1 ≤ i → i ≤ 9 → 1 ≤ (nI i).toInt ∧ (nI i).toInt ≤ 9 := fun i h1 h2 => by
    rw [nI_toInt (by omega)]
    omega
  intro d
  induction d with
  | zero =>
    intro k hk y K2 hy z kc ks hz hkc hks
    have e : k = 9 := by omega
    subst e
    refine ar_iload (pc := 200) dL_isBest_200 rfl ?_
    refine ar_bipush (pc := 202) dL_isBest_202 q_bipush_10 ?_
    refine ar_icmp_ge (pc := 204) (tgt := 279) dL_isBest_204 (by decide) (fun c204 => ?_) (fun c204 => absurd (Int32.le_refl _) c204)
    refine ar_iload (pc := 279) dL_isBest_279 rfl ?_
    refine ar_if_eq (pc := 281) (tgt := 307) dL_isBest_281 (by decide) (fun c281 => absurd c281 (by decide)) (fun c281 => ?_)
    refine ar_aload_n (i := 0) (pc := 284) dL_isBest_284 rfl rfl ?_
    refine ar_iload_n (i := 1) (pc := 285) dL_isBest_285 rfl rfl ?_
    refine ar_iload (pc := 286) dL_isBest_286 rfl ?_
    refine ar_cl (pc := 288) dL_isBest_288 cal_X6_height kL_53 rfl rfl (an_hwb K K2 hb) hz hR rfl rfl rfl rfl (rfl : kc + 8 = kc + 8) (rfl : ks + 67 = ks + 67) (show kc + 8 ≤ 184 by omega) (show ks + 67 ≤ 1541 by omega) (fun z hz => ?_)
    refine ar_bipush (pc := 291) dL_isBest_291 q_bipush_9 ?_
    refine ar_icmp_ne (pc := 293) (tgt := 307) dL_isBest_293 (by decide) (fun c293 => absurd (hy (by omega)) c293) (fun c293 => ?_)
    refine ar_iload (pc := 296) dL_isBest_296 rfl ?_
    refine ar_iload (pc := 298) dL_isBest_298 rfl ?_
    refine ar_icmp_ne (pc := 300) (tgt := 307) dL_isBest_300 (by decide) (fun c300 => absurd (congrArg Prod.fst (bl_bh (cr_1 K 1) 8)) c300) (fun c300 => ?_)
    refine ar_iconst (pc := 303) dL_isBest_303 q_iconst_1 ?_
    refine ar_goto (tgt := 308) (pc := 304) dL_isBest_304 (by decide) ?_
    exact ar_zret (pc := 308) dL_isBest_308 rfl (Or.inr rfl) (Nat.ble_eq_true_of_le (show kc + 8 ≤ 184 by omega)) (Nat.ble_eq_true_of_le (show ks + 67 ≤ 1541 by omega)) ⟨rfl, z, hz, rfl⟩
  | succ d ih =>
    intro k hkd y K2 hy z kc ks hz hkc hks
    have K3 : ok_D (hw_W v b (nI (k + 1))) n := ok_height K (hN (k + 1) (by omega) (by omega))
    refine ar_iload (pc := 200) dL_isBest_200 rfl ?_
    refine ar_bipush (pc := 202) dL_isBest_202 q_bipush_10 ?_
    refine ar_icmp_ge (pc := 204) (tgt := 279) dL_isBest_204 (by decide) (fun c204 => absurd c204 (nI_ge (show k + 1 < 10 by omega) (by decide))) (fun c204 => ?_)
    refine ar_aload_n (i := 0) (pc := 207) dL_isBest_207 rfl rfl ?_
    refine ar_iload_n (i := 1) (pc := 208) dL_isBest_208 rfl rfl ?_
    refine ar_iload (pc := 209) dL_isBest_209 rfl ?_
    refine ar_cl (pc := 211) dL_isBest_211 cal_X6_height kL_53 rfl rfl (an_hw K2 hb (hN (k + 1) (by omega) (by omega))) hz hR rfl rfl rfl rfl (rfl : kc + 8 = kc + 8) (rfl : ks + 67 = ks + 67) (show kc + 8 ≤ 184 by omega) (show ks + 67 ≤ 1541 by omega) (fun z hz => ?_)
    refine ar_istore (pc := 214) dL_isBest_214 (Nat.le_of_ble_eq_true rfl) rfl ?_
    refine ar_aload_n (i := 0) (pc := 216) dL_isBest_216 rfl rfl ?_
    refine ar_iload_n (i := 1) (pc := 217) dL_isBest_217 rfl rfl ?_
    refine ar_iconst (pc := 218) dL_isBest_218 q_iconst_2 ?_
    refine ar_cl (pc := 219) dL_isBest_219 cal_X6_booth kL_18 rfl rfl (an_booth2 K3 hb) hz hR rfl rfl rfl rfl (Nat.add_zero (kc + 8)) (Nat.add_zero (ks + 67)) (show (kc + 8) ≤ 184 by omega) (show (ks + 67) ≤ 1541 by omega) (fun z hz => ?_)
    refine ar_hs (hw_cr K hb hs) ?_
    refine ar_istore (pc := 222) dL_isBest_222 (Nat.le_of_ble_eq_true rfl) rfl ?_
    refine ar_iload (pc := 224) dL_isBest_224 rfl ?_
    refine ar_iload (pc := 226) dL_isBest_226 rfl ?_
    refine ar_icmp_le (pc := 228) (tgt := 236) dL_isBest_228 (by decide) (fun c228 => ?_) (fun c228 => ?_)
    · refine ar_iload (pc := 236) dL_isBest_236 rfl ?_
      refine ar_istore (pc := 238) dL_isBest_238 (Nat.le_of_ble_eq_true rfl) rfl ?_
      refine ar_iload (pc := 240) dL_isBest_240 rfl ?_
      refine ar_iload (pc := 242) dL_isBest_242 rfl ?_
      refine ar_icmp_le (pc := 244) (tgt := 252) dL_isBest_244 (by decide) (fun c244 => ?_) (fun c244 => absurd c228 c244)
      refine ar_iload (pc := 252) dL_isBest_252 rfl ?_
      refine ar_istore (pc := 254) dL_isBest_254 (Nat.le_of_ble_eq_true rfl) rfl ?_
      refine ar_iload (pc := 256) dL_isBest_256 rfl ?_
      refine ar_if_eq (pc := 258) (tgt := 270) dL_isBest_258 (by decide) (fun c258 => absurd c258 (by decide)) (fun c258 => ?_)
      refine ar_iload (pc := 261) dL_isBest_261 rfl ?_
      refine ar_if_le (pc := 263) (tgt := 270) dL_isBest_263 (by decide) (fun c263 => absurd c263 (hw_y K2 hb)) (fun c263 => ?_)
      refine ar_iconst (pc := 266) dL_isBest_266 q_iconst_1 ?_
      refine ar_goto (tgt := 271) (pc := 267) dL_isBest_267 (by decide) ?_
      refine ar_istore (pc := 271) dL_isBest_271 (Nat.le_of_ble_eq_true rfl) rfl ?_
      refine ar_iinc (pc := 273) dL_isBest_273 rfl (nI_1 (k + 1)) (Nat.le_of_ble_eq_true rfl) rfl ?_
      refine ar_goto (tgt := 200) (pc := 276) dL_isBest_276 (by decide) ?_
      have A := ih (k + 1) (by omega) (nI (k + 1)) K3 (fun _ => rfl) z (kc + 8) (ks + 67) hz (by omega) (by omega)
      rw [show bl_F (crH v n b) (k + 1) = bl_F (crH v n b) k from if_neg (Int32.not_lt.mpr c228)] at A
      refine ar_fg ?_ A
      exact ⟨rfl, rfl, rfl, rfl, rfl, rfl, rfl, rfl, trivial⟩
    · refine ar_iload (pc := 231) dL_isBest_231 rfl ?_
      refine ar_goto (tgt := 238) (pc := 233) dL_isBest_233 (by decide) ?_
      refine ar_istore (pc := 238) dL_isBest_238 (Nat.le_of_ble_eq_true rfl) rfl ?_
      refine ar_iload (pc := 240) dL_isBest_240 rfl ?_
      refine ar_iload (pc := 242) dL_isBest_242 rfl ?_
      refine ar_icmp_le (pc := 244) (tgt := 252) dL_isBest_244 (by decide) (fun c244 => absurd c244 c228) (fun c244 => ?_)
      refine ar_iload (pc := 247) dL_isBest_247 rfl ?_
      refine ar_goto (tgt := 254) (pc := 249) dL_isBest_249 (by decide) ?_
      refine ar_istore (pc := 254) dL_isBest_254 (Nat.le_of_ble_eq_true rfl) rfl ?_
      refine ar_iload (pc := 256) dL_isBest_256 rfl ?_
      refine ar_if_eq (pc := 258) (tgt := 270) dL_isBest_258 (by decide) (fun c258 => absurd c258 (by decide)) (fun c258 => ?_)
      refine ar_iload (pc := 261) dL_isBest_261 rfl ?_
      refine ar_if_le (pc := 263) (tgt := 270) dL_isBest_263 (by decide) (fun c263 => absurd c263 (hw_y K2 hb)) (fun c263 => ?_)
      refine ar_iconst (pc := 266) dL_isBest_266 q_iconst_1 ?_
      refine ar_goto (tgt := 271) (pc := 267) dL_isBest_267 (by decide) ?_
      refine ar_istore (pc := 271) dL_isBest_271 (Nat.le_of_ble_eq_true rfl) rfl ?_
      refine ar_iinc (pc := 273) dL_isBest_273 rfl (nI_1 (k + 1)) (Nat.le_of_ble_eq_true rfl) rfl ?_
      refine ar_goto (tgt := 200) (pc := 276) dL_isBest_276 (by decide) ?_
      have A := ih (k + 1) (by omega) (nI (k + 1)) K3 (fun _ => rfl) z (kc + 8) (ks + 67) hz (by omega) (by omega)
      rw [show bl_F (crH v n b) (k + 1) = (nI (k + 1), crH v n b (k + 1)) from if_pos (Int32.not_le.mp c228)] at A
      refine ar_fg ?_ A
      exact ⟨rfl, rfl, rfl, rfl, rfl, rfl, rfl, rfl, trivial⟩
set_option maxHeartbeats 4000000 in
set_option maxRecDepth 100000 in
theorem lL_best_124 {gg ff : Nat → Int32} {n b : Nat} {v : SV} (K : ok_D v n) (hb : b < n) {h0 : am_H} {z0 : PV} {R : am_H} (hR : lr_H R) (y : Int32) (K2 : ok_D (mv_W v b y) n) (iy : inP y) (z : PV) (kc ks : Nat) (hz : lz_D 6 (mv_W v b y) z0 z) (hkc : kc ≤ 96) (hks : ks ≤ 804) : am_RW mL_isBest h0 (ln_P 1 ff gg 6 v z0 R) kc ks 124 [some (.ref 2), some (.int (nI b)), some (.int (bopC (bc_F v n b) (bo_F v n b) 12).1), some (.int (vP v b)), some (.int (vH v b)), some (.int (bopC (bc_F v n b) (bo_F v n b) 12).1), none, none, none, none, none, none, none, none] [] (ppH false ff false gg z ++ R) := by
  have h8 := K.2.1.1
  refine ar_aload_n (i := 0) (pc := 124) dL_isBest_124 rfl rfl ?_
  refine ar_iload_n (i := 1) (pc := 125) dL_isBest_125 rfl rfl ?_
  refine ar_iload_n (i := 3) (pc := 126) dL_isBest_126 rfl rfl ?_
  refine ar_cl (pc := 127) dL_isBest_127 cal_X6_stand kL_47 rfl rfl (an_mvb K K2 hb) hz hR rfl rfl rfl rfl (rfl : kc + 8 = kc + 8) (rfl : ks + 67 = ks + 67) (show kc + 8 ≤ 184 by omega) (show ks + 67 ≤ 1541 by omega) (fun z hz => ?_)
  refine ar_istore (pc := 130) dL_isBest_130 (Nat.le_of_ble_eq_true rfl) rfl ?_
  refine ar_iload_n (i := 2) (pc := 132) dL_isBest_132 rfl rfl ?_
  refine ar_iload (pc := 133) dL_isBest_133 rfl ?_
  refine ar_icmp_ne (pc := 135) (tgt := 157) dL_isBest_135 (by decide) (fun c135 => absurd rfl c135) (fun c135 => ?_)
  refine ar_iload (pc := 138) dL_isBest_138 rfl ?_
  refine ar_if_lt (pc := 140) (tgt := 157) dL_isBest_140 (by decide) (fun c140 => absurd c140 (by rw [Int32.lt_iff_toInt_lt, ti_0]; have := iy.1; omega)) (fun c140 => ?_)
  refine ar_aload_n (i := 0) (pc := 143) dL_isBest_143 rfl rfl ?_
  refine ar_iload_n (i := 1) (pc := 144) dL_isBest_144 rfl rfl ?_
  refine ar_iconst (pc := 145) dL_isBest_145 q_iconst_1 ?_
  refine ar_cl (pc := 146) dL_isBest_146 cal_X6_booth kL_18 rfl rfl (an_booth1 K hb) hz hR rfl rfl rfl rfl (Nat.add_zero (kc + 8)) (Nat.add_zero (ks + 67)) (show (kc + 8) ≤ 184 by omega) (show (ks + 67) ≤ 1541 by omega) (fun z hz => ?_)
  refine ar_iload_n (i := 3) (pc := 149) dL_isBest_149 rfl rfl ?_
  refine ar_icmp_ne (pc := 150) (tgt := 157) dL_isBest_150 (by decide) (fun c150 => absurd rfl c150) (fun c150 => ?_)
  refine ar_iconst (pc := 153) dL_isBest_153 q_iconst_1 ?_
  refine ar_goto (tgt := 158) (pc := 154) dL_isBest_154 (by decide) ?_
  refine ar_istore (pc := 158) dL_isBest_158 (Nat.le_of_ble_eq_true rfl) rfl ?_
  rcases K.2.1.2.2.2.2.1 b hb with e6 | ip
  · refine ar_aload_n (i := 0) (pc := 160) dL_isBest_160 rfl rfl ?_
    refine ar_iload_n (i := 1) (pc := 161) dL_isBest_161 rfl rfl ?_
    refine ar_cl (pc := 162) dL_isBest_162 cal_X6_bestHeight kL_50 rfl rfl (an_bhz K hb e6) hz hR rfl rfl rfl rfl (Nat.add_zero (kc + 8)) (Nat.add_zero (ks + 67)) (show (kc + 8) ≤ 184 by omega) (show (ks + 67) ≤ 1541 by omega) (fun z hz => ?_)
    refine ar_istore (pc := 165) dL_isBest_165 (Nat.le_of_ble_eq_true rfl) rfl ?_
    refine ar_iload_n (i := 3) (pc := 167) dL_isBest_167 rfl rfl ?_
    refine ar_bipush (pc := 168) dL_isBest_168 q_bipush_m6 ?_
    refine ar_icmp_ne (pc := 170) (tgt := 191) dL_isBest_170 (by decide) (fun c170 => absurd e6 c170) (fun c170 => ?_)
    refine ar_iload (pc := 173) dL_isBest_173 rfl ?_
    refine ar_if_eq (pc := 175) (tgt := 189) dL_isBest_175 (by decide) (fun c175 => absurd c175 (by decide)) (fun c175 => ?_)
    refine ar_iload (pc := 178) dL_isBest_178 rfl ?_
    refine ar_bipush (pc := 180) dL_isBest_180 q_bipush_m5 ?_
    refine ar_icmp_ne (pc := 182) (tgt := 189) dL_isBest_182 (by decide) (fun c182 => absurd rfl c182) (fun c182 => ?_)
    refine ar_iconst (pc := 185) dL_isBest_185 q_iconst_1 ?_
    refine ar_goto (tgt := 190) (pc := 186) dL_isBest_186 (by decide) ?_
    exact ar_zret (pc := 190) dL_isBest_190 rfl (Or.inr rfl) (Nat.ble_eq_true_of_le (show kc + 8 ≤ 184 by omega)) (Nat.ble_eq_true_of_le (show ks + 67 ≤ 1541 by omega)) ⟨rfl, z, hz, rfl⟩
  · have hs : stP v n b := ⟨hb, fun q => inP_6 (q ▸ ip)⟩
    refine ar_aload_n (i := 0) (pc := 160) dL_isBest_160 rfl rfl ?_
    refine ar_iload_n (i := 1) (pc := 161) dL_isBest_161 rfl rfl ?_
    refine ar_cl (pc := 162) dL_isBest_162 cal_X6_bestHeight kL_50 rfl rfl (an_bhs K hb hs) hz hR rfl rfl rfl rfl (Nat.add_zero (kc + 8)) (Nat.add_zero (ks + 67)) (show (kc + 8) ≤ 184 by omega) (show (ks + 67) ≤ 1541 by omega) (fun z hz => ?_)
    refine ar_istore (pc := 165) dL_isBest_165 (Nat.le_of_ble_eq_true rfl) rfl ?_
    refine ar_iload_n (i := 3) (pc := 167) dL_isBest_167 rfl rfl ?_
    refine ar_bipush (pc := 168) dL_isBest_168 q_bipush_m6 ?_
    refine ar_icmp_ne (pc := 170) (tgt := 191) dL_isBest_170 (by decide) (fun c170 => ?_) (fun c170 => absurd c170 hs.2)
    refine ar_iconst (pc := 191) dL_isBest_191 q_iconst_0 ?_
    refine ar_istore (pc := 192) dL_isBest_192 (Nat.le_of_ble_eq_true rfl) rfl ?_
    refine ar_iconst (pc := 194) dL_isBest_194 q_iconst_m1 ?_
    refine ar_istore (pc := 195) dL_isBest_195 (Nat.le_of_ble_eq_true rfl) rfl ?_
    refine ar_iconst (pc := 197) dL_isBest_197 q_iconst_1 ?_
    refine ar_istore (pc := 198) dL_isBest_198 (Nat.le_of_ble_eq_true rfl) rfl ?_
    refine ar_fg ?_ (lL_best_200 K hb hR hs 9 0 (by omega) (vH v b) ((congrArg (fun w => ok_D w n) (hw_sf v b)).mpr K) (by omega) z (kc + 8) (ks + 67) ((congrArg (fun w => lz_D 6 w z0 z) (hw_sf v b)).mpr hz) (by omega) (by omega))
    exact ⟨rfl, rfl, rfl, rfl, rfl, rfl, rfl, rfl, trivial⟩
set_option maxHeartbeats 4000000 in
set_option maxRecDepth 100000 in
theorem sL_best {gg : Nat → Int32} {n b : Nat} {v : SV} (K : ok_D v n) (hb : b < n) : ln_S gg mL_isBest [.ref 2, .int (nI b)] 1 6 v 6 v := by
  intro ff z R hz0 hR
  refine am_intro (by decide) (Nat.le_of_ble_eq_true rfl) ?_
  have hz := lz_0 hz0
  refine ar_aload_n (i := 0) (pc := 0) dL_isBest_0 rfl rfl ?_
  refine ar_iload_n (i := 1) (pc := 1) dL_isBest_1 rfl rfl ?_
  refine ar_cl (pc := 2) dL_isBest_2 cal_X6_bestPitch kL_41 rfl rfl (an_bp K hb) hz hR rfl rfl rfl rfl (Nat.add_zero 0) (Nat.add_zero 0) (Nat.le_of_ble_eq_true rfl) (Nat.le_of_ble_eq_true rfl) (fun z hz => ?_)
  refine ar_istore_n (i := 2) (pc := 5) dL_isBest_5 rfl (Nat.le_of_ble_eq_true rfl) rfl ?_
  refine ar_aload_n (i := 0) (pc := 6) dL_isBest_6 rfl rfl ?_
  refine ar_iload_n (i := 1) (pc := 7) dL_isBest_7 rfl rfl ?_
  refine ar_iconst (pc := 8) dL_isBest_8 q_iconst_1 ?_
  refine ar_cl (pc := 9) dL_isBest_9 cal_X6_booth kL_18 rfl rfl (an_booth1 K hb) hz hR rfl rfl rfl rfl (Nat.add_zero 0) (Nat.add_zero 0) (Nat.le_of_ble_eq_true rfl) (Nat.le_of_ble_eq_true rfl) (fun z hz => ?_)
  refine ar_istore_n (i := 3) (pc := 12) dL_isBest_12 rfl (Nat.le_of_ble_eq_true rfl) rfl ?_
  refine ar_aload_n (i := 0) (pc := 13) dL_isBest_13 rfl rfl ?_
  refine ar_iload_n (i := 1) (pc := 14) dL_isBest_14 rfl rfl ?_
  refine ar_iconst (pc := 15) dL_isBest_15 q_iconst_0 ?_
  refine ar_cl (pc := 16) dL_isBest_16 cal_X6_booth kL_18 rfl rfl (an_booth0 K hb) hz hR rfl rfl rfl rfl (Nat.add_zero 0) (Nat.add_zero 0) (Nat.le_of_ble_eq_true rfl) (Nat.le_of_ble_eq_true rfl) (fun z hz => ?_)
  refine ar_istore (pc := 19) dL_isBest_19 (Nat.le_of_ble_eq_true rfl) rfl ?_
  refine ar_bipush (pc := 21) dL_isBest_21 q_bipush_m6 ?_
  refine ar_istore (pc := 23) dL_isBest_23 (Nat.le_of_ble_eq_true rfl) rfl ?_
  refine ar_iconst (pc := 25) dL_isBest_25 q_iconst_m1 ?_
  refine ar_istore (pc := 26) dL_isBest_26 (Nat.le_of_ble_eq_true rfl) rfl ?_
  refine ar_iconst (pc := 28) dL_isBest_28 q_iconst_0 ?_
  refine ar_istore (pc := 29) dL_isBest_29 (Nat.le_of_ble_eq_true rfl) rfl ?_
  refine ar_fg ?_ (lL_best_31 K hb hR (lL_best_124 K hb hR) 12 0 (by omega) (vP v b) ((congrArg (fun w => ok_D w n) (mv_sf v b)).mpr K) (fun ⟨q, q1, _⟩ => absurd q1 (Nat.not_lt_zero q)) z 0 0 ((congrArg (fun w => lz_D 6 w _ z) (mv_sf v b)).mpr hz) (by omega) (by omega))
  exact ⟨rfl, rfl, rfl, rfl, rfl, rfl, rfl, rfl, trivial⟩
