/-! the law: pitches, booths, roofs -/
theorem if_Iv (p : Prop) : if_I p = 0 ∨ if_I p = 1 := by
  by_cases h : p
  · exact Or.inr (if_1 h)
  · exact Or.inl (if_0 h)
theorem if_Ic {p q : Prop} (h : p ↔ q) : if_I p = if_I q := by rw [propext h]
theorem if_In {p : Prop} (h : if_I p = 0) : ¬ p := fun q => by rw [if_1 q] at h; exact absurd h (by decide)
theorem if_Iy {p : Prop} (h : ¬ if_I p = 0) : p := Classical.byContradiction fun q => h (if_0 q)
set_option maxHeartbeats 4000000 in
set_option maxRecDepth 100000 in
theorem lL_pit_26 {gg ff : Nat → Int32} {κ n : Nat} {v : SV} (K : ok_D v n) {h0 : am_H} {z0 : PV} {R : am_H} (hR : lr_H R) {p r : Nat} (hp : p < 12) (C : ∀ z : PV, lz_D κ v z0 z → am_RW mL_arePitches h0 (ln_P 1 ff gg κ v z0 R) 0 0 140 [some (.ref 2), some (.int (nI (cn_N v n p))), some (.int (nI (r % 2 ^ p))), some (.int (nI p)), some (.int (o2i (bo_O v n p))), some (.int (if_I (fr_K v p n))), none, none, none] [] (ppH false ff false gg z ++ R)) : ∀ (d k : Nat), k + d = n → k ≤ n → ∀ z : PV, lz_D κ v z0 z → am_RW mL_arePitches h0 (ln_P 1 ff gg κ v z0 R) 0 0 26 [some (.ref 2), some (.int (nI (cn_N v n p))), some (.int (nI (r % 2 ^ p))), some (.int (nI p)), some (.int (o2i (bo_O v n p))), some (.int (if_I (fr_K v p k))), some (.int (nI k)), none, none] [] (ppH false ff false gg z ++ R) := by
  have h8 := K.2.1.1
  intro d
  induction d with
  | zero =>
    intro k hk _ z hz
    have e : k = n := by omega
    subst e
    refine ar_iload (pc := 26) dL_arePitches_26 rfl ?_
    refine ar_aload_n (i := 0) (pc := 28) dL_arePitches_28 rfl rfl ?_
    refine ar_bipush (pc := 29) dL_arePitches_29 q_bipush_7 ?_
    refine ar_cl (pc := 31) dL_arePitches_31 cal_X6_count kL_14 rfl rfl (an_count7 K) hz hR rfl rfl rfl rfl rfl rfl (Nat.le_of_ble_eq_true rfl) (Nat.le_of_ble_eq_true rfl) (fun z hz => ?_)
    refine ar_icmp_ge (pc := 34) (tgt := 140) dL_arePitches_34 (by decide) (fun c34 => ?_) (fun c34 => absurd (Int32.le_refl _) c34)
    refine ar_fg ?_ (C z hz)
    exact ⟨rfl, rfl, rfl, rfl, rfl, rfl, trivial⟩
  | succ d ih =>
    intro k hkd _ z hz
    have hkn : k < n := by omega
    refine ar_iload (pc := 26) dL_arePitches_26 rfl ?_
    refine ar_aload_n (i := 0) (pc := 28) dL_arePitches_28 rfl rfl ?_
    refine ar_bipush (pc := 29) dL_arePitches_29 q_bipush_7 ?_
    refine ar_cl (pc := 31) dL_arePitches_31 cal_X6_count kL_14 rfl rfl (an_count7 K) hz hR rfl rfl rfl rfl rfl rfl (Nat.le_of_ble_eq_true rfl) (Nat.le_of_ble_eq_true rfl) (fun z hz => ?_)
    refine ar_icmp_ge (pc := 34) (tgt := 140) dL_arePitches_34 (by decide) (fun c34 => absurd c34 (nI_ge hkn (by omega))) (fun c34 => ?_)
    refine ar_iload (pc := 37) dL_arePitches_37 rfl ?_
    refine ar_bipush (pc := 39) dL_arePitches_39 q_bipush_8 ?_
    refine ar_icmp_ge (pc := 41) (tgt := 140) dL_arePitches_41 (by decide) (fun c41 => absurd c41 (nI_ge (show k < 8 by omega) (by decide))) (fun c41 => ?_)
    refine ar_aload_n (i := 0) (pc := 44) dL_arePitches_44 rfl rfl ?_
    refine ar_iload (pc := 45) dL_arePitches_45 rfl ?_
    refine ar_iconst (pc := 47) dL_arePitches_47 q_iconst_1 ?_
    refine ar_cl (pc := 48) dL_arePitches_48 cal_X6_booth kL_18 rfl rfl (an_booth1 K hkn) hz hR rfl rfl rfl rfl rfl rfl (Nat.le_of_ble_eq_true rfl) (Nat.le_of_ble_eq_true rfl) (fun z hz => ?_)
    refine ar_istore (pc := 51) dL_arePitches_51 (Nat.le_of_ble_eq_true rfl) rfl ?_
    obtain ⟨Y, hY⟩ : ∃ Y : Int32, Y = (if vP v k < nI p then nI p - vP v k else vP v k - nI p) := ⟨_, rfl⟩
    have HY : vP v k ≠ -6 → Y = nI (dst (ix (vP v k)) p) := fun c6 => hY.trans (fr_st hp c6 ((K.2.1.2.2.2.2.1 k hkn).resolve_left c6))
    have FX : fr_K v p (k + 1) ↔ fr_K v p k ∧ (vP v k = -6 ∨ (0 < Y ∧ vS v 4 < Y)) := fr_nx HY
    refine ar_iload (pc := 53) dL_arePitches_53 rfl ?_
    refine ar_iload_n (i := 3) (pc := 55) dL_arePitches_55 rfl rfl ?_
    refine ar_icmp_ge (pc := 56) (tgt := 66) dL_arePitches_56 (by decide) (fun c56 => ?_) (fun c56 => ?_)
    · refine ar_iload (pc := 66) dL_arePitches_66 rfl ?_
      refine ar_iload_n (i := 3) (pc := 68) dL_arePitches_68 rfl rfl ?_
      refine ar_isub (pc := 69) dL_arePitches_69 ?_
      refine ar_hs (y := Y) ((hY.trans (if_neg (Int32.not_lt.mpr c56))).symm) ?_
      refine ar_istore (pc := 70) dL_arePitches_70 (Nat.le_of_ble_eq_true rfl) rfl ?_
      refine ar_iload (pc := 72) dL_arePitches_72 rfl ?_
      refine ar_if_eq (pc := 74) (tgt := 103) dL_arePitches_74 (by decide) (fun c74 => ?_) (fun c74 => ?_)
      · have N : ¬ fr_K v p (k + 1) := fun q0 => (fun q => if_In c74 q.1) (FX.mp q0)
        refine ar_iconst (pc := 103) dL_arePitches_103 q_iconst_0 ?_
        refine ar_hs (if_0 N).symm ?_
        refine ar_istore (pc := 104) dL_arePitches_104 (Nat.le_of_ble_eq_true rfl) rfl ?_
        refine ar_iload (pc := 106) dL_arePitches_106 rfl ?_
        refine ar_iload_n (i := 3) (pc := 108) dL_arePitches_108 rfl rfl ?_
        have BE := bo_e (v := v) (n := n) (p := p) (k := k) K.2.1.1 K.2.1.2.2.2.1 hp hkn
        refine ar_icmp_ne (pc := 109) (tgt := 116) dL_arePitches_109 (by decide) (fun c109 => ?_) (fun c109 => ?_)
        · refine ar_iconst (pc := 116) dL_arePitches_116 q_iconst_0 ?_
          refine ar_iload (pc := 117) dL_arePitches_117 rfl ?_
          refine ar_iload (pc := 119) dL_arePitches_119 rfl ?_
          refine ar_icmp_ne (pc := 121) (tgt := 128) dL_arePitches_121 (by decide) (fun c121 => ?_) (fun c121 => absurd (BE.mpr c121) c109)
          refine ar_iconst (pc := 128) dL_arePitches_128 q_iconst_0 ?_
          refine ar_icmp_eq (pc := 129) (tgt := 134) dL_arePitches_129 (by decide) (fun c129 => ?_) (fun c129 => absurd rfl c129)
          refine ar_iinc (pc := 134) dL_arePitches_134 rfl (nI_1 k) (Nat.le_of_ble_eq_true rfl) rfl ?_
          refine ar_goto (tgt := 26) (pc := 137) dL_arePitches_137 (by decide) ?_
          refine ar_fg ?_ (ih (k + 1) (by omega) (by omega) z hz)
          exact ⟨rfl, rfl, rfl, rfl, rfl, rfl, rfl, trivial⟩
        · refine ar_iconst (pc := 112) dL_arePitches_112 q_iconst_1 ?_
          refine ar_goto (tgt := 117) (pc := 113) dL_arePitches_113 (by decide) ?_
          refine ar_iload (pc := 117) dL_arePitches_117 rfl ?_
          refine ar_iload (pc := 119) dL_arePitches_119 rfl ?_
          refine ar_icmp_ne (pc := 121) (tgt := 128) dL_arePitches_121 (by decide) (fun c121 => absurd (BE.mp c109).symm (fun q => c121 q.symm)) (fun c121 => ?_)
          refine ar_iconst (pc := 124) dL_arePitches_124 q_iconst_1 ?_
          refine ar_goto (tgt := 129) (pc := 125) dL_arePitches_125 (by decide) ?_
          refine ar_icmp_eq (pc := 129) (tgt := 134) dL_arePitches_129 (by decide) (fun c129 => ?_) (fun c129 => absurd rfl c129)
          refine ar_iinc (pc := 134) dL_arePitches_134 rfl (nI_1 k) (Nat.le_of_ble_eq_true rfl) rfl ?_
          refine ar_goto (tgt := 26) (pc := 137) dL_arePitches_137 (by decide) ?_
          refine ar_fg ?_ (ih (k + 1) (by omega) (by omega) z hz)
          exact ⟨rfl, rfl, rfl, rfl, rfl, rfl, rfl, trivial⟩
      · refine ar_iload (pc := 77) dL_arePitches_77 rfl ?_
        refine ar_bipush (pc := 79) dL_arePitches_79 q_bipush_m6 ?_
        refine ar_icmp_eq (pc := 81) (tgt := 99) dL_arePitches_81 (by decide) (fun c81 => ?_) (fun c81 => ?_)
        · have N : fr_K v p (k + 1) := FX.mpr ⟨if_Iy c74, Or.inl c81⟩
          refine ar_iconst (pc := 99) dL_arePitches_99 q_iconst_1 ?_
          refine ar_hs (if_1 N).symm ?_
          refine ar_goto (tgt := 104) (pc := 100) dL_arePitches_100 (by decide) ?_
          refine ar_istore (pc := 104) dL_arePitches_104 (Nat.le_of_ble_eq_true rfl) rfl ?_
          refine ar_iload (pc := 106) dL_arePitches_106 rfl ?_
          refine ar_iload_n (i := 3) (pc := 108) dL_arePitches_108 rfl rfl ?_
          have BE := bo_e (v := v) (n := n) (p := p) (k := k) K.2.1.1 K.2.1.2.2.2.1 hp hkn
          refine ar_icmp_ne (pc := 109) (tgt := 116) dL_arePitches_109 (by decide) (fun c109 => ?_) (fun c109 => ?_)
          · refine ar_iconst (pc := 116) dL_arePitches_116 q_iconst_0 ?_
            refine ar_iload (pc := 117) dL_arePitches_117 rfl ?_
            refine ar_iload (pc := 119) dL_arePitches_119 rfl ?_
            refine ar_icmp_ne (pc := 121) (tgt := 128) dL_arePitches_121 (by decide) (fun c121 => ?_) (fun c121 => absurd (BE.mpr c121) c109)
            refine ar_iconst (pc := 128) dL_arePitches_128 q_iconst_0 ?_
            refine ar_icmp_eq (pc := 129) (tgt := 134) dL_arePitches_129 (by decide) (fun c129 => ?_) (fun c129 => absurd rfl c129)
            refine ar_iinc (pc := 134) dL_arePitches_134 rfl (nI_1 k) (Nat.le_of_ble_eq_true rfl) rfl ?_
            refine ar_goto (tgt := 26) (pc := 137) dL_arePitches_137 (by decide) ?_
            refine ar_fg ?_ (ih (k + 1) (by omega) (by omega) z hz)
            exact ⟨rfl, rfl, rfl, rfl, rfl, rfl, rfl, trivial⟩
          · refine ar_iconst (pc := 112) dL_arePitches_112 q_iconst_1 ?_
            refine ar_goto (tgt := 117) (pc := 113) dL_arePitches_113 (by decide) ?_
            refine ar_iload (pc := 117) dL_arePitches_117 rfl ?_
            refine ar_iload (pc := 119) dL_arePitches_119 rfl ?_
            refine ar_icmp_ne (pc := 121) (tgt := 128) dL_arePitches_121 (by decide) (fun c121 => absurd (BE.mp c109).symm (fun q => c121 q.symm)) (fun c121 => ?_)
            refine ar_iconst (pc := 124) dL_arePitches_124 q_iconst_1 ?_
            refine ar_goto (tgt := 129) (pc := 125) dL_arePitches_125 (by decide) ?_
            refine ar_icmp_eq (pc := 129) (tgt := 134) dL_arePitches_129 (by decide) (fun c129 => ?_) (fun c129 => absurd rfl c129)
            refine ar_iinc (pc := 134) dL_arePitches_134 rfl (nI_1 k) (Nat.le_of_ble_eq_true rfl) rfl ?_
            refine ar_goto (tgt := 26) (pc := 137) dL_arePitches_137 (by decide) ?_
            refine ar_fg ?_ (ih (k + 1) (by omega) (by omega) z hz)
            exact ⟨rfl, rfl, rfl, rfl, rfl, rfl, rfl, trivial⟩
        · refine ar_iload (pc := 84) dL_arePitches_84 rfl ?_
          refine ar_if_le (pc := 86) (tgt := 103) dL_arePitches_86 (by decide) (fun c86 => ?_) (fun c86 => ?_)
          · have N : ¬ fr_K v p (k + 1) := fun q0 => (fun q => (q.2.elim (fun z => c81 z) (fun z => absurd z.1 (Int32.not_lt.mpr c86)))) (FX.mp q0)
            refine ar_iconst (pc := 103) dL_arePitches_103 q_iconst_0 ?_
            refine ar_hs (if_0 N).symm ?_
            refine ar_istore (pc := 104) dL_arePitches_104 (Nat.le_of_ble_eq_true rfl) rfl ?_
            refine ar_iload (pc := 106) dL_arePitches_106 rfl ?_
            refine ar_iload_n (i := 3) (pc := 108) dL_arePitches_108 rfl rfl ?_
            have BE := bo_e (v := v) (n := n) (p := p) (k := k) K.2.1.1 K.2.1.2.2.2.1 hp hkn
            refine ar_icmp_ne (pc := 109) (tgt := 116) dL_arePitches_109 (by decide) (fun c109 => ?_) (fun c109 => ?_)
            · refine ar_iconst (pc := 116) dL_arePitches_116 q_iconst_0 ?_
              refine ar_iload (pc := 117) dL_arePitches_117 rfl ?_
              refine ar_iload (pc := 119) dL_arePitches_119 rfl ?_
              refine ar_icmp_ne (pc := 121) (tgt := 128) dL_arePitches_121 (by decide) (fun c121 => ?_) (fun c121 => absurd (BE.mpr c121) c109)
              refine ar_iconst (pc := 128) dL_arePitches_128 q_iconst_0 ?_
              refine ar_icmp_eq (pc := 129) (tgt := 134) dL_arePitches_129 (by decide) (fun c129 => ?_) (fun c129 => absurd rfl c129)
              refine ar_iinc (pc := 134) dL_arePitches_134 rfl (nI_1 k) (Nat.le_of_ble_eq_true rfl) rfl ?_
              refine ar_goto (tgt := 26) (pc := 137) dL_arePitches_137 (by decide) ?_
              refine ar_fg ?_ (ih (k + 1) (by omega) (by omega) z hz)
              exact ⟨rfl, rfl, rfl, rfl, rfl, rfl, rfl, trivial⟩
            · refine ar_iconst (pc := 112) dL_arePitches_112 q_iconst_1 ?_
              refine ar_goto (tgt := 117) (pc := 113) dL_arePitches_113 (by decide) ?_
              refine ar_iload (pc := 117) dL_arePitches_117 rfl ?_
              refine ar_iload (pc := 119) dL_arePitches_119 rfl ?_
              refine ar_icmp_ne (pc := 121) (tgt := 128) dL_arePitches_121 (by decide) (fun c121 => absurd (BE.mp c109).symm (fun q => c121 q.symm)) (fun c121 => ?_)
              refine ar_iconst (pc := 124) dL_arePitches_124 q_iconst_1 ?_
              refine ar_goto (tgt := 129) (pc := 125) dL_arePitches_125 (by decide) ?_
              refine ar_icmp_eq (pc := 129) (tgt := 134) dL_arePitches_129 (by decide) (fun c129 => ?_) (fun c129 => absurd rfl c129)
              refine ar_iinc (pc := 134) dL_arePitches_134 rfl (nI_1 k) (Nat.le_of_ble_eq_true rfl) rfl ?_
              refine ar_goto (tgt := 26) (pc := 137) dL_arePitches_137 (by decide) ?_
              refine ar_fg ?_ (ih (k + 1) (by omega) (by omega) z hz)
              exact ⟨rfl, rfl, rfl, rfl, rfl, rfl, rfl, trivial⟩
          · refine ar_iload (pc := 89) dL_arePitches_89 rfl ?_
            refine ar_aload_n (i := 0) (pc := 91) dL_arePitches_91 rfl rfl ?_
            refine ar_iconst (pc := 92) dL_arePitches_92 q_iconst_4 ?_
            refine ar_cl (pc := 93) dL_arePitches_93 cal_X6_count kL_14 rfl rfl (an_count4) hz hR rfl rfl rfl rfl rfl rfl (Nat.le_of_ble_eq_true rfl) (Nat.le_of_ble_eq_true rfl) (fun z hz => ?_)
            refine ar_icmp_le (pc := 96) (tgt := 103) dL_arePitches_96 (by decide) (fun c96 => ?_) (fun c96 => ?_)
            · have N : ¬ fr_K v p (k + 1) := fun q0 => (fun q => (q.2.elim (fun z => c81 z) (fun z => absurd z.2 (Int32.not_lt.mpr c96)))) (FX.mp q0)
              refine ar_iconst (pc := 103) dL_arePitches_103 q_iconst_0 ?_
              refine ar_hs (if_0 N).symm ?_
              refine ar_istore (pc := 104) dL_arePitches_104 (Nat.le_of_ble_eq_true rfl) rfl ?_
              refine ar_iload (pc := 106) dL_arePitches_106 rfl ?_
              refine ar_iload_n (i := 3) (pc := 108) dL_arePitches_108 rfl rfl ?_
              have BE := bo_e (v := v) (n := n) (p := p) (k := k) K.2.1.1 K.2.1.2.2.2.1 hp hkn
              refine ar_icmp_ne (pc := 109) (tgt := 116) dL_arePitches_109 (by decide) (fun c109 => ?_) (fun c109 => ?_)
              · refine ar_iconst (pc := 116) dL_arePitches_116 q_iconst_0 ?_
                refine ar_iload (pc := 117) dL_arePitches_117 rfl ?_
                refine ar_iload (pc := 119) dL_arePitches_119 rfl ?_
                refine ar_icmp_ne (pc := 121) (tgt := 128) dL_arePitches_121 (by decide) (fun c121 => ?_) (fun c121 => absurd (BE.mpr c121) c109)
                refine ar_iconst (pc := 128) dL_arePitches_128 q_iconst_0 ?_
                refine ar_icmp_eq (pc := 129) (tgt := 134) dL_arePitches_129 (by decide) (fun c129 => ?_) (fun c129 => absurd rfl c129)
                refine ar_iinc (pc := 134) dL_arePitches_134 rfl (nI_1 k) (Nat.le_of_ble_eq_true rfl) rfl ?_
                refine ar_goto (tgt := 26) (pc := 137) dL_arePitches_137 (by decide) ?_
                refine ar_fg ?_ (ih (k + 1) (by omega) (by omega) z hz)
                exact ⟨rfl, rfl, rfl, rfl, rfl, rfl, rfl, trivial⟩
              · refine ar_iconst (pc := 112) dL_arePitches_112 q_iconst_1 ?_
                refine ar_goto (tgt := 117) (pc := 113) dL_arePitches_113 (by decide) ?_
                refine ar_iload (pc := 117) dL_arePitches_117 rfl ?_
                refine ar_iload (pc := 119) dL_arePitches_119 rfl ?_
                refine ar_icmp_ne (pc := 121) (tgt := 128) dL_arePitches_121 (by decide) (fun c121 => absurd (BE.mp c109).symm (fun q => c121 q.symm)) (fun c121 => ?_)
                refine ar_iconst (pc := 124) dL_arePitches_124 q_iconst_1 ?_
                refine ar_goto (tgt := 129) (pc := 125) dL_arePitches_125 (by decide) ?_
                refine ar_icmp_eq (pc := 129) (tgt := 134) dL_arePitches_129 (by decide) (fun c129 => ?_) (fun c129 => absurd rfl c129)
                refine ar_iinc (pc := 134) dL_arePitches_134 rfl (nI_1 k) (Nat.le_of_ble_eq_true rfl) rfl ?_
                refine ar_goto (tgt := 26) (pc := 137) dL_arePitches_137 (by decide) ?_
                refine ar_fg ?_ (ih (k + 1) (by omega) (by omega) z hz)
                exact ⟨rfl, rfl, rfl, rfl, rfl, rfl, rfl, trivial⟩
            · have N : fr_K v p (k + 1) := FX.mpr ⟨if_Iy c74, Or.inr ⟨Int32.not_le.mp c86, Int32.not_le.mp c96⟩⟩
              refine ar_iconst (pc := 99) dL_arePitches_99 q_iconst_1 ?_
              refine ar_hs (if_1 N).symm ?_
              refine ar_goto (tgt := 104) (pc := 100) dL_arePitches_100 (by decide) ?_
              refine ar_istore (pc := 104) dL_arePitches_104 (Nat.le_of_ble_eq_true rfl) rfl ?_
              refine ar_iload (pc := 106) dL_arePitches_106 rfl ?_
              refine ar_iload_n (i := 3) (pc := 108) dL_arePitches_108 rfl rfl ?_
              have BE := bo_e (v := v) (n := n) (p := p) (k := k) K.2.1.1 K.2.1.2.2.2.1 hp hkn
              refine ar_icmp_ne (pc := 109) (tgt := 116) dL_arePitches_109 (by decide) (fun c109 => ?_) (fun c109 => ?_)
              · refine ar_iconst (pc := 116) dL_arePitches_116 q_iconst_0 ?_
                refine ar_iload (pc := 117) dL_arePitches_117 rfl ?_
                refine ar_iload (pc := 119) dL_arePitches_119 rfl ?_
                refine ar_icmp_ne (pc := 121) (tgt := 128) dL_arePitches_121 (by decide) (fun c121 => ?_) (fun c121 => absurd (BE.mpr c121) c109)
                refine ar_iconst (pc := 128) dL_arePitches_128 q_iconst_0 ?_
                refine ar_icmp_eq (pc := 129) (tgt := 134) dL_arePitches_129 (by decide) (fun c129 => ?_) (fun c129 => absurd rfl c129)
                refine ar_iinc (pc := 134) dL_arePitches_134 rfl (nI_1 k) (Nat.le_of_ble_eq_true rfl) rfl ?_
                refine ar_goto (tgt := 26) (pc := 137) dL_arePitches_137 (by decide) ?_
                refine ar_fg ?_ (ih (k + 1) (by omega) (by omega) z hz)
                exact ⟨rfl, rfl, rfl, rfl, rfl, rfl, rfl, trivial⟩
              · refine ar_iconst (pc := 112) dL_arePitches_112 q_iconst_1 ?_
                refine ar_goto (tgt := 117) (pc := 113) dL_arePitches_113 (by decide) ?_
                refine ar_iload (pc := 117) dL_arePitches_117 rfl ?_
                refine ar_iload (pc := 119) dL_arePitches_119 rfl ?_
                refine ar_icmp_ne (pc := 121) (tgt := 128) dL_arePitches_121 (by decide) (fun c121 => absurd (BE.mp c109).symm (fun q => c121 q.symm)) (fun c121 => ?_)
                refine ar_iconst (pc := 124) dL_arePitches_124 q_iconst_1 ?_
                refine ar_goto (tgt := 129) (pc := 125) dL_arePitches_125 (by decide) ?_
                refine ar_icmp_eq (pc := 129) (tgt := 134) dL_arePitches_129 (by decide) (fun c129 => ?_) (fun c129 => absurd rfl c129)
                refine ar_iinc (pc := 134) dL_arePitches_134 rfl (nI_1 k) (Nat.le_of_ble_eq_true rfl) rfl ?_
                refine ar_goto (tgt := 26) (pc := 137) dL_arePitches_137 (by decide) ?_
                refine ar_fg ?_ (ih (k + 1) (by omega) (by omega) z hz)
                exact ⟨rfl, rfl, rfl, rfl, rfl, rfl, rfl, trivial⟩
    · refine ar_iload_n (i := 3) (pc := 59) dL_arePitches_59 rfl rfl ?_
      refine ar_iload (pc := 60) dL_arePitches_60 rfl ?_
      refine ar_isub (pc := 62) dL_arePitches_62 ?_
      refine ar_goto (tgt := 70) (pc := 63) dL_arePitches_63 (by decide) ?_
      refine ar_hs (y := Y) ((hY.trans (if_pos (Int32.not_le.mp c56))).symm) ?_
      refine ar_istore (pc := 70) dL_arePitches_70 (Nat.le_of_ble_eq_true rfl) rfl ?_
      refine ar_iload (pc := 72) dL_arePitches_72 rfl ?_
      refine ar_if_eq (pc := 74) (tgt := 103) dL_arePitches_74 (by decide) (fun c74 => ?_) (fun c74 => ?_)
      · have N : ¬ fr_K v p (k + 1) := fun q0 => (fun q => if_In c74 q.1) (FX.mp q0)
        refine ar_iconst (pc := 103) dL_arePitches_103 q_iconst_0 ?_
        refine ar_hs (if_0 N).symm ?_
        refine ar_istore (pc := 104) dL_arePitches_104 (Nat.le_of_ble_eq_true rfl) rfl ?_
        refine ar_iload (pc := 106) dL_arePitches_106 rfl ?_
        refine ar_iload_n (i := 3) (pc := 108) dL_arePitches_108 rfl rfl ?_
        have BE := bo_e (v := v) (n := n) (p := p) (k := k) K.2.1.1 K.2.1.2.2.2.1 hp hkn
        refine ar_icmp_ne (pc := 109) (tgt := 116) dL_arePitches_109 (by decide) (fun c109 => ?_) (fun c109 => ?_)
        · refine ar_iconst (pc := 116) dL_arePitches_116 q_iconst_0 ?_
          refine ar_iload (pc := 117) dL_arePitches_117 rfl ?_
          refine ar_iload (pc := 119) dL_arePitches_119 rfl ?_
          refine ar_icmp_ne (pc := 121) (tgt := 128) dL_arePitches_121 (by decide) (fun c121 => ?_) (fun c121 => absurd (BE.mpr c121) c109)
          refine ar_iconst (pc := 128) dL_arePitches_128 q_iconst_0 ?_
          refine ar_icmp_eq (pc := 129) (tgt := 134) dL_arePitches_129 (by decide) (fun c129 => ?_) (fun c129 => absurd rfl c129)
          refine ar_iinc (pc := 134) dL_arePitches_134 rfl (nI_1 k) (Nat.le_of_ble_eq_true rfl) rfl ?_
          refine ar_goto (tgt := 26) (pc := 137) dL_arePitches_137 (by decide) ?_
          refine ar_fg ?_ (ih (k + 1) (by omega) (by omega) z hz)
          exact ⟨rfl, rfl, rfl, rfl, rfl, rfl, rfl, trivial⟩
        · refine ar_iconst (pc := 112) dL_arePitches_112 q_iconst_1 ?_
          refine ar_goto (tgt := 117) (pc := 113) dL_arePitches_113 (by decide) ?_
          refine ar_iload (pc := 117) dL_arePitches_117 rfl ?_
          refine ar_iload (pc := 119) dL_arePitches_119 rfl ?_
          refine ar_icmp_ne (pc := 121) (tgt := 128) dL_arePitches_121 (by decide) (fun c121 => absurd (BE.mp c109).symm (fun q => c121 q.symm)) (fun c121 => ?_)
          refine ar_iconst (pc := 124) dL_arePitches_124 q_iconst_1 ?_
          refine ar_goto (tgt := 129) (pc := 125) dL_arePitches_125 (by decide) ?_
          refine ar_icmp_eq (pc := 129) (tgt := 134) dL_arePitches_129 (by decide) (fun c129 => ?_) (fun c129 => absurd rfl c129)
          refine ar_iinc (pc := 134) dL_arePitches_134 rfl (nI_1 k) (Nat.le_of_ble_eq_true rfl) rfl ?_
          refine ar_goto (tgt := 26) (pc := 137) dL_arePitches_137 (by decide) ?_
          refine ar_fg ?_ (ih (k + 1) (by omega) (by omega) z hz)
          exact ⟨rfl, rfl, rfl, rfl, rfl, rfl, rfl, trivial⟩
      · refine ar_iload (pc := 77) dL_arePitches_77 rfl ?_
        refine ar_bipush (pc := 79) dL_arePitches_79 q_bipush_m6 ?_
        refine ar_icmp_eq (pc := 81) (tgt := 99) dL_arePitches_81 (by decide) (fun c81 => ?_) (fun c81 => ?_)
        · have N : fr_K v p (k + 1) := FX.mpr ⟨if_Iy c74, Or.inl c81⟩
          refine ar_iconst (pc := 99) dL_arePitches_99 q_iconst_1 ?_
          refine ar_hs (if_1 N).symm ?_
          refine ar_goto (tgt := 104) (pc := 100) dL_arePitches_100 (by decide) ?_
          refine ar_istore (pc := 104) dL_arePitches_104 (Nat.le_of_ble_eq_true rfl) rfl ?_
          refine ar_iload (pc := 106) dL_arePitches_106 rfl ?_
          refine ar_iload_n (i := 3) (pc := 108) dL_arePitches_108 rfl rfl ?_
          have BE := bo_e (v := v) (n := n) (p := p) (k := k) K.2.1.1 K.2.1.2.2.2.1 hp hkn
          refine ar_icmp_ne (pc := 109) (tgt := 116) dL_arePitches_109 (by decide) (fun c109 => ?_) (fun c109 => ?_)
          · refine ar_iconst (pc := 116) dL_arePitches_116 q_iconst_0 ?_
            refine ar_iload (pc := 117) dL_arePitches_117 rfl ?_
            refine ar_iload (pc := 119) dL_arePitches_119 rfl ?_
            refine ar_icmp_ne (pc := 121) (tgt := 128) dL_arePitches_121 (by decide) (fun c121 => ?_) (fun c121 => absurd (BE.mpr c121) c109)
            refine ar_iconst (pc := 128) dL_arePitches_128 q_iconst_0 ?_
            refine ar_icmp_eq (pc := 129) (tgt := 134) dL_arePitches_129 (by decide) (fun c129 => ?_) (fun c129 => absurd rfl c129)
            refine ar_iinc (pc := 134) dL_arePitches_134 rfl (nI_1 k) (Nat.le_of_ble_eq_true rfl) rfl ?_
            refine ar_goto (tgt := 26) (pc := 137) dL_arePitches_137 (by decide) ?_
            refine ar_fg ?_ (ih (k + 1) (by omega) (by omega) z hz)
            exact ⟨rfl, rfl, rfl, rfl, rfl, rfl, rfl, trivial⟩
          · refine ar_iconst (pc := 112) dL_arePitches_112 q_iconst_1 ?_
            refine ar_goto (tgt := 117) (pc := 113) dL_arePitches_113 (by decide) ?_
            refine ar_iload (pc := 117) dL_arePitches_117 rfl ?_
            refine ar_iload (pc := 119) dL_arePitches_119 rfl ?_
            refine ar_icmp_ne (pc := 121) (tgt := 128) dL_arePitches_121 (by decide) (fun c121 => absurd (BE.mp c109).symm (fun q => c121 q.symm)) (fun c121 => ?_)
            refine ar_iconst (pc := 124) dL_arePitches_124 q_iconst_1 ?_
            refine ar_goto (tgt := 129) (pc := 125) dL_arePitches_125 (by decide) ?_
            refine ar_icmp_eq (pc := 129) (tgt := 134) dL_arePitches_129 (by decide) (fun c129 => ?_) (fun c129 => absurd rfl c129)
            refine ar_iinc (pc := 134) dL_arePitches_134 rfl (nI_1 k) (Nat.le_of_ble_eq_true rfl) rfl ?_
            refine ar_goto (tgt := 26) (pc := 137) dL_arePitches_137 (by decide) ?_
            refine ar_fg ?_ (ih (k + 1) (by omega) (by omega) z hz)
            exact ⟨rfl, rfl, rfl, rfl, rfl, rfl, rfl, trivial⟩
        · refine ar_iload (pc := 84) dL_arePitches_84 rfl ?_
          refine ar_if_le (pc := 86) (tgt := 103) dL_arePitches_86 (by decide) (fun c86 => ?_) (fun c86 => ?_)
          · have N : ¬ fr_K v p (k + 1) := fun q0 => (fun q => (q.2.elim (fun z => c81 z) (fun z => absurd z.1 (Int32.not_lt.mpr c86)))) (FX.mp q0)
            refine ar_iconst (pc := 103) dL_arePitches_103 q_iconst_0 ?_
            refine ar_hs (if_0 N).symm ?_
            refine ar_istore (pc := 104) dL_arePitches_104 (Nat.le_of_ble_eq_true rfl) rfl ?_
            refine ar_iload (pc := 106) dL_arePitches_106 rfl ?_
            refine ar_iload_n (i := 3) (pc := 108) dL_arePitches_108 rfl rfl ?_
            have BE := bo_e (v := v) (n := n) (p := p) (k := k) K.2.1.1 K.2.1.2.2.2.1 hp hkn
            refine ar_icmp_ne (pc := 109) (tgt := 116) dL_arePitches_109 (by decide) (fun c109 => ?_) (fun c109 => ?_)
            · refine ar_iconst (pc := 116) dL_arePitches_116 q_iconst_0 ?_
              refine ar_iload (pc := 117) dL_arePitches_117 rfl ?_
              refine ar_iload (pc := 119) dL_arePitches_119 rfl ?_
              refine ar_icmp_ne (pc := 121) (tgt := 128) dL_arePitches_121 (by decide) (fun c121 => ?_) (fun c121 => absurd (BE.mpr c121) c109)
              refine ar_iconst (pc := 128) dL_arePitches_128 q_iconst_0 ?_
              refine ar_icmp_eq (pc := 129) (tgt := 134) dL_arePitches_129 (by decide) (fun c129 => ?_) (fun c129 => absurd rfl c129)
              refine ar_iinc (pc := 134) dL_arePitches_134 rfl (nI_1 k) (Nat.le_of_ble_eq_true rfl) rfl ?_
              refine ar_goto (tgt := 26) (pc := 137) dL_arePitches_137 (by decide) ?_
              refine ar_fg ?_ (ih (k + 1) (by omega) (by omega) z hz)
              exact ⟨rfl, rfl, rfl, rfl, rfl, rfl, rfl, trivial⟩
            · refine ar_iconst (pc := 112) dL_arePitches_112 q_iconst_1 ?_
              refine ar_goto (tgt := 117) (pc := 113) dL_arePitches_113 (by decide) ?_
              refine ar_iload (pc := 117) dL_arePitches_117 rfl ?_
              refine ar_iload (pc := 119) dL_arePitches_119 rfl ?_
              refine ar_icmp_ne (pc := 121) (tgt := 128) dL_arePitches_121 (by decide) (fun c121 => absurd (BE.mp c109).symm (fun q => c121 q.symm)) (fun c121 => ?_)
              refine ar_iconst (pc := 124) dL_arePitches_124 q_iconst_1 ?_
              refine ar_goto (tgt := 129) (pc := 125) dL_arePitches_125 (by decide) ?_
              refine ar_icmp_eq (pc := 129) (tgt := 134) dL_arePitches_129 (by decide) (fun c129 => ?_) (fun c129 => absurd rfl c129)
              refine ar_iinc (pc := 134) dL_arePitches_134 rfl (nI_1 k) (Nat.le_of_ble_eq_true rfl) rfl ?_
              refine ar_goto (tgt := 26) (pc := 137) dL_arePitches_137 (by decide) ?_
              refine ar_fg ?_ (ih (k + 1) (by omega) (by omega) z hz)
              exact ⟨rfl, rfl, rfl, rfl, rfl, rfl, rfl, trivial⟩
          · refine ar_iload (pc := 89) dL_arePitches_89 rfl ?_
            refine ar_aload_n (i := 0) (pc := 91) dL_arePitches_91 rfl rfl ?_
            refine ar_iconst (pc := 92) dL_arePitches_92 q_iconst_4 ?_
            refine ar_cl (pc := 93) dL_arePitches_93 cal_X6_count kL_14 rfl rfl (an_count4) hz hR rfl rfl rfl rfl rfl rfl (Nat.le_of_ble_eq_true rfl) (Nat.le_of_ble_eq_true rfl) (fun z hz => ?_)
            refine ar_icmp_le (pc := 96) (tgt := 103) dL_arePitches_96 (by decide) (fun c96 => ?_) (fun c96 => ?_)
            · have N : ¬ fr_K v p (k + 1) := fun q0 => (fun q => (q.2.elim (fun z => c81 z) (fun z => absurd z.2 (Int32.not_lt.mpr c96)))) (FX.mp q0)
              refine ar_iconst (pc := 103) dL_arePitches_103 q_iconst_0 ?_
              refine ar_hs (if_0 N).symm ?_
              refine ar_istore (pc := 104) dL_arePitches_104 (Nat.le_of_ble_eq_true rfl) rfl ?_
              refine ar_iload (pc := 106) dL_arePitches_106 rfl ?_
              refine ar_iload_n (i := 3) (pc := 108) dL_arePitches_108 rfl rfl ?_
              have BE := bo_e (v := v) (n := n) (p := p) (k := k) K.2.1.1 K.2.1.2.2.2.1 hp hkn
              refine ar_icmp_ne (pc := 109) (tgt := 116) dL_arePitches_109 (by decide) (fun c109 => ?_) (fun c109 => ?_)
              · refine ar_iconst (pc := 116) dL_arePitches_116 q_iconst_0 ?_
                refine ar_iload (pc := 117) dL_arePitches_117 rfl ?_
                refine ar_iload (pc := 119) dL_arePitches_119 rfl ?_
                refine ar_icmp_ne (pc := 121) (tgt := 128) dL_arePitches_121 (by decide) (fun c121 => ?_) (fun c121 => absurd (BE.mpr c121) c109)
                refine ar_iconst (pc := 128) dL_arePitches_128 q_iconst_0 ?_
                refine ar_icmp_eq (pc := 129) (tgt := 134) dL_arePitches_129 (by decide) (fun c129 => ?_) (fun c129 => absurd rfl c129)
                refine ar_iinc (pc := 134) dL_arePitches_134 rfl (nI_1 k) (Nat.le_of_ble_eq_true rfl) rfl ?_
                refine ar_goto (tgt := 26) (pc := 137) dL_arePitches_137 (by decide) ?_
                refine ar_fg ?_ (ih (k + 1) (by omega) (by omega) z hz)
                exact ⟨rfl, rfl, rfl, rfl, rfl, rfl, rfl, trivial⟩
              · refine ar_iconst (pc := 112) dL_arePitches_112 q_iconst_1 ?_
                refine ar_goto (tgt := 117) (pc := 113) dL_arePitches_113 (by decide) ?_
                refine ar_iload (pc := 117) dL_arePitches_117 rfl ?_
                refine ar_iload (pc := 119) dL_arePitches_119 rfl ?_
                refine ar_icmp_ne (pc := 121) (tgt := 128) dL_arePitches_121 (by decide) (fun c121 => absurd (BE.mp c109).symm (fun q => c121 q.symm)) (fun c121 => ?_)
                refine ar_iconst (pc := 124) dL_arePitches_124 q_iconst_1 ?_
                refine ar_goto (tgt := 129) (pc := 125) dL_arePitches_125 (by decide) ?_
                refine ar_icmp_eq (pc := 129) (tgt := 134) dL_arePitches_129 (by decide) (fun c129 => ?_) (fun c129 => absurd rfl c129)
                refine ar_iinc (pc := 134) dL_arePitches_134 rfl (nI_1 k) (Nat.le_of_ble_eq_true rfl) rfl ?_
                refine ar_goto (tgt := 26) (pc := 137) dL_arePitches_137 (by decide) ?_
                refine ar_fg ?_ (ih (k + 1) (by omega) (by omega) z hz)
                exact ⟨rfl, rfl, rfl, rfl, rfl, rfl, rfl, trivial⟩
            · have N : fr_K v p (k + 1) := FX.mpr ⟨if_Iy c74, Or.inr ⟨Int32.not_le.mp c86, Int32.not_le.mp c96⟩⟩
              refine ar_iconst (pc := 99) dL_arePitches_99 q_iconst_1 ?_
              refine ar_hs (if_1 N).symm ?_
              refine ar_goto (tgt := 104) (pc := 100) dL_arePitches_100 (by decide) ?_
              refine ar_istore (pc := 104) dL_arePitches_104 (Nat.le_of_ble_eq_true rfl) rfl ?_
              refine ar_iload (pc := 106) dL_arePitches_106 rfl ?_
              refine ar_iload_n (i := 3) (pc := 108) dL_arePitches_108 rfl rfl ?_
              have BE := bo_e (v := v) (n := n) (p := p) (k := k) K.2.1.1 K.2.1.2.2.2.1 hp hkn
              refine ar_icmp_ne (pc := 109) (tgt := 116) dL_arePitches_109 (by decide) (fun c109 => ?_) (fun c109 => ?_)
              · refine ar_iconst (pc := 116) dL_arePitches_116 q_iconst_0 ?_
                refine ar_iload (pc := 117) dL_arePitches_117 rfl ?_
                refine ar_iload (pc := 119) dL_arePitches_119 rfl ?_
                refine ar_icmp_ne (pc := 121) (tgt := 128) dL_arePitches_121 (by decide) (fun c121 => ?_) (fun c121 => absurd (BE.mpr c121) c109)
                refine ar_iconst (pc := 128) dL_arePitches_128 q_iconst_0 ?_
                refine ar_icmp_eq (pc := 129) (tgt := 134) dL_arePitches_129 (by decide) (fun c129 => ?_) (fun c129 => absurd rfl c129)
                refine ar_iinc (pc := 134) dL_arePitches_134 rfl (nI_1 k) (Nat.le_of_ble_eq_true rfl) rfl ?_
                refine ar_goto (tgt := 26) (pc := 137) dL_arePitches_137 (by decide) ?_
                refine ar_fg ?_ (ih (k + 1) (by omega) (by omega) z hz)
                exact ⟨rfl, rfl, rfl, rfl, rfl, rfl, rfl, trivial⟩
              · refine ar_iconst (pc := 112) dL_arePitches_112 q_iconst_1 ?_
                refine ar_goto (tgt := 117) (pc := 113) dL_arePitches_113 (by decide) ?_
                refine ar_iload (pc := 117) dL_arePitches_117 rfl ?_
                refine ar_iload (pc := 119) dL_arePitches_119 rfl ?_
                refine ar_icmp_ne (pc := 121) (tgt := 128) dL_arePitches_121 (by decide) (fun c121 => absurd (BE.mp c109).symm (fun q => c121 q.symm)) (fun c121 => ?_)
                refine ar_iconst (pc := 124) dL_arePitches_124 q_iconst_1 ?_
                refine ar_goto (tgt := 129) (pc := 125) dL_arePitches_125 (by decide) ?_
                refine ar_icmp_eq (pc := 129) (tgt := 134) dL_arePitches_129 (by decide) (fun c129 => ?_) (fun c129 => absurd rfl c129)
                refine ar_iinc (pc := 134) dL_arePitches_134 rfl (nI_1 k) (Nat.le_of_ble_eq_true rfl) rfl ?_
                refine ar_goto (tgt := 26) (pc := 137) dL_arePitches_137 (by decide) ?_
                refine ar_fg ?_ (ih (k + 1) (by omega) (by omega) z hz)
                exact ⟨rfl, rfl, rfl, rfl, rfl, rfl, rfl, trivial⟩
set_option maxHeartbeats 4000000 in
set_option maxRecDepth 100000 in
theorem lL_pit_6 {gg ff : Nat → Int32} {κ n : Nat} {v : SV} (K : ok_D v n) {h0 : am_H} {z0 : PV} {R : am_H} (hR : lr_H R) {r : Nat} (hr : r < 4096) (hr2 : nI r = vRo v) : ∀ (d p : Nat), p + d = 12 → ∀ z : PV, lz_D κ v z0 z → am_RW mL_arePitches h0 (ln_P 1 ff gg κ v z0 R) 0 0 6 [some (.ref 2), some (.int (nI (cn_N v n p))), some (.int (nI (r % 2 ^ p))), some (.int (nI p)), none, none, none, none, none] [] (ppH false ff false gg z ++ R) := by
  have h8 := K.2.1.1
  intro d
  induction d with
  | zero =>
    intro p hpd z hz
    have e : p = 12 := by omega
    subst e
    have hrE : vRo v = nI (r % 2 ^ 12) := by rw [Nat.mod_eq_of_lt (show r < 2 ^ 12 by omega)]; exact hr2.symm
    refine ar_iload_n (i := 3) (pc := 6) dL_arePitches_6 rfl rfl ?_
    refine ar_bipush (pc := 7) dL_arePitches_7 q_bipush_12 ?_
    refine ar_icmp_ge (pc := 9) (tgt := 193) dL_arePitches_9 (by decide) (fun c9 => ?_) (fun c9 => absurd (Int32.le_refl _) c9)
    refine ar_aload_n (i := 0) (pc := 193) dL_arePitches_193 rfl rfl ?_
    refine ar_bipush (pc := 194) dL_arePitches_194 q_bipush_8 ?_
    refine ar_cl (pc := 196) dL_arePitches_196 cal_X6_count kL_14 rfl rfl (an_count8 K) hz hR rfl rfl rfl rfl rfl rfl (Nat.le_of_ble_eq_true rfl) (Nat.le_of_ble_eq_true rfl) (fun z hz => ?_)
    refine ar_iload_n (i := 1) (pc := 199) dL_arePitches_199 rfl rfl ?_
    refine ar_icmp_ne (pc := 200) (tgt := 238) dL_arePitches_200 (by decide) (fun c200 => absurd (congrArg nI (cn_cst h8 K.2.1.2.2.2.1 K.2.1.2.2.2.2.1)) c200) (fun c200 => ?_)
    refine ar_aload_n (i := 0) (pc := 203) dL_arePitches_203 rfl rfl ?_
    refine ar_bipush (pc := 204) dL_arePitches_204 q_bipush_9 ?_
    refine ar_cl (pc := 206) dL_arePitches_206 cal_X6_count kL_14 rfl rfl (an_count9 K) hz hR rfl rfl rfl rfl rfl rfl (Nat.le_of_ble_eq_true rfl) (Nat.le_of_ble_eq_true rfl) (fun z hz => ?_)
    refine ar_iload_n (i := 2) (pc := 209) dL_arePitches_209 rfl rfl ?_
    refine ar_icmp_ne (pc := 210) (tgt := 238) dL_arePitches_210 (by decide) (fun c210 => absurd hrE c210) (fun c210 => ?_)
    refine ar_aload_n (i := 0) (pc := 213) dL_arePitches_213 rfl rfl ?_
    refine ar_bipush (pc := 214) dL_arePitches_214 q_bipush_12 ?_
    refine ar_iconst (pc := 216) dL_arePitches_216 q_iconst_0 ?_
    refine ar_cl (pc := 217) dL_arePitches_217 cal_X6_pitch kL_8 rfl rfl (an_pitchn 12 0 (by decide)) hz hR rfl rfl rfl rfl rfl rfl (Nat.le_of_ble_eq_true rfl) (Nat.le_of_ble_eq_true rfl) (fun z hz => ?_)
    refine ar_iconst (pc := 220) dL_arePitches_220 q_iconst_m1 ?_
    refine ar_icmp_ne (pc := 221) (tgt := 238) dL_arePitches_221 (by decide) (fun c221 => absurd rfl c221) (fun c221 => ?_)
    refine ar_aload_n (i := 0) (pc := 224) dL_arePitches_224 rfl rfl ?_
    refine ar_iconst (pc := 225) dL_arePitches_225 q_iconst_m1 ?_
    refine ar_iconst (pc := 226) dL_arePitches_226 q_iconst_0 ?_
    refine ar_cl (pc := 227) dL_arePitches_227 cal_X6_pitch kL_8 rfl rfl (an_pitchn (-1) 0 (by decide)) hz hR rfl rfl rfl rfl rfl rfl (Nat.le_of_ble_eq_true rfl) (Nat.le_of_ble_eq_true rfl) (fun z hz => ?_)
    refine ar_iconst (pc := 230) dL_arePitches_230 q_iconst_m1 ?_
    refine ar_icmp_ne (pc := 231) (tgt := 238) dL_arePitches_231 (by decide) (fun c231 => absurd rfl c231) (fun c231 => ?_)
    refine ar_iconst (pc := 234) dL_arePitches_234 q_iconst_1 ?_
    refine ar_goto (tgt := 239) (pc := 235) dL_arePitches_235 (by decide) ?_
    exact ar_zret (pc := 239) dL_arePitches_239 rfl (Or.inr rfl) rfl rfl ⟨rfl, z, hz, rfl⟩
  | succ d ih =>
    intro p hpd z hz
    have hp : p < 12 := by omega
    have CC : ∀ z : PV, lz_D κ v z0 z → am_RW mL_arePitches h0 (ln_P 1 ff gg κ v z0 R) 0 0 140 [some (.ref 2), some (.int (nI (cn_N v n p))), some (.int (nI (r % 2 ^ p))), some (.int (nI p)), some (.int (o2i (bo_O v n p))), some (.int (if_I (fr_K v p n))), none, none, none] [] (ppH false ff false gg z ++ R) := by
      intro z hz
      refine ar_iload_n (i := 1) (pc := 140) dL_arePitches_140 rfl rfl ?_
      refine ar_iload (pc := 141) dL_arePitches_141 rfl ?_
      refine ar_bipush (pc := 143) dL_arePitches_143 q_bipush_m6 ?_
      refine ar_icmp_ne (pc := 145) (tgt := 152) dL_arePitches_145 (by decide) (fun c145 => ?_) (fun c145 => ?_)
      · refine ar_iconst (pc := 152) dL_arePitches_152 q_iconst_1 ?_
        refine ar_hs (y := if o2i (bo_O v n p) = -6 then 0 else 1) (if_neg c145).symm ?_
        refine ar_iadd (pc := 153) dL_arePitches_153 ?_
        refine ar_hs (cn_s v n p h8) ?_
        refine ar_istore_n (i := 1) (pc := 154) dL_arePitches_154 rfl (Nat.le_of_ble_eq_true rfl) rfl ?_
        refine ar_iload_n (i := 2) (pc := 155) dL_arePitches_155 rfl rfl ?_
        refine ar_aload_n (i := 0) (pc := 156) dL_arePitches_156 rfl rfl ?_
        refine ar_iload_n (i := 3) (pc := 157) dL_arePitches_157 rfl rfl ?_
        refine ar_iconst (pc := 158) dL_arePitches_158 q_iconst_0 ?_
        refine ar_cl (pc := 159) dL_arePitches_159 cal_X6_pitch kL_8 rfl rfl (an_pitch0 K hp) hz hR rfl rfl rfl rfl rfl rfl (Nat.le_of_ble_eq_true rfl) (Nat.le_of_ble_eq_true rfl) (fun z hz => ?_)
        refine ar_iload_n (i := 3) (pc := 162) dL_arePitches_162 rfl rfl ?_
        refine ar_ishl (pc := 163) dL_arePitches_163 ?_
        refine ar_ior (pc := 164) dL_arePitches_164 ?_
        refine ar_hs (show nI (r % 2 ^ p) ||| (if_I (rfP (vRo v) p) <<< (nI p &&& 31)) = nI (r % 2 ^ (p + 1)) from hr2 ▸ ro_st hr hp) ?_
        refine ar_istore_n (i := 2) (pc := 165) dL_arePitches_165 rfl (Nat.le_of_ble_eq_true rfl) rfl ?_
        refine ar_aload_n (i := 0) (pc := 166) dL_arePitches_166 rfl rfl ?_
        refine ar_iload_n (i := 3) (pc := 167) dL_arePitches_167 rfl rfl ?_
        refine ar_iconst (pc := 168) dL_arePitches_168 q_iconst_2 ?_
        refine ar_cl (pc := 169) dL_arePitches_169 cal_X6_pitch kL_8 rfl rfl (an_pitch2 K hp) hz hR rfl rfl rfl rfl rfl rfl (Nat.le_of_ble_eq_true rfl) (Nat.le_of_ble_eq_true rfl) (fun z hz => ?_)
        refine ar_hs (if_Ic (op_lk K hp).symm) ?_
        refine ar_iload (pc := 172) dL_arePitches_172 rfl ?_
        refine ar_if_eq (pc := 174) (tgt := 181) dL_arePitches_174 (by decide) (fun c174 => ?_) (fun c174 => ?_)
        · refine ar_iconst (pc := 181) dL_arePitches_181 q_iconst_0 ?_
          refine ar_icmp_eq (pc := 182) (tgt := 187) dL_arePitches_182 (by decide) (fun c182 => ?_) (fun c182 => absurd (if_0 (if_In c174)) c182)
          refine ar_iinc (pc := 187) dL_arePitches_187 rfl (nI_1 p) (Nat.le_of_ble_eq_true rfl) rfl ?_
          refine ar_goto (tgt := 6) (pc := 190) dL_arePitches_190 (by decide) ?_
          refine ar_fg ?_ (ih (p + 1) (by omega) z hz)
          exact ⟨rfl, rfl, rfl, rfl, trivial⟩
        · refine ar_iconst (pc := 177) dL_arePitches_177 q_iconst_1 ?_
          refine ar_goto (tgt := 182) (pc := 178) dL_arePitches_178 (by decide) ?_
          refine ar_icmp_eq (pc := 182) (tgt := 187) dL_arePitches_182 (by decide) (fun c182 => ?_) (fun c182 => absurd (if_1 (if_Iy c174)) c182)
          refine ar_iinc (pc := 187) dL_arePitches_187 rfl (nI_1 p) (Nat.le_of_ble_eq_true rfl) rfl ?_
          refine ar_goto (tgt := 6) (pc := 190) dL_arePitches_190 (by decide) ?_
          refine ar_fg ?_ (ih (p + 1) (by omega) z hz)
          exact ⟨rfl, rfl, rfl, rfl, trivial⟩
      · refine ar_iconst (pc := 148) dL_arePitches_148 q_iconst_0 ?_
        refine ar_hs (y := if o2i (bo_O v n p) = -6 then 0 else 1) (if_pos c145).symm ?_
        refine ar_goto (tgt := 153) (pc := 149) dL_arePitches_149 (by decide) ?_
        refine ar_iadd (pc := 153) dL_arePitches_153 ?_
        refine ar_hs (cn_s v n p h8) ?_
        refine ar_istore_n (i := 1) (pc := 154) dL_arePitches_154 rfl (Nat.le_of_ble_eq_true rfl) rfl ?_
        refine ar_iload_n (i := 2) (pc := 155) dL_arePitches_155 rfl rfl ?_
        refine ar_aload_n (i := 0) (pc := 156) dL_arePitches_156 rfl rfl ?_
        refine ar_iload_n (i := 3) (pc := 157) dL_arePitches_157 rfl rfl ?_
        refine ar_iconst (pc := 158) dL_arePitches_158 q_iconst_0 ?_
        refine ar_cl (pc := 159) dL_arePitches_159 cal_X6_pitch kL_8 rfl rfl (an_pitch0 K hp) hz hR rfl rfl rfl rfl rfl rfl (Nat.le_of_ble_eq_true rfl) (Nat.le_of_ble_eq_true rfl) (fun z hz => ?_)
        refine ar_iload_n (i := 3) (pc := 162) dL_arePitches_162 rfl rfl ?_
        refine ar_ishl (pc := 163) dL_arePitches_163 ?_
        refine ar_ior (pc := 164) dL_arePitches_164 ?_
        refine ar_hs (show nI (r % 2 ^ p) ||| (if_I (rfP (vRo v) p) <<< (nI p &&& 31)) = nI (r % 2 ^ (p + 1)) from hr2 ▸ ro_st hr hp) ?_
        refine ar_istore_n (i := 2) (pc := 165) dL_arePitches_165 rfl (Nat.le_of_ble_eq_true rfl) rfl ?_
        refine ar_aload_n (i := 0) (pc := 166) dL_arePitches_166 rfl rfl ?_
        refine ar_iload_n (i := 3) (pc := 167) dL_arePitches_167 rfl rfl ?_
        refine ar_iconst (pc := 168) dL_arePitches_168 q_iconst_2 ?_
        refine ar_cl (pc := 169) dL_arePitches_169 cal_X6_pitch kL_8 rfl rfl (an_pitch2 K hp) hz hR rfl rfl rfl rfl rfl rfl (Nat.le_of_ble_eq_true rfl) (Nat.le_of_ble_eq_true rfl) (fun z hz => ?_)
        refine ar_hs (if_Ic (op_lk K hp).symm) ?_
        refine ar_iload (pc := 172) dL_arePitches_172 rfl ?_
        refine ar_if_eq (pc := 174) (tgt := 181) dL_arePitches_174 (by decide) (fun c174 => ?_) (fun c174 => ?_)
        · refine ar_iconst (pc := 181) dL_arePitches_181 q_iconst_0 ?_
          refine ar_icmp_eq (pc := 182) (tgt := 187) dL_arePitches_182 (by decide) (fun c182 => ?_) (fun c182 => absurd (if_0 (if_In c174)) c182)
          refine ar_iinc (pc := 187) dL_arePitches_187 rfl (nI_1 p) (Nat.le_of_ble_eq_true rfl) rfl ?_
          refine ar_goto (tgt := 6) (pc := 190) dL_arePitches_190 (by decide) ?_
          refine ar_fg ?_ (ih (p + 1) (by omega) z hz)
          exact ⟨rfl, rfl, rfl, rfl, trivial⟩
        · refine ar_iconst (pc := 177) dL_arePitches_177 q_iconst_1 ?_
          refine ar_goto (tgt := 182) (pc := 178) dL_arePitches_178 (by decide) ?_
          refine ar_icmp_eq (pc := 182) (tgt := 187) dL_arePitches_182 (by decide) (fun c182 => ?_) (fun c182 => absurd (if_1 (if_Iy c174)) c182)
          refine ar_iinc (pc := 187) dL_arePitches_187 rfl (nI_1 p) (Nat.le_of_ble_eq_true rfl) rfl ?_
          refine ar_goto (tgt := 6) (pc := 190) dL_arePitches_190 (by decide) ?_
          refine ar_fg ?_ (ih (p + 1) (by omega) z hz)
          exact ⟨rfl, rfl, rfl, rfl, trivial⟩
    refine ar_iload_n (i := 3) (pc := 6) dL_arePitches_6 rfl rfl ?_
    refine ar_bipush (pc := 7) dL_arePitches_7 q_bipush_12 ?_
    refine ar_icmp_ge (pc := 9) (tgt := 193) dL_arePitches_9 (by decide) (fun c9 => absurd c9 (nI_ge (show p < 12 by omega) (by decide))) (fun c9 => ?_)
    refine ar_aload_n (i := 0) (pc := 12) dL_arePitches_12 rfl rfl ?_
    refine ar_iload_n (i := 3) (pc := 13) dL_arePitches_13 rfl rfl ?_
    refine ar_iconst (pc := 14) dL_arePitches_14 q_iconst_1 ?_
    refine ar_cl (pc := 15) dL_arePitches_15 cal_X6_pitch kL_8 rfl rfl (an_pitch1 K hp) hz hR rfl rfl rfl rfl rfl rfl (Nat.le_of_ble_eq_true rfl) (Nat.le_of_ble_eq_true rfl) (fun z hz => ?_)
    refine ar_istore (pc := 18) dL_arePitches_18 (Nat.le_of_ble_eq_true rfl) rfl ?_
    refine ar_iconst (pc := 20) dL_arePitches_20 q_iconst_1 ?_
    refine ar_hs (if_1 (fr_0 (v := v) (p := p))).symm ?_
    refine ar_istore (pc := 21) dL_arePitches_21 (Nat.le_of_ble_eq_true rfl) rfl ?_
    refine ar_iconst (pc := 23) dL_arePitches_23 q_iconst_0 ?_
    refine ar_istore (pc := 24) dL_arePitches_24 (Nat.le_of_ble_eq_true rfl) rfl ?_
    refine ar_fg ?_ (lL_pit_26 K hR hp CC n 0 (by omega) (by omega) z hz)
    exact ⟨rfl, rfl, rfl, rfl, rfl, rfl, rfl, trivial⟩
set_option maxHeartbeats 4000000 in
set_option maxRecDepth 100000 in
theorem sL_pit {gg : Nat → Int32} {κ n : Nat} {v : SV} (K : ok_D v n) : ln_S gg mL_arePitches [.ref 2] 1 κ v κ v := by
  intro ff z R hz0 hR
  refine am_intro (by decide) (Nat.le_of_ble_eq_true rfl) ?_
  have hz := lz_0 hz0
  obtain ⟨r, hr, hr2⟩ : ∃ r, r < 4096 ∧ nI r = vRo v := ⟨ix (vRo v), by have := K.2.2.2.2.1.1; have := K.2.2.2.2.1.2; unfold ix; omega, (ix_eq K.2.2.2.2.1.1).symm⟩
  refine ar_iconst (pc := 0) dL_arePitches_0 q_iconst_0 ?_
  refine ar_istore_n (i := 1) (pc := 1) dL_arePitches_1 rfl (Nat.le_of_ble_eq_true rfl) rfl ?_
  refine ar_iconst (pc := 2) dL_arePitches_2 q_iconst_0 ?_
  refine ar_hs (show (0 : Int32) = nI (r % 2 ^ 0) by rw [Nat.pow_zero, Nat.mod_one]; rfl) ?_
  refine ar_istore_n (i := 2) (pc := 3) dL_arePitches_3 rfl (Nat.le_of_ble_eq_true rfl) rfl ?_
  refine ar_iconst (pc := 4) dL_arePitches_4 q_iconst_0 ?_
  refine ar_istore_n (i := 3) (pc := 5) dL_arePitches_5 rfl (Nat.le_of_ble_eq_true rfl) rfl ?_
  exact lL_pit_6 K hR hr hr2 12 0 (by omega) z hz
