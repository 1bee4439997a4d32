/-! the law: one turn -/
def do_P (ff gg : Nat → Int32) (e : Nat) (z0 : PV) (R : am_H) : Option Value → am_H → Prop := fun r h1 => r = some (.int 1) ∧ ∃ z' g' v', in_D v' e ∧ lz_D 6 v' z0 z' ∧ h1 = ppH false ff false gg z' ++ (some (am_ia 8 g') :: R)
set_option maxHeartbeats 4000000 in
set_option maxRecDepth 100000 in
theorem lL_does_96 {gg ff : Nat → Int32} (G : g0_D gg) {n d e : Nat} {v : SV} (K : ok_D v n) (M : mo_D v n d) (hde : d ≤ e) (he : e < 80) {h0 : am_H} {z0 : PV} {R : am_H} (hR : lr_H R) {g : Nat → Int32} {V W : Int32} {b : Nat} (hb : (n = 0 ∧ b = 0) ∨ b < n) (z : PV) (hz : lz_D 6 v z0 z) : am_RW mL_does h0 (do_P ff gg (e + 1) z0 R) 0 0 96 [some (.ref 2), some (.ref 98), some (.int V), some (.int W), some (.int (nI n)), some (.int (nI b)), none, none, none, none, none, none, none, none, none, none, none, none, none, none, none, none] [] (ppH false ff false gg z ++ (some (am_ia 8 g) :: R)) := by
  have h8 := K.2.1.1
  have hl := lo_lt W (show 0 < 9 by omega)
  have hh : 1 ≤ (nI (lo_N W 9 + 1)).toInt ∧ (nI (lo_N W 9 + 1)).toInt ≤ 9 := by
    rw [nI_toInt (by omega)]
    omega
  refine ar_iconst (pc := 96) dL_does_96 q_iconst_1 ?_
  refine ar_iload_n (i := 3) (pc := 97) dL_does_97 rfl rfl ?_
  refine ar_bipush (pc := 98) dL_does_98 q_bipush_9 ?_
  refine ar_low (pc := 100) (m := 9) dL_does_100 kL_56 rfl rfl (by omega) (by omega) (lr_ia hR) rfl rfl rfl rfl (Nat.le_of_ble_eq_true rfl) (Nat.le_of_ble_eq_true rfl) ?_
  refine ar_iadd (pc := 103) dL_does_103 ?_
  refine ar_hs (show 1 + nI (lo_N W 9) = nI (lo_N W 9 + 1) by rw [Int32.add_comm, nI_1]) ?_
  refine ar_istore (pc := 104) dL_does_104 (Nat.le_of_ble_eq_true rfl) rfl ?_
  rcases (show n = 8 ∨ n < 8 by omega) with n8 | hn8
  · refine ar_aload_n (i := 0) (pc := 106) dL_does_106 rfl rfl ?_
    refine ar_iload (pc := 107) dL_does_107 rfl ?_
    refine ar_cl (pc := 109) dL_does_109 cal_X6_come kL_59 rfl rfl (an_comef (n8 ▸ K) hh) hz (lr_ia hR) rfl rfl rfl rfl rfl rfl (Nat.le_of_ble_eq_true rfl) (Nat.le_of_ble_eq_true rfl) (fun z hz => ?_)
    refine ar_istore (pc := 112) dL_does_112 (Nat.le_of_ble_eq_true rfl) rfl ?_
    refine ar_iload (pc := 114) dL_does_114 rfl ?_
    refine ar_bipush (pc := 116) dL_does_116 q_bipush_8 ?_
    refine ar_icmp_ne (pc := 118) (tgt := 136) dL_does_118 (by decide) (fun c118 => absurd (show nI n = 8 by rw [n8]; rfl) c118) (fun c118 => ?_)
    refine ar_iload (pc := 121) dL_does_121 rfl ?_
    refine ar_bipush (pc := 123) dL_does_123 q_bipush_m4 ?_
    refine ar_icmp_ne (pc := 125) (tgt := 132) dL_does_125 (by decide) (fun c125 => absurd rfl c125) (fun c125 => ?_)
    refine ar_iconst (pc := 128) dL_does_128 q_iconst_1 ?_
    refine ar_goto (tgt := 182) (pc := 129) dL_does_129 (by decide) ?_
    exact ar_zret (pc := 182) dL_does_182 rfl (Or.inr rfl) rfl rfl ⟨rfl, z, g, v, in_mk K M (by omega), hz, rfl⟩
  · have K' : ok_D (adB v n (nI (lo_N W 9 + 1)) (-6)) (n + 1) := ok_add K hn8 hh (Or.inl rfl)
    have A1 := ad_1 v n (nI (lo_N W 9 + 1)) (-6)
    refine ar_aload_n (i := 0) (pc := 106) dL_does_106 rfl rfl ?_
    refine ar_iload (pc := 107) dL_does_107 rfl ?_
    refine ar_cl (pc := 109) dL_does_109 cal_X6_come kL_59 rfl rfl (an_comes K hn8 hh) hz (lr_ia hR) rfl rfl rfl rfl rfl rfl (Nat.le_of_ble_eq_true rfl) (Nat.le_of_ble_eq_true rfl) (fun z hz => ?_)
    refine ar_istore (pc := 112) dL_does_112 (Nat.le_of_ble_eq_true rfl) rfl ?_
    refine ar_iload (pc := 114) dL_does_114 rfl ?_
    refine ar_bipush (pc := 116) dL_does_116 q_bipush_8 ?_
    refine ar_icmp_ne (pc := 118) (tgt := 136) dL_does_118 (by decide) (fun c118 => ?_) (fun c118 => absurd c118 (fun q => by have := (nI_eq (b := 8) (by omega) (by omega)).mp q; omega))
    refine ar_iload (pc := 136) dL_does_136 rfl ?_
    refine ar_iload (pc := 138) dL_does_138 rfl ?_
    refine ar_icmp_ne (pc := 140) (tgt := 181) dL_does_140 (by decide) (fun c140 => absurd rfl c140) (fun c140 => ?_)
    refine ar_aload_n (i := 0) (pc := 143) dL_does_143 rfl rfl ?_
    refine ar_iload (pc := 144) dL_does_144 rfl ?_
    refine ar_iconst (pc := 146) dL_does_146 q_iconst_0 ?_
    refine ar_cl (pc := 147) dL_does_147 cal_X6_booth kL_18 rfl rfl (an_booth0 K' (show n < n + 1 by omega)) hz (lr_ia hR) rfl rfl rfl rfl rfl rfl (Nat.le_of_ble_eq_true rfl) (Nat.le_of_ble_eq_true rfl) (fun z hz => ?_)
    refine ar_hs (show vH (adB v n (nI (lo_N W 9 + 1)) (-6)) n = nI (lo_N W 9 + 1) by rw [A1.2.2.2.2.2.1, pk_us]) ?_
    refine ar_iload (pc := 150) dL_does_150 rfl ?_
    refine ar_icmp_ne (pc := 152) (tgt := 181) dL_does_152 (by decide) (fun c152 => absurd rfl c152) (fun c152 => ?_)
    refine ar_aload_n (i := 0) (pc := 155) dL_does_155 rfl rfl ?_
    refine ar_iload (pc := 156) dL_does_156 rfl ?_
    refine ar_iconst (pc := 158) dL_does_158 q_iconst_1 ?_
    refine ar_cl (pc := 159) dL_does_159 cal_X6_booth kL_18 rfl rfl (an_booth1 K' (show n < n + 1 by omega)) hz (lr_ia hR) rfl rfl rfl rfl rfl rfl (Nat.le_of_ble_eq_true rfl) (Nat.le_of_ble_eq_true rfl) (fun z hz => ?_)
    refine ar_hs (show vP (adB v n (nI (lo_N W 9 + 1)) (-6)) n = -6 by rw [A1.2.2.2.2.2.2.1, pk_us]) ?_
    refine ar_bipush (pc := 162) dL_does_162 q_bipush_m6 ?_
    refine ar_icmp_ne (pc := 164) (tgt := 181) dL_does_164 (by decide) (fun c164 => absurd rfl c164) (fun c164 => ?_)
    refine ar_aload_n (i := 0) (pc := 167) dL_does_167 rfl rfl ?_
    refine ar_iload (pc := 168) dL_does_168 rfl ?_
    refine ar_iconst (pc := 170) dL_does_170 q_iconst_5 ?_
    refine ar_cl (pc := 171) dL_does_171 cal_X6_booth kL_18 rfl rfl (an_booth5 K' (show n < n + 1 by omega)) hz (lr_ia hR) rfl rfl rfl rfl rfl rfl (Nat.le_of_ble_eq_true rfl) (Nat.le_of_ble_eq_true rfl) (fun z hz => ?_)
    refine ar_hs (show vT (adB v n (nI (lo_N W 9 + 1)) (-6)) n = 0 by rw [A1.2.2.2.2.2.2.2.2.1, pk_us]) ?_
    refine ar_if_ne (pc := 174) (tgt := 181) dL_does_174 (by decide) (fun c174 => absurd rfl c174) (fun c174 => ?_)
    refine ar_iconst (pc := 177) dL_does_177 q_iconst_1 ?_
    refine ar_goto (tgt := 182) (pc := 178) dL_does_178 (by decide) ?_
    exact ar_zret (pc := 182) dL_does_182 rfl (Or.inr rfl) rfl rfl ⟨rfl, z, g, (adB v n (nI (lo_N W 9 + 1)) (-6)), in_mk K' (mo_add M) (by omega), hz, rfl⟩
set_option maxHeartbeats 4000000 in
set_option maxRecDepth 100000 in
theorem lL_does_183 {gg ff : Nat → Int32} (G : g0_D gg) {n d e : Nat} {v : SV} (K : ok_D v n) (M : mo_D v n d) (hde : d ≤ e) (he : e < 80) {h0 : am_H} {z0 : PV} {R : am_H} (hR : lr_H R) {g : Nat → Int32} {V W : Int32} {b : Nat} (hb : (n = 0 ∧ b = 0) ∨ b < n) (z : PV) (hz : lz_D 6 v z0 z) : am_RW mL_does h0 (do_P ff gg (e + 1) z0 R) 0 0 183 [some (.ref 2), some (.ref 98), some (.int V), some (.int W), some (.int (nI n)), some (.int (nI b)), none, none, none, none, none, none, none, none, none, none, none, none, none, none, none, none] [] (ppH false ff false gg z ++ (some (am_ia 8 g) :: R)) := by
  have h8 := K.2.1.1
  refine ar_aload_n (i := 0) (pc := 183) dL_does_183 rfl rfl ?_
  refine ar_bipush (pc := 184) dL_does_184 q_bipush_14 ?_
  refine ar_cl (pc := 186) dL_does_186 cal_X6_count kL_14 rfl rfl (an_count14 K) hz (lr_ia hR) rfl rfl rfl rfl rfl rfl (Nat.le_of_ble_eq_true rfl) (Nat.le_of_ble_eq_true rfl) (fun z hz => ?_)
  refine ar_istore (pc := 189) dL_does_189 (Nat.le_of_ble_eq_true rfl) rfl ?_
  rcases hb with ⟨rfl, rfl⟩ | hb
  · have nb : ¬ bkP 0 (nI 0) := fun q => by have := q.1; have := q.2; omega
    refine ar_aload_n (i := 0) (pc := 191) dL_does_191 rfl rfl ?_
    refine ar_iload (pc := 192) dL_does_192 rfl ?_
    refine ar_iconst (pc := 194) dL_does_194 q_iconst_5 ?_
    refine ar_cl (pc := 195) dL_does_195 cal_X6_booth kL_18 rfl rfl (an_boothn K (nI 0) 5 nb) hz (lr_ia hR) rfl rfl rfl rfl rfl rfl (Nat.le_of_ble_eq_true rfl) (Nat.le_of_ble_eq_true rfl) (fun z hz => ?_)
    refine ar_istore (pc := 198) dL_does_198 (Nat.le_of_ble_eq_true rfl) rfl ?_
    refine ar_iload_n (i := 2) (pc := 200) dL_does_200 rfl rfl ?_
    refine ar_bipush (pc := 201) dL_does_201 q_bipush_9 ?_
    refine ar_ishr (pc := 203) dL_does_203 ?_
    refine ar_iconst (pc := 204) dL_does_204 q_iconst_1 ?_
    refine ar_iand (pc := 205) dL_does_205 ?_
    refine ar_if_eq (pc := 206) (tgt := 262) dL_does_206 (by decide) (fun c206 => ?_) (fun c206 => ?_)
    · refine ar_iconst (pc := 262) dL_does_262 q_iconst_1 ?_
      refine ar_goto (tgt := 267) (pc := 263) dL_does_263 (by decide) ?_
      exact ar_zret (pc := 267) dL_does_267 rfl (Or.inr rfl) rfl rfl ⟨rfl, z, g, v, in_mk K M (by omega), hz, rfl⟩
    · refine ar_aload_n (i := 0) (pc := 209) dL_does_209 rfl rfl ?_
      refine ar_iload (pc := 210) dL_does_210 rfl ?_
      refine ar_cl (pc := 212) dL_does_212 cal_X6_go kL_62 rfl rfl (an_gon K (nI 0) nb) hz (lr_ia hR) rfl rfl rfl rfl rfl rfl (Nat.le_of_ble_eq_true rfl) (Nat.le_of_ble_eq_true rfl) (fun z hz => ?_)
      refine ar_iload (pc := 215) dL_does_215 rfl ?_
      refine ar_if_ne (pc := 217) (tgt := 224) dL_does_217 (by decide) (fun c217 => absurd rfl c217) (fun c217 => ?_)
      refine ar_iconst (pc := 220) dL_does_220 q_iconst_m1 ?_
      refine ar_goto (tgt := 226) (pc := 221) dL_does_221 (by decide) ?_
      refine ar_icmp_ne (pc := 226) (tgt := 266) dL_does_226 (by decide) (fun c226 => absurd rfl c226) (fun c226 => ?_)
      refine ar_aload_n (i := 0) (pc := 229) dL_does_229 rfl rfl ?_
      refine ar_bipush (pc := 230) dL_does_230 q_bipush_14 ?_
      refine ar_cl (pc := 232) dL_does_232 cal_X6_count kL_14 rfl rfl (an_count14 K) hz (lr_ia hR) rfl rfl rfl rfl rfl rfl (Nat.le_of_ble_eq_true rfl) (Nat.le_of_ble_eq_true rfl) (fun z hz => ?_)
      refine ar_iload (pc := 235) dL_does_235 rfl ?_
      refine ar_icmp_ne (pc := 237) (tgt := 266) dL_does_237 (by decide) (fun c237 => absurd rfl c237) (fun c237 => ?_)
      refine ar_aload_n (i := 0) (pc := 240) dL_does_240 rfl rfl ?_
      refine ar_bipush (pc := 241) dL_does_241 q_bipush_7 ?_
      refine ar_cl (pc := 243) dL_does_243 cal_X6_count kL_14 rfl rfl (an_count7 K) hz (lr_ia hR) rfl rfl rfl rfl rfl rfl (Nat.le_of_ble_eq_true rfl) (Nat.le_of_ble_eq_true rfl) (fun z hz => ?_)
      refine ar_iload (pc := 246) dL_does_246 rfl ?_
      refine ar_if_ne (pc := 248) (tgt := 255) dL_does_248 (by decide) (fun c248 => absurd rfl c248) (fun c248 => ?_)
      refine ar_iconst (pc := 251) dL_does_251 q_iconst_0 ?_
      refine ar_goto (tgt := 259) (pc := 252) dL_does_252 (by decide) ?_
      refine ar_icmp_ne (pc := 259) (tgt := 266) dL_does_259 (by decide) (fun c259 => absurd rfl c259) (fun c259 => ?_)
      refine ar_iconst (pc := 262) dL_does_262 q_iconst_1 ?_
      refine ar_goto (tgt := 267) (pc := 263) dL_does_263 (by decide) ?_
      exact ar_zret (pc := 267) dL_does_267 rfl (Or.inr rfl) rfl rfl ⟨rfl, z, g, v, in_mk K M (by omega), hz, rfl⟩
  · have K' : ok_D (rmB v n b) (n - 1) := ok_go K hb
    have A1 := rm_1 v n b
    refine ar_aload_n (i := 0) (pc := 191) dL_does_191 rfl rfl ?_
    refine ar_iload (pc := 192) dL_does_192 rfl ?_
    refine ar_iconst (pc := 194) dL_does_194 q_iconst_5 ?_
    refine ar_cl (pc := 195) dL_does_195 cal_X6_booth kL_18 rfl rfl (an_booth5 K hb) hz (lr_ia hR) rfl rfl rfl rfl rfl rfl (Nat.le_of_ble_eq_true rfl) (Nat.le_of_ble_eq_true rfl) (fun z hz => ?_)
    refine ar_istore (pc := 198) dL_does_198 (Nat.le_of_ble_eq_true rfl) rfl ?_
    refine ar_iload_n (i := 2) (pc := 200) dL_does_200 rfl rfl ?_
    refine ar_bipush (pc := 201) dL_does_201 q_bipush_9 ?_
    refine ar_ishr (pc := 203) dL_does_203 ?_
    refine ar_iconst (pc := 204) dL_does_204 q_iconst_1 ?_
    refine ar_iand (pc := 205) dL_does_205 ?_
    refine ar_if_eq (pc := 206) (tgt := 262) dL_does_206 (by decide) (fun c206 => ?_) (fun c206 => ?_)
    · refine ar_iconst (pc := 262) dL_does_262 q_iconst_1 ?_
      refine ar_goto (tgt := 267) (pc := 263) dL_does_263 (by decide) ?_
      exact ar_zret (pc := 267) dL_does_267 rfl (Or.inr rfl) rfl rfl ⟨rfl, z, g, v, in_mk K M (by omega), hz, rfl⟩
    · refine ar_aload_n (i := 0) (pc := 209) dL_does_209 rfl rfl ?_
      refine ar_iload (pc := 210) dL_does_210 rfl ?_
      refine ar_cl (pc := 212) dL_does_212 cal_X6_go kL_62 rfl rfl (an_gos K hb) hz (lr_ia hR) rfl rfl rfl rfl rfl rfl (Nat.le_of_ble_eq_true rfl) (Nat.le_of_ble_eq_true rfl) (fun z hz => ?_)
      refine ar_iload (pc := 215) dL_does_215 rfl ?_
      refine ar_if_ne (pc := 217) (tgt := 224) dL_does_217 (by decide) (fun c217 => ?_) (fun c217 => absurd c217 (nI_ne0 (by omega) (by omega)))
      refine ar_iload (pc := 224) dL_does_224 rfl ?_
      refine ar_icmp_ne (pc := 226) (tgt := 266) dL_does_226 (by decide) (fun c226 => absurd rfl c226) (fun c226 => ?_)
      refine ar_aload_n (i := 0) (pc := 229) dL_does_229 rfl rfl ?_
      refine ar_bipush (pc := 230) dL_does_230 q_bipush_14 ?_
      refine ar_cl (pc := 232) dL_does_232 cal_X6_count kL_14 rfl rfl (an_count14 K') hz (lr_ia hR) rfl rfl rfl rfl rfl rfl (Nat.le_of_ble_eq_true rfl) (Nat.le_of_ble_eq_true rfl) (fun z hz => ?_)
      refine ar_iload (pc := 235) dL_does_235 rfl ?_
      refine ar_icmp_ne (pc := 237) (tgt := 266) dL_does_237 (by decide) (fun c237 => absurd A1.2.2.2.2.2.2.2.2.2.2.2.2 c237) (fun c237 => ?_)
      refine ar_aload_n (i := 0) (pc := 240) dL_does_240 rfl rfl ?_
      refine ar_bipush (pc := 241) dL_does_241 q_bipush_7 ?_
      refine ar_cl (pc := 243) dL_does_243 cal_X6_count kL_14 rfl rfl (an_count7 K') hz (lr_ia hR) rfl rfl rfl rfl rfl rfl (Nat.le_of_ble_eq_true rfl) (Nat.le_of_ble_eq_true rfl) (fun z hz => ?_)
      refine ar_iload (pc := 246) dL_does_246 rfl ?_
      refine ar_if_ne (pc := 248) (tgt := 255) dL_does_248 (by decide) (fun c248 => ?_) (fun c248 => absurd c248 (nI_ne0 (by omega) (by omega)))
      refine ar_iload (pc := 255) dL_does_255 rfl ?_
      refine ar_iconst (pc := 257) dL_does_257 q_iconst_1 ?_
      refine ar_isub (pc := 258) dL_does_258 ?_
      refine ar_hs (show nI n - 1 = nI (n - 1) by rw [show (1 : Int32) = nI 1 from rfl, pk_sub (by omega)]) ?_
      refine ar_icmp_ne (pc := 259) (tgt := 266) dL_does_259 (by decide) (fun c259 => absurd rfl c259) (fun c259 => ?_)
      refine ar_iconst (pc := 262) dL_does_262 q_iconst_1 ?_
      refine ar_goto (tgt := 267) (pc := 263) dL_does_263 (by decide) ?_
      exact ar_zret (pc := 267) dL_does_267 rfl (Or.inr rfl) rfl rfl ⟨rfl, z, g, (rmB v n b), in_mk K' (mo_go M h8 hb) (by omega), hz, rfl⟩
theorem tk_a {v : SV} {n p b : Nat} (h8 : n ≤ 8) (hb : b < n) (ht : tkP v n (nI p) b) : ¬ o2i (bo_O v n p) = -6 ∧ ¬ o2i (bo_O v n p) = nI b := by
  obtain ⟨k, h1, h2⟩ := ht
  have hk := (bo_s (v := v) (n := n) (p := p) h1).1
  rw [show bo_O v n p = some k from h1]
  exact ⟨nI_m6 (by omega), fun q => h2 ((nI_eq (by omega) (by omega)).mp q)⟩
theorem tk_b {v : SV} {n p b : Nat} (ht : ¬ tkP v n (nI p) b) (c : ¬ o2i (bo_O v n p) = -6) : o2i (bo_O v n p) = nI b := by
  cases h : bo_O v n p with
  | none =>
    rw [h] at c
    exact absurd rfl c
  | some k =>
    by_cases e : k = b
    · rw [e]; rfl
    · exact absurd ⟨k, h, e⟩ ht
set_option maxHeartbeats 4000000 in
set_option maxRecDepth 100000 in
theorem lL_does_268 {gg ff : Nat → Int32} (G : g0_D gg) {n d e : Nat} {v : SV} (K : ok_D v n) (M : mo_D v n d) (hde : d ≤ e) (he : e < 80) {h0 : am_H} {z0 : PV} {R : am_H} (hR : lr_H R) {g : Nat → Int32} {V W : Int32} {b : Nat} (hb : (n = 0 ∧ b = 0) ∨ b < n) (z : PV) (hz : lz_D 6 v z0 z) : am_RW mL_does h0 (do_P ff gg (e + 1) z0 R) 0 0 268 [some (.ref 2), some (.ref 98), some (.int V), some (.int W), some (.int (nI n)), some (.int (nI b)), none, none, none, none, none, none, none, none, none, none, none, none, none, none, none, none] [] (ppH false ff false gg z ++ (some (am_ia 8 g) :: R)) := by
  have h8 := K.2.1.1
  have hl := lo_lt W (show 0 < 13 by omega)
  refine ar_iload_n (i := 3) (pc := 268) dL_does_268 rfl rfl ?_
  refine ar_bipush (pc := 269) dL_does_269 q_bipush_13 ?_
  refine ar_low (pc := 271) (m := 13) dL_does_271 kL_56 rfl rfl (by omega) (by omega) (lr_ia hR) rfl rfl rfl rfl (Nat.le_of_ble_eq_true rfl) (Nat.le_of_ble_eq_true rfl) ?_
  refine ar_bipush (pc := 274) dL_does_274 q_bipush_12 ?_
  rcases (show lo_N W 13 = 12 ∨ lo_N W 13 < 12 by omega) with e12 | hp
  · refine ar_icmp_ne (pc := 276) (tgt := 284) dL_does_276 (by decide) (fun c276 => absurd (show nI (lo_N W 13) = 12 by rw [e12]; rfl) c276) (fun c276 => ?_)
    refine ar_bipush (pc := 279) dL_does_279 q_bipush_m6 ?_
    refine ar_goto (tgt := 290) (pc := 281) dL_does_281 (by decide) ?_
    refine ar_istore (pc := 290) dL_does_290 (Nat.le_of_ble_eq_true rfl) rfl ?_
    refine ar_iload (pc := 292) dL_does_292 rfl ?_
    refine ar_if_ge (pc := 294) (tgt := 302) dL_does_294 (by decide) (fun c294 => absurd c294 (by decide)) (fun c294 => ?_)
    refine ar_bipush (pc := 297) dL_does_297 q_bipush_m6 ?_
    refine ar_goto (tgt := 309) (pc := 299) dL_does_299 (by decide) ?_
    refine ar_istore (pc := 309) dL_does_309 (Nat.le_of_ble_eq_true rfl) rfl ?_
    refine ar_iload (pc := 311) dL_does_311 rfl ?_
    rcases hb with ⟨rfl, rfl⟩ | hb
    · have nb : ¬ bkP 0 (nI 0) := fun q => by have := q.1; have := q.2; omega
      refine ar_if_ne (pc := 313) (tgt := 320) dL_does_313 (by decide) (fun c313 => absurd rfl c313) (fun c313 => ?_)
      refine ar_iconst (pc := 316) dL_does_316 q_iconst_0 ?_
      refine ar_goto (tgt := 327) (pc := 317) dL_does_317 (by decide) ?_
      refine ar_istore (pc := 327) dL_does_327 (Nat.le_of_ble_eq_true rfl) rfl ?_
      refine ar_aload_n (i := 0) (pc := 329) dL_does_329 rfl rfl ?_
      refine ar_iload (pc := 330) dL_does_330 rfl ?_
      refine ar_iload (pc := 332) dL_does_332 rfl ?_
      refine ar_cl (pc := 334) dL_does_334 cal_X6_stand kL_47 rfl rfl (an_standn K (nI 0) (-6) nb) hz (lr_ia hR) rfl rfl rfl rfl rfl rfl (Nat.le_of_ble_eq_true rfl) (Nat.le_of_ble_eq_true rfl) (fun z hz => ?_)
      refine ar_istore (pc := 337) dL_does_337 (Nat.le_of_ble_eq_true rfl) rfl ?_
      refine ar_iload (pc := 339) dL_does_339 rfl ?_
      refine ar_iload (pc := 341) dL_does_341 rfl ?_
      refine ar_if_ne (pc := 343) (tgt := 350) dL_does_343 (by decide) (fun c343 => absurd rfl c343) (fun c343 => ?_)
      refine ar_iconst (pc := 346) dL_does_346 q_iconst_m1 ?_
      refine ar_goto (tgt := 371) (pc := 347) dL_does_347 (by decide) ?_
      refine ar_icmp_ne (pc := 371) (tgt := 378) dL_does_371 (by decide) (fun c371 => absurd rfl c371) (fun c371 => ?_)
      refine ar_iconst (pc := 374) dL_does_374 q_iconst_1 ?_
      refine ar_goto (tgt := 379) (pc := 375) dL_does_375 (by decide) ?_
      exact ar_zret (pc := 379) dL_does_379 rfl (Or.inr rfl) rfl rfl ⟨rfl, z, g, v, in_mk K M (by omega), hz, rfl⟩
    · refine ar_if_ne (pc := 313) (tgt := 320) dL_does_313 (by decide) (fun c313 => ?_) (fun c313 => absurd c313 (nI_ne0 (by omega) (by omega)))
      refine ar_aload_n (i := 0) (pc := 320) dL_does_320 rfl rfl ?_
      refine ar_iload (pc := 321) dL_does_321 rfl ?_
      refine ar_iconst (pc := 323) dL_does_323 q_iconst_1 ?_
      refine ar_cl (pc := 324) dL_does_324 cal_X6_booth kL_18 rfl rfl (an_booth1 K hb) hz (lr_ia hR) rfl rfl rfl rfl rfl rfl (Nat.le_of_ble_eq_true rfl) (Nat.le_of_ble_eq_true rfl) (fun z hz => ?_)
      refine ar_istore (pc := 327) dL_does_327 (Nat.le_of_ble_eq_true rfl) rfl ?_
      refine ar_aload_n (i := 0) (pc := 329) dL_does_329 rfl rfl ?_
      refine ar_iload (pc := 330) dL_does_330 rfl ?_
      refine ar_iload (pc := 332) dL_does_332 rfl ?_
      refine ar_cl (pc := 334) dL_does_334 cal_X6_stand kL_47 rfl rfl (an_stands K hb (Or.inl rfl) tk_6) hz (lr_ia hR) rfl rfl rfl rfl rfl rfl (Nat.le_of_ble_eq_true rfl) (Nat.le_of_ble_eq_true rfl) (fun z hz => ?_)
      refine ar_istore (pc := 337) dL_does_337 (Nat.le_of_ble_eq_true rfl) rfl ?_
      refine ar_iload (pc := 339) dL_does_339 rfl ?_
      refine ar_iload (pc := 341) dL_does_341 rfl ?_
      refine ar_if_ne (pc := 343) (tgt := 350) dL_does_343 (by decide) (fun c343 => ?_) (fun c343 => absurd c343 (nI_ne0 (by omega) (by omega)))
      refine ar_iload (pc := 350) dL_does_350 rfl ?_
      refine ar_bipush (pc := 352) dL_does_352 q_bipush_m6 ?_
      refine ar_icmp_eq (pc := 354) (tgt := 369) dL_does_354 (by decide) (fun c354 => ?_) (fun c354 => absurd rfl c354)
      refine ar_iload (pc := 369) dL_does_369 rfl ?_
      refine ar_icmp_ne (pc := 371) (tgt := 378) dL_does_371 (by decide) (fun c371 => absurd rfl c371) (fun c371 => ?_)
      refine ar_iconst (pc := 374) dL_does_374 q_iconst_1 ?_
      refine ar_goto (tgt := 379) (pc := 375) dL_does_375 (by decide) ?_
      exact ar_zret (pc := 379) dL_does_379 rfl (Or.inr rfl) rfl rfl ⟨rfl, z, g, (uP v (upd (vP v) b (-6))), in_mk (ok_stand K (Or.inl rfl) tk_6) (mo_cg M rfl rfl rfl rfl rfl) (by omega), hz, rfl⟩
  · refine ar_icmp_ne (pc := 276) (tgt := 284) dL_does_276 (by decide) (fun c276 => ?_) (fun c276 => absurd c276 (fun q => by have := (nI_eq (b := 12) (by omega) (by omega)).mp q; omega))
    refine ar_iload_n (i := 3) (pc := 284) dL_does_284 rfl rfl ?_
    refine ar_bipush (pc := 285) dL_does_285 q_bipush_13 ?_
    refine ar_low (pc := 287) (m := 13) dL_does_287 kL_56 rfl rfl (by omega) (by omega) (lr_ia hR) rfl rfl rfl rfl (Nat.le_of_ble_eq_true rfl) (Nat.le_of_ble_eq_true rfl) ?_
    refine ar_istore (pc := 290) dL_does_290 (Nat.le_of_ble_eq_true rfl) rfl ?_
    refine ar_iload (pc := 292) dL_does_292 rfl ?_
    refine ar_if_ge (pc := 294) (tgt := 302) dL_does_294 (by decide) (fun c294 => ?_) (fun c294 => absurd (nI_pos' (show lo_N W 13 < 2 ^ 31 by omega)) c294)
    refine ar_aload_n (i := 0) (pc := 302) dL_does_302 rfl rfl ?_
    refine ar_iload (pc := 303) dL_does_303 rfl ?_
    refine ar_iconst (pc := 305) dL_does_305 q_iconst_1 ?_
    refine ar_cl (pc := 306) dL_does_306 cal_X6_pitch kL_8 rfl rfl (an_pitch1 K hp) hz (lr_ia hR) rfl rfl rfl rfl rfl rfl (Nat.le_of_ble_eq_true rfl) (Nat.le_of_ble_eq_true rfl) (fun z hz => ?_)
    refine ar_istore (pc := 309) dL_does_309 (Nat.le_of_ble_eq_true rfl) rfl ?_
    refine ar_iload (pc := 311) dL_does_311 rfl ?_
    rcases hb with ⟨rfl, rfl⟩ | hb
    · have nb : ¬ bkP 0 (nI 0) := fun q => by have := q.1; have := q.2; omega
      refine ar_if_ne (pc := 313) (tgt := 320) dL_does_313 (by decide) (fun c313 => absurd rfl c313) (fun c313 => ?_)
      refine ar_iconst (pc := 316) dL_does_316 q_iconst_0 ?_
      refine ar_goto (tgt := 327) (pc := 317) dL_does_317 (by decide) ?_
      refine ar_istore (pc := 327) dL_does_327 (Nat.le_of_ble_eq_true rfl) rfl ?_
      refine ar_aload_n (i := 0) (pc := 329) dL_does_329 rfl rfl ?_
      refine ar_iload (pc := 330) dL_does_330 rfl ?_
      refine ar_iload (pc := 332) dL_does_332 rfl ?_
      refine ar_cl (pc := 334) dL_does_334 cal_X6_stand kL_47 rfl rfl (an_standn K (nI 0) (nI (lo_N W 13)) nb) hz (lr_ia hR) rfl rfl rfl rfl rfl rfl (Nat.le_of_ble_eq_true rfl) (Nat.le_of_ble_eq_true rfl) (fun z hz => ?_)
      refine ar_istore (pc := 337) dL_does_337 (Nat.le_of_ble_eq_true rfl) rfl ?_
      refine ar_iload (pc := 339) dL_does_339 rfl ?_
      refine ar_iload (pc := 341) dL_does_341 rfl ?_
      refine ar_if_ne (pc := 343) (tgt := 350) dL_does_343 (by decide) (fun c343 => absurd rfl c343) (fun c343 => ?_)
      refine ar_iconst (pc := 346) dL_does_346 q_iconst_m1 ?_
      refine ar_goto (tgt := 371) (pc := 347) dL_does_347 (by decide) ?_
      refine ar_icmp_ne (pc := 371) (tgt := 378) dL_does_371 (by decide) (fun c371 => absurd rfl c371) (fun c371 => ?_)
      refine ar_iconst (pc := 374) dL_does_374 q_iconst_1 ?_
      refine ar_goto (tgt := 379) (pc := 375) dL_does_375 (by decide) ?_
      exact ar_zret (pc := 379) dL_does_379 rfl (Or.inr rfl) rfl rfl ⟨rfl, z, g, v, in_mk K M (by omega), hz, rfl⟩
    · refine ar_if_ne (pc := 313) (tgt := 320) dL_does_313 (by decide) (fun c313 => ?_) (fun c313 => absurd c313 (nI_ne0 (by omega) (by omega)))
      refine ar_aload_n (i := 0) (pc := 320) dL_does_320 rfl rfl ?_
      refine ar_iload (pc := 321) dL_does_321 rfl ?_
      refine ar_iconst (pc := 323) dL_does_323 q_iconst_1 ?_
      refine ar_cl (pc := 324) dL_does_324 cal_X6_booth kL_18 rfl rfl (an_booth1 K hb) hz (lr_ia hR) rfl rfl rfl rfl rfl rfl (Nat.le_of_ble_eq_true rfl) (Nat.le_of_ble_eq_true rfl) (fun z hz => ?_)
      refine ar_istore (pc := 327) dL_does_327 (Nat.le_of_ble_eq_true rfl) rfl ?_
      rcases Classical.em (tkP v n (nI (lo_N W 13)) b) with ht | ht
      · refine ar_aload_n (i := 0) (pc := 329) dL_does_329 rfl rfl ?_
        refine ar_iload (pc := 330) dL_does_330 rfl ?_
        refine ar_iload (pc := 332) dL_does_332 rfl ?_
        refine ar_cl (pc := 334) dL_does_334 cal_X6_stand kL_47 rfl rfl (an_standt K hb (Or.inr (in_p hp)) ht) hz (lr_ia hR) rfl rfl rfl rfl rfl rfl (Nat.le_of_ble_eq_true rfl) (Nat.le_of_ble_eq_true rfl) (fun z hz => ?_)
        refine ar_istore (pc := 337) dL_does_337 (Nat.le_of_ble_eq_true rfl) rfl ?_
        refine ar_iload (pc := 339) dL_does_339 rfl ?_
        refine ar_iload (pc := 341) dL_does_341 rfl ?_
        refine ar_if_ne (pc := 343) (tgt := 350) dL_does_343 (by decide) (fun c343 => ?_) (fun c343 => absurd c343 (nI_ne0 (by omega) (by omega)))
        refine ar_iload (pc := 350) dL_does_350 rfl ?_
        refine ar_bipush (pc := 352) dL_does_352 q_bipush_m6 ?_
        refine ar_icmp_eq (pc := 354) (tgt := 369) dL_does_354 (by decide) (fun c354 => absurd c354 (tk_a h8 hb ht).1) (fun c354 => ?_)
        refine ar_iload (pc := 357) dL_does_357 rfl ?_
        refine ar_iload (pc := 359) dL_does_359 rfl ?_
        refine ar_icmp_eq (pc := 361) (tgt := 369) dL_does_361 (by decide) (fun c361 => absurd c361 (tk_a h8 hb ht).2) (fun c361 => ?_)
        refine ar_bipush (pc := 364) dL_does_364 q_bipush_m5 ?_
        refine ar_goto (tgt := 371) (pc := 366) dL_does_366 (by decide) ?_
        refine ar_icmp_ne (pc := 371) (tgt := 378) dL_does_371 (by decide) (fun c371 => absurd rfl c371) (fun c371 => ?_)
        refine ar_iconst (pc := 374) dL_does_374 q_iconst_1 ?_
        refine ar_goto (tgt := 379) (pc := 375) dL_does_375 (by decide) ?_
        exact ar_zret (pc := 379) dL_does_379 rfl (Or.inr rfl) rfl rfl ⟨rfl, z, g, v, in_mk K M (by omega), hz, rfl⟩
      · refine ar_aload_n (i := 0) (pc := 329) dL_does_329 rfl rfl ?_
        refine ar_iload (pc := 330) dL_does_330 rfl ?_
        refine ar_iload (pc := 332) dL_does_332 rfl ?_
        refine ar_cl (pc := 334) dL_does_334 cal_X6_stand kL_47 rfl rfl (an_stands K hb (Or.inr (in_p hp)) ht) hz (lr_ia hR) rfl rfl rfl rfl rfl rfl (Nat.le_of_ble_eq_true rfl) (Nat.le_of_ble_eq_true rfl) (fun z hz => ?_)
        refine ar_istore (pc := 337) dL_does_337 (Nat.le_of_ble_eq_true rfl) rfl ?_
        refine ar_iload (pc := 339) dL_does_339 rfl ?_
        refine ar_iload (pc := 341) dL_does_341 rfl ?_
        refine ar_if_ne (pc := 343) (tgt := 350) dL_does_343 (by decide) (fun c343 => ?_) (fun c343 => absurd c343 (nI_ne0 (by omega) (by omega)))
        refine ar_iload (pc := 350) dL_does_350 rfl ?_
        refine ar_bipush (pc := 352) dL_does_352 q_bipush_m6 ?_
        refine ar_icmp_eq (pc := 354) (tgt := 369) dL_does_354 (by decide) (fun c354 => ?_) (fun c354 => ?_)
        · refine ar_iload (pc := 369) dL_does_369 rfl ?_
          refine ar_icmp_ne (pc := 371) (tgt := 378) dL_does_371 (by decide) (fun c371 => absurd rfl c371) (fun c371 => ?_)
          refine ar_iconst (pc := 374) dL_does_374 q_iconst_1 ?_
          refine ar_goto (tgt := 379) (pc := 375) dL_does_375 (by decide) ?_
          exact ar_zret (pc := 379) dL_does_379 rfl (Or.inr rfl) rfl rfl ⟨rfl, z, g, (uP v (upd (vP v) b (nI (lo_N W 13)))), in_mk (ok_stand K (Or.inr (in_p hp)) ht) (mo_cg M rfl rfl rfl rfl rfl) (by omega), hz, rfl⟩
        · refine ar_iload (pc := 357) dL_does_357 rfl ?_
          refine ar_iload (pc := 359) dL_does_359 rfl ?_
          refine ar_icmp_eq (pc := 361) (tgt := 369) dL_does_361 (by decide) (fun c361 => ?_) (fun c361 => absurd (tk_b ht c354) c361)
          refine ar_iload (pc := 369) dL_does_369 rfl ?_
          refine ar_icmp_ne (pc := 371) (tgt := 378) dL_does_371 (by decide) (fun c371 => absurd rfl c371) (fun c371 => ?_)
          refine ar_iconst (pc := 374) dL_does_374 q_iconst_1 ?_
          refine ar_goto (tgt := 379) (pc := 375) dL_does_375 (by decide) ?_
          exact ar_zret (pc := 379) dL_does_379 rfl (Or.inr rfl) rfl rfl ⟨rfl, z, g, (uP v (upd (vP v) b (nI (lo_N W 13)))), in_mk (ok_stand K (Or.inr (in_p hp)) ht) (mo_cg M rfl rfl rfl rfl rfl) (by omega), hz, rfl⟩
set_option maxHeartbeats 4000000 in
set_option maxRecDepth 100000 in
theorem lL_does_380 {gg ff : Nat → Int32} (G : g0_D gg) {n d e : Nat} {v : SV} (K : ok_D v n) (M : mo_D v n d) (hde : d ≤ e) (he : e < 80) {h0 : am_H} {z0 : PV} {R : am_H} (hR : lr_H R) {g : Nat → Int32} {V W : Int32} {b : Nat} (hb : (n = 0 ∧ b = 0) ∨ b < n) (z : PV) (hz : lz_D 6 v z0 z) : am_RW mL_does h0 (do_P ff gg (e + 1) z0 R) 0 0 380 [some (.ref 2), some (.ref 98), some (.int V), some (.int W), some (.int (nI n)), some (.int (nI b)), none, none, none, none, none, none, none, none, none, none, none, none, none, none, none, none] [] (ppH false ff false gg z ++ (some (am_ia 8 g) :: R)) := by
  have h8 := K.2.1.1
  have hl := lo_lt W (show 0 < 12 by omega)
  refine ar_iload_n (i := 3) (pc := 380) dL_does_380 rfl rfl ?_
  refine ar_bipush (pc := 381) dL_does_381 q_bipush_12 ?_
  refine ar_low (pc := 383) (m := 12) dL_does_383 kL_56 rfl rfl (by omega) (by omega) (lr_ia hR) rfl rfl rfl rfl (Nat.le_of_ble_eq_true rfl) (Nat.le_of_ble_eq_true rfl) ?_
  refine ar_istore (pc := 386) dL_does_386 (Nat.le_of_ble_eq_true rfl) rfl ?_
  refine ar_iload_n (i := 3) (pc := 388) dL_does_388 rfl rfl ?_
  refine ar_iconst (pc := 389) dL_does_389 q_iconst_4 ?_
  refine ar_ishr (pc := 390) dL_does_390 ?_
  refine ar_iconst (pc := 391) dL_does_391 q_iconst_1 ?_
  refine ar_iand (pc := 392) dL_does_392 ?_
  refine ar_iconst (pc := 393) dL_does_393 q_iconst_1 ?_
  refine ar_icmp_ne (pc := 394) (tgt := 401) dL_does_394 (by decide) (fun c394 => ?_) (fun c394 => ?_)
  · refine ar_iconst (pc := 401) dL_does_401 q_iconst_0 ?_
    refine ar_istore (pc := 402) dL_does_402 (Nat.le_of_ble_eq_true rfl) rfl ?_
    refine ar_aload_n (i := 0) (pc := 404) dL_does_404 rfl rfl ?_
    refine ar_bipush (pc := 405) dL_does_405 q_bipush_9 ?_
    refine ar_cl (pc := 407) dL_does_407 cal_X6_count kL_14 rfl rfl (an_count9 K) hz (lr_ia hR) rfl rfl rfl rfl rfl rfl (Nat.le_of_ble_eq_true rfl) (Nat.le_of_ble_eq_true rfl) (fun z hz => ?_)
    refine ar_istore (pc := 410) dL_does_410 (Nat.le_of_ble_eq_true rfl) rfl ?_
    rcases Classical.em (rfP (vRo v) (lo_N W 12)) with hr | hr
    · refine ar_aload_n (i := 0) (pc := 412) dL_does_412 rfl rfl ?_
      refine ar_iload (pc := 413) dL_does_413 rfl ?_
      refine ar_iload (pc := 415) dL_does_415 rfl ?_
      refine ar_cl (pc := 417) dL_does_417 cal_X6_roof kL_65 rfl rfl (an_roofs hl 0 (Or.inl ⟨hr, rfl⟩)) hz (lr_ia hR) rfl rfl rfl rfl rfl rfl (Nat.le_of_ble_eq_true rfl) (Nat.le_of_ble_eq_true rfl) (fun z hz => ?_)
      refine ar_istore (pc := 420) dL_does_420 (Nat.le_of_ble_eq_true rfl) rfl ?_
      refine ar_iload (pc := 422) dL_does_422 rfl ?_
      refine ar_iload (pc := 424) dL_does_424 rfl ?_
      refine ar_ishr (pc := 426) dL_does_426 ?_
      refine ar_iconst (pc := 427) dL_does_427 q_iconst_1 ?_
      refine ar_iand (pc := 428) dL_does_428 ?_
      refine ar_hs (hr : (vRo v >>> (nI (lo_N W 12) &&& 31)) &&& 1 = 1) ?_
      refine ar_iload (pc := 429) dL_does_429 rfl ?_
      refine ar_if_eq (pc := 431) (tgt := 438) dL_does_431 (by decide) (fun c431 => ?_) (fun c431 => absurd rfl c431)
      refine ar_iconst (pc := 438) dL_does_438 q_iconst_0 ?_
      refine ar_icmp_ne (pc := 439) (tgt := 457) dL_does_439 (by decide) (fun c439 => ?_) (fun c439 => absurd c439 (by decide))
      have K' : ok_D (uRo v (vRo v ^^^ (1 <<< (nI (lo_N W 12) &&& 31)))) n := ok_roof K hl
      refine ar_iload (pc := 457) dL_does_457 rfl ?_
      refine ar_iconst (pc := 459) dL_does_459 q_iconst_m1 ?_
      refine ar_icmp_le (pc := 460) (tgt := 483) dL_does_460 (by decide) (fun c460 => absurd c460 (bitc_nn (ro_x K.2.2.2.2.1 hl))) (fun c460 => ?_)
      refine ar_aload_n (i := 0) (pc := 463) dL_does_463 rfl rfl ?_
      refine ar_bipush (pc := 464) dL_does_464 q_bipush_9 ?_
      refine ar_cl (pc := 466) dL_does_466 cal_X6_count kL_14 rfl rfl (an_count9 K') hz (lr_ia hR) rfl rfl rfl rfl rfl rfl (Nat.le_of_ble_eq_true rfl) (Nat.le_of_ble_eq_true rfl) (fun z hz => ?_)
      refine ar_iload (pc := 469) dL_does_469 rfl ?_
      refine ar_iconst (pc := 471) dL_does_471 q_iconst_1 ?_
      refine ar_iload (pc := 472) dL_does_472 rfl ?_
      refine ar_ishl (pc := 474) dL_does_474 ?_
      refine ar_ixor (pc := 475) dL_does_475 ?_
      refine ar_icmp_ne (pc := 476) (tgt := 483) dL_does_476 (by decide) (fun c476 => absurd rfl c476) (fun c476 => ?_)
      refine ar_iconst (pc := 479) dL_does_479 q_iconst_1 ?_
      refine ar_goto (tgt := 484) (pc := 480) dL_does_480 (by decide) ?_
      exact ar_zret (pc := 484) dL_does_484 rfl (Or.inr rfl) rfl rfl ⟨rfl, z, g, (uRo v (vRo v ^^^ (1 <<< (nI (lo_N W 12) &&& 31)))), in_mk K' (mo_cg M rfl rfl rfl rfl rfl) (by omega), hz, rfl⟩
    · refine ar_aload_n (i := 0) (pc := 412) dL_does_412 rfl rfl ?_
      refine ar_iload (pc := 413) dL_does_413 rfl ?_
      refine ar_iload (pc := 415) dL_does_415 rfl ?_
      refine ar_cl (pc := 417) dL_does_417 cal_X6_roof kL_65 rfl rfl (an_rooft hl 0 (Or.inr ⟨hr, rfl⟩)) hz (lr_ia hR) rfl rfl rfl rfl rfl rfl (Nat.le_of_ble_eq_true rfl) (Nat.le_of_ble_eq_true rfl) (fun z hz => ?_)
      refine ar_istore (pc := 420) dL_does_420 (Nat.le_of_ble_eq_true rfl) rfl ?_
      refine ar_iload (pc := 422) dL_does_422 rfl ?_
      refine ar_iload (pc := 424) dL_does_424 rfl ?_
      refine ar_ishr (pc := 426) dL_does_426 ?_
      refine ar_iconst (pc := 427) dL_does_427 q_iconst_1 ?_
      refine ar_iand (pc := 428) dL_does_428 ?_
      refine ar_hs (rf_0 hr) ?_
      refine ar_iload (pc := 429) dL_does_429 rfl ?_
      refine ar_if_eq (pc := 431) (tgt := 438) dL_does_431 (by decide) (fun c431 => ?_) (fun c431 => absurd rfl c431)
      refine ar_iconst (pc := 438) dL_does_438 q_iconst_0 ?_
      refine ar_icmp_ne (pc := 439) (tgt := 457) dL_does_439 (by decide) (fun c439 => absurd rfl c439) (fun c439 => ?_)
      refine ar_iload (pc := 442) dL_does_442 rfl ?_
      refine ar_bipush (pc := 444) dL_does_444 q_bipush_m5 ?_
      refine ar_icmp_ne (pc := 446) (tgt := 453) dL_does_446 (by decide) (fun c446 => absurd rfl c446) (fun c446 => ?_)
      refine ar_iconst (pc := 449) dL_does_449 q_iconst_1 ?_
      refine ar_goto (tgt := 484) (pc := 450) dL_does_450 (by decide) ?_
      exact ar_zret (pc := 484) dL_does_484 rfl (Or.inr rfl) rfl rfl ⟨rfl, z, g, v, in_mk K M (by omega), hz, rfl⟩
  · refine ar_iconst (pc := 397) dL_does_397 q_iconst_1 ?_
    refine ar_goto (tgt := 402) (pc := 398) dL_does_398 (by decide) ?_
    refine ar_istore (pc := 402) dL_does_402 (Nat.le_of_ble_eq_true rfl) rfl ?_
    refine ar_aload_n (i := 0) (pc := 404) dL_does_404 rfl rfl ?_
    refine ar_bipush (pc := 405) dL_does_405 q_bipush_9 ?_
    refine ar_cl (pc := 407) dL_does_407 cal_X6_count kL_14 rfl rfl (an_count9 K) hz (lr_ia hR) rfl rfl rfl rfl rfl rfl (Nat.le_of_ble_eq_true rfl) (Nat.le_of_ble_eq_true rfl) (fun z hz => ?_)
    refine ar_istore (pc := 410) dL_does_410 (Nat.le_of_ble_eq_true rfl) rfl ?_
    rcases Classical.em (rfP (vRo v) (lo_N W 12)) with hr | hr
    · refine ar_aload_n (i := 0) (pc := 412) dL_does_412 rfl rfl ?_
      refine ar_iload (pc := 413) dL_does_413 rfl ?_
      refine ar_iload (pc := 415) dL_does_415 rfl ?_
      refine ar_cl (pc := 417) dL_does_417 cal_X6_roof kL_65 rfl rfl (an_rooft hl 1 (Or.inl ⟨hr, rfl⟩)) hz (lr_ia hR) rfl rfl rfl rfl rfl rfl (Nat.le_of_ble_eq_true rfl) (Nat.le_of_ble_eq_true rfl) (fun z hz => ?_)
      refine ar_istore (pc := 420) dL_does_420 (Nat.le_of_ble_eq_true rfl) rfl ?_
      refine ar_iload (pc := 422) dL_does_422 rfl ?_
      refine ar_iload (pc := 424) dL_does_424 rfl ?_
      refine ar_ishr (pc := 426) dL_does_426 ?_
      refine ar_iconst (pc := 427) dL_does_427 q_iconst_1 ?_
      refine ar_iand (pc := 428) dL_does_428 ?_
      refine ar_hs (hr : (vRo v >>> (nI (lo_N W 12) &&& 31)) &&& 1 = 1) ?_
      refine ar_iload (pc := 429) dL_does_429 rfl ?_
      refine ar_if_eq (pc := 431) (tgt := 438) dL_does_431 (by decide) (fun c431 => absurd c431 (by decide)) (fun c431 => ?_)
      refine ar_iconst (pc := 434) dL_does_434 q_iconst_1 ?_
      refine ar_goto (tgt := 439) (pc := 435) dL_does_435 (by decide) ?_
      refine ar_icmp_ne (pc := 439) (tgt := 457) dL_does_439 (by decide) (fun c439 => absurd rfl c439) (fun c439 => ?_)
      refine ar_iload (pc := 442) dL_does_442 rfl ?_
      refine ar_bipush (pc := 444) dL_does_444 q_bipush_m5 ?_
      refine ar_icmp_ne (pc := 446) (tgt := 453) dL_does_446 (by decide) (fun c446 => absurd rfl c446) (fun c446 => ?_)
      refine ar_iconst (pc := 449) dL_does_449 q_iconst_1 ?_
      refine ar_goto (tgt := 484) (pc := 450) dL_does_450 (by decide) ?_
      exact ar_zret (pc := 484) dL_does_484 rfl (Or.inr rfl) rfl rfl ⟨rfl, z, g, v, in_mk K M (by omega), hz, rfl⟩
    · refine ar_aload_n (i := 0) (pc := 412) dL_does_412 rfl rfl ?_
      refine ar_iload (pc := 413) dL_does_413 rfl ?_
      refine ar_iload (pc := 415) dL_does_415 rfl ?_
      refine ar_cl (pc := 417) dL_does_417 cal_X6_roof kL_65 rfl rfl (an_roofs hl 1 (Or.inr ⟨hr, rfl⟩)) hz (lr_ia hR) rfl rfl rfl rfl rfl rfl (Nat.le_of_ble_eq_true rfl) (Nat.le_of_ble_eq_true rfl) (fun z hz => ?_)
      refine ar_istore (pc := 420) dL_does_420 (Nat.le_of_ble_eq_true rfl) rfl ?_
      refine ar_iload (pc := 422) dL_does_422 rfl ?_
      refine ar_iload (pc := 424) dL_does_424 rfl ?_
      refine ar_ishr (pc := 426) dL_does_426 ?_
      refine ar_iconst (pc := 427) dL_does_427 q_iconst_1 ?_
      refine ar_iand (pc := 428) dL_does_428 ?_
      refine ar_hs (rf_0 hr) ?_
      refine ar_iload (pc := 429) dL_does_429 rfl ?_
      refine ar_if_eq (pc := 431) (tgt := 438) dL_does_431 (by decide) (fun c431 => absurd c431 (by decide)) (fun c431 => ?_)
      refine ar_iconst (pc := 434) dL_does_434 q_iconst_1 ?_
      refine ar_goto (tgt := 439) (pc := 435) dL_does_435 (by decide) ?_
      refine ar_icmp_ne (pc := 439) (tgt := 457) dL_does_439 (by decide) (fun c439 => ?_) (fun c439 => absurd c439 (by decide))
      have K' : ok_D (uRo v (vRo v ^^^ (1 <<< (nI (lo_N W 12) &&& 31)))) n := ok_roof K hl
      refine ar_iload (pc := 457) dL_does_457 rfl ?_
      refine ar_iconst (pc := 459) dL_does_459 q_iconst_m1 ?_
      refine ar_icmp_le (pc := 460) (tgt := 483) dL_does_460 (by decide) (fun c460 => absurd c460 (bitc_nn (ro_x K.2.2.2.2.1 hl))) (fun c460 => ?_)
      refine ar_aload_n (i := 0) (pc := 463) dL_does_463 rfl rfl ?_
      refine ar_bipush (pc := 464) dL_does_464 q_bipush_9 ?_
      refine ar_cl (pc := 466) dL_does_466 cal_X6_count kL_14 rfl rfl (an_count9 K') hz (lr_ia hR) rfl rfl rfl rfl rfl rfl (Nat.le_of_ble_eq_true rfl) (Nat.le_of_ble_eq_true rfl) (fun z hz => ?_)
      refine ar_iload (pc := 469) dL_does_469 rfl ?_
      refine ar_iconst (pc := 471) dL_does_471 q_iconst_1 ?_
      refine ar_iload (pc := 472) dL_does_472 rfl ?_
      refine ar_ishl (pc := 474) dL_does_474 ?_
      refine ar_ixor (pc := 475) dL_does_475 ?_
      refine ar_icmp_ne (pc := 476) (tgt := 483) dL_does_476 (by decide) (fun c476 => absurd rfl c476) (fun c476 => ?_)
      refine ar_iconst (pc := 479) dL_does_479 q_iconst_1 ?_
      refine ar_goto (tgt := 484) (pc := 480) dL_does_480 (by decide) ?_
      exact ar_zret (pc := 484) dL_does_484 rfl (Or.inr rfl) rfl rfl ⟨rfl, z, g, (uRo v (vRo v ^^^ (1 <<< (nI (lo_N W 12) &&& 31)))), in_mk K' (mo_cg M rfl rfl rfl rfl rfl) (by omega), hz, rfl⟩
set_option maxHeartbeats 4000000 in
set_option maxRecDepth 100000 in
theorem lL_does_485 {gg ff : Nat → Int32} (G : g0_D gg) {n d e : Nat} {v : SV} (K : ok_D v n) (M : mo_D v n d) (hde : d ≤ e) (he : e < 80) {h0 : am_H} {z0 : PV} {R : am_H} (hR : lr_H R) {g : Nat → Int32} {V W : Int32} {b : Nat} (hb : (n = 0 ∧ b = 0) ∨ b < n) (z : PV) (hz : lz_D 6 v z0 z) : am_RW mL_does h0 (do_P ff gg (e + 1) z0 R) 0 0 485 [some (.ref 2), some (.ref 98), some (.int V), some (.int W), some (.int (nI n)), some (.int (nI b)), none, none, none, none, none, none, none, none, none, none, none, none, none, none, none, none] [] (ppH false ff false gg z ++ (some (am_ia 8 g) :: R)) := by
  have h8 := K.2.1.1
  have hs := lo_lt (V >>> (4 &&& 31)) (show 0 < 6 by omega)
  refine ar_iload_n (i := 2) (pc := 485) dL_does_485 rfl rfl ?_
  refine ar_iconst (pc := 486) dL_does_486 q_iconst_4 ?_
  refine ar_ishr (pc := 487) dL_does_487 ?_
  refine ar_bipush (pc := 488) dL_does_488 q_bipush_6 ?_
  refine ar_low (pc := 490) (m := 6) dL_does_490 kL_56 rfl rfl (by omega) (by omega) (lr_ia hR) rfl rfl rfl rfl (Nat.le_of_ble_eq_true rfl) (Nat.le_of_ble_eq_true rfl) ?_
  refine ar_istore (pc := 493) dL_does_493 (Nat.le_of_ble_eq_true rfl) rfl ?_
  refine ar_iload (pc := 495) dL_does_495 rfl ?_
  refine ar_iconst (pc := 497) dL_does_497 q_iconst_2 ?_
  refine ar_icmp_ge (pc := 498) (tgt := 511) dL_does_498 (by decide) (fun c498 => ?_) (fun c498 => ?_)
  · refine ar_iload (pc := 511) dL_does_511 rfl ?_
    refine ar_iconst (pc := 513) dL_does_513 q_iconst_4 ?_
    refine ar_icmp_ne (pc := 514) (tgt := 526) dL_does_514 (by decide) (fun c514 => ?_) (fun c514 => ?_)
    · refine ar_iload_n (i := 3) (pc := 526) dL_does_526 rfl rfl ?_
      refine ar_bipush (pc := 527) dL_does_527 q_bipush_101 ?_
      refine ar_low (pc := 529) (m := 101) dL_does_529 kL_56 rfl rfl (by omega) (by omega) (lr_ia hR) rfl rfl rfl rfl (Nat.le_of_ble_eq_true rfl) (Nat.le_of_ble_eq_true rfl) ?_
      have hv : nI (lo_N W 101) ≤ mo_I (lo_N (V >>> (4 &&& 31)) 6) := by
        have := lo_lt W (show 0 < 101 by omega)
        have e2 : ¬ (lo_N (V >>> (4 &&& 31)) 6) < 2 := fun q => absurd c498 (nI_ge (b := 2) q (by omega))
        have e4 : ¬ (lo_N (V >>> (4 &&& 31)) 6) = 4 := fun q => c514 (by rw [q]; rfl)
        rw [mo_I, if_neg e2, if_neg e4]
        exact nI_le (b := 100) (by omega) (by omega)
      refine ar_istore (pc := 532) dL_does_532 (Nat.le_of_ble_eq_true rfl) rfl ?_
      refine ar_aload_n (i := 0) (pc := 534) dL_does_534 rfl rfl ?_
      refine ar_iload (pc := 535) dL_does_535 rfl ?_
      refine ar_cl (pc := 537) dL_does_537 cal_X6_count kL_14 rfl rfl (an_countk hs) hz (lr_ia hR) rfl rfl rfl rfl rfl rfl (Nat.le_of_ble_eq_true rfl) (Nat.le_of_ble_eq_true rfl) (fun z hz => ?_)
      refine ar_istore (pc := 540) dL_does_540 (Nat.le_of_ble_eq_true rfl) rfl ?_
      refine ar_aload_n (i := 0) (pc := 542) dL_does_542 rfl rfl ?_
      refine ar_iload (pc := 543) dL_does_543 rfl ?_
      refine ar_iload (pc := 545) dL_does_545 rfl ?_
      refine ar_cl (pc := 547) dL_does_547 cal_X6_set kL_69 rfl rfl (an_sets G hs hv (nI_pos' (by have := lo_lt W (show 0 < 101 by omega); omega))) hz (lr_ia hR) rfl rfl rfl rfl rfl rfl (Nat.le_of_ble_eq_true rfl) (Nat.le_of_ble_eq_true rfl) (fun z hz => ?_)
      refine ar_iload (pc := 550) dL_does_550 rfl ?_
      refine ar_icmp_ne (pc := 552) (tgt := 570) dL_does_552 (by decide) (fun c552 => absurd rfl c552) (fun c552 => ?_)
      refine ar_aload_n (i := 0) (pc := 555) dL_does_555 rfl rfl ?_
      refine ar_iload (pc := 556) dL_does_556 rfl ?_
      refine ar_cl (pc := 558) dL_does_558 cal_X6_count kL_14 rfl rfl (an_countk hs) hz (lr_ia hR) rfl rfl rfl rfl rfl rfl (Nat.le_of_ble_eq_true rfl) (Nat.le_of_ble_eq_true rfl) (fun z hz => ?_)
      refine ar_hs (show vS (uS v (upd (vS v) (lo_N (V >>> (4 &&& 31)) 6) (nI (lo_N W 101)))) (lo_N (V >>> (4 &&& 31)) 6) = nI (lo_N W 101) from pk_us) ?_
      refine ar_iload (pc := 561) dL_does_561 rfl ?_
      refine ar_icmp_ne (pc := 563) (tgt := 570) dL_does_563 (by decide) (fun c563 => absurd rfl c563) (fun c563 => ?_)
      refine ar_iconst (pc := 566) dL_does_566 q_iconst_1 ?_
      refine ar_goto (tgt := 571) (pc := 567) dL_does_567 (by decide) ?_
      exact ar_zret (pc := 571) dL_does_571 rfl (Or.inr rfl) rfl rfl ⟨rfl, z, g, (uS v (upd (vS v) (lo_N (V >>> (4 &&& 31)) 6) (nI (lo_N W 101)))), in_mk (ok_set K hs (by rw [← ti_0]; exact Int32.le_iff_toInt_le.mp (nI_pos' (by have := lo_lt W (show 0 < 101 by omega); omega))) (by rw [← mo_T]; exact Int32.le_iff_toInt_le.mp hv)) (mo_cg M rfl rfl rfl rfl rfl) (by omega), hz, rfl⟩
    · refine ar_iload_n (i := 3) (pc := 517) dL_does_517 rfl rfl ?_
      refine ar_bipush (pc := 518) dL_does_518 q_bipush_6 ?_
      refine ar_low (pc := 520) (m := 6) dL_does_520 kL_56 rfl rfl (by omega) (by omega) (lr_ia hR) rfl rfl rfl rfl (Nat.le_of_ble_eq_true rfl) (Nat.le_of_ble_eq_true rfl) ?_
      refine ar_goto (tgt := 532) (pc := 523) dL_does_523 (by decide) ?_
      have hv : nI (lo_N W 6) ≤ mo_I (lo_N (V >>> (4 &&& 31)) 6) := by
        have := lo_lt W (show 0 < 6 by omega)
        have e4 : (lo_N (V >>> (4 &&& 31)) 6) = 4 := (nI_eq (b := 4) (by omega) (by omega)).mp c514
        rw [mo_I, e4, if_neg (by omega), if_pos rfl]
        exact nI_le (b := 5) (by omega) (by omega)
      refine ar_istore (pc := 532) dL_does_532 (Nat.le_of_ble_eq_true rfl) rfl ?_
      refine ar_aload_n (i := 0) (pc := 534) dL_does_534 rfl rfl ?_
      refine ar_iload (pc := 535) dL_does_535 rfl ?_
      refine ar_cl (pc := 537) dL_does_537 cal_X6_count kL_14 rfl rfl (an_countk hs) hz (lr_ia hR) rfl rfl rfl rfl rfl rfl (Nat.le_of_ble_eq_true rfl) (Nat.le_of_ble_eq_true rfl) (fun z hz => ?_)
      refine ar_istore (pc := 540) dL_does_540 (Nat.le_of_ble_eq_true rfl) rfl ?_
      refine ar_aload_n (i := 0) (pc := 542) dL_does_542 rfl rfl ?_
      refine ar_iload (pc := 543) dL_does_543 rfl ?_
      refine ar_iload (pc := 545) dL_does_545 rfl ?_
      refine ar_cl (pc := 547) dL_does_547 cal_X6_set kL_69 rfl rfl (an_sets G hs hv (nI_pos' (by have := lo_lt W (show 0 < 6 by omega); omega))) hz (lr_ia hR) rfl rfl rfl rfl rfl rfl (Nat.le_of_ble_eq_true rfl) (Nat.le_of_ble_eq_true rfl) (fun z hz => ?_)
      refine ar_iload (pc := 550) dL_does_550 rfl ?_
      refine ar_icmp_ne (pc := 552) (tgt := 570) dL_does_552 (by decide) (fun c552 => absurd rfl c552) (fun c552 => ?_)
      refine ar_aload_n (i := 0) (pc := 555) dL_does_555 rfl rfl ?_
      refine ar_iload (pc := 556) dL_does_556 rfl ?_
      refine ar_cl (pc := 558) dL_does_558 cal_X6_count kL_14 rfl rfl (an_countk hs) hz (lr_ia hR) rfl rfl rfl rfl rfl rfl (Nat.le_of_ble_eq_true rfl) (Nat.le_of_ble_eq_true rfl) (fun z hz => ?_)
      refine ar_hs (show vS (uS v (upd (vS v) (lo_N (V >>> (4 &&& 31)) 6) (nI (lo_N W 6)))) (lo_N (V >>> (4 &&& 31)) 6) = nI (lo_N W 6) from pk_us) ?_
      refine ar_iload (pc := 561) dL_does_561 rfl ?_
      refine ar_icmp_ne (pc := 563) (tgt := 570) dL_does_563 (by decide) (fun c563 => absurd rfl c563) (fun c563 => ?_)
      refine ar_iconst (pc := 566) dL_does_566 q_iconst_1 ?_
      refine ar_goto (tgt := 571) (pc := 567) dL_does_567 (by decide) ?_
      exact ar_zret (pc := 571) dL_does_571 rfl (Or.inr rfl) rfl rfl ⟨rfl, z, g, (uS v (upd (vS v) (lo_N (V >>> (4 &&& 31)) 6) (nI (lo_N W 6)))), in_mk (ok_set K hs (by rw [← ti_0]; exact Int32.le_iff_toInt_le.mp (nI_pos' (by have := lo_lt W (show 0 < 6 by omega); omega))) (by rw [← mo_T]; exact Int32.le_iff_toInt_le.mp hv)) (mo_cg M rfl rfl rfl rfl rfl) (by omega), hz, rfl⟩
  · refine ar_iload_n (i := 3) (pc := 501) dL_does_501 rfl rfl ?_
    refine ar_sipush (pc := 502) dL_does_502 q_sipush_1000 ?_
    refine ar_low (pc := 505) (m := 1000) dL_does_505 kL_56 rfl rfl (by omega) (by omega) (lr_ia hR) rfl rfl rfl rfl (Nat.le_of_ble_eq_true rfl) (Nat.le_of_ble_eq_true rfl) ?_
    refine ar_goto (tgt := 532) (pc := 508) dL_does_508 (by decide) ?_
    have hv : nI (lo_N W 1000) ≤ mo_I (lo_N (V >>> (4 &&& 31)) 6) := by
      have := lo_lt W (show 0 < 1000 by omega)
      rw [mo_I, if_pos (Classical.byContradiction fun q => c498 (nI_le (a := 2) (by omega) (by omega)))]
      exact nI_le (b := 999) (by omega) (by omega)
    refine ar_istore (pc := 532) dL_does_532 (Nat.le_of_ble_eq_true rfl) rfl ?_
    refine ar_aload_n (i := 0) (pc := 534) dL_does_534 rfl rfl ?_
    refine ar_iload (pc := 535) dL_does_535 rfl ?_
    refine ar_cl (pc := 537) dL_does_537 cal_X6_count kL_14 rfl rfl (an_countk hs) hz (lr_ia hR) rfl rfl rfl rfl rfl rfl (Nat.le_of_ble_eq_true rfl) (Nat.le_of_ble_eq_true rfl) (fun z hz => ?_)
    refine ar_istore (pc := 540) dL_does_540 (Nat.le_of_ble_eq_true rfl) rfl ?_
    refine ar_aload_n (i := 0) (pc := 542) dL_does_542 rfl rfl ?_
    refine ar_iload (pc := 543) dL_does_543 rfl ?_
    refine ar_iload (pc := 545) dL_does_545 rfl ?_
    refine ar_cl (pc := 547) dL_does_547 cal_X6_set kL_69 rfl rfl (an_sets G hs hv (nI_pos' (by have := lo_lt W (show 0 < 1000 by omega); omega))) hz (lr_ia hR) rfl rfl rfl rfl rfl rfl (Nat.le_of_ble_eq_true rfl) (Nat.le_of_ble_eq_true rfl) (fun z hz => ?_)
    refine ar_iload (pc := 550) dL_does_550 rfl ?_
    refine ar_icmp_ne (pc := 552) (tgt := 570) dL_does_552 (by decide) (fun c552 => absurd rfl c552) (fun c552 => ?_)
    refine ar_aload_n (i := 0) (pc := 555) dL_does_555 rfl rfl ?_
    refine ar_iload (pc := 556) dL_does_556 rfl ?_
    refine ar_cl (pc := 558) dL_does_558 cal_X6_count kL_14 rfl rfl (an_countk hs) hz (lr_ia hR) rfl rfl rfl rfl rfl rfl (Nat.le_of_ble_eq_true rfl) (Nat.le_of_ble_eq_true rfl) (fun z hz => ?_)
    refine ar_hs (show vS (uS v (upd (vS v) (lo_N (V >>> (4 &&& 31)) 6) (nI (lo_N W 1000)))) (lo_N (V >>> (4 &&& 31)) 6) = nI (lo_N W 1000) from pk_us) ?_
    refine ar_iload (pc := 561) dL_does_561 rfl ?_
    refine ar_icmp_ne (pc := 563) (tgt := 570) dL_does_563 (by decide) (fun c563 => absurd rfl c563) (fun c563 => ?_)
    refine ar_iconst (pc := 566) dL_does_566 q_iconst_1 ?_
    refine ar_goto (tgt := 571) (pc := 567) dL_does_567 (by decide) ?_
    exact ar_zret (pc := 571) dL_does_571 rfl (Or.inr rfl) rfl rfl ⟨rfl, z, g, (uS v (upd (vS v) (lo_N (V >>> (4 &&& 31)) 6) (nI (lo_N W 1000)))), in_mk (ok_set K hs (by rw [← ti_0]; exact Int32.le_iff_toInt_le.mp (nI_pos' (by have := lo_lt W (show 0 < 1000 by omega); omega))) (by rw [← mo_T]; exact Int32.le_iff_toInt_le.mp hv)) (mo_cg M rfl rfl rfl rfl rfl) (by omega), hz, rfl⟩
set_option maxHeartbeats 4000000 in
set_option maxRecDepth 100000 in
theorem lL_does_572 {gg ff : Nat → Int32} (G : g0_D gg) {n d e : Nat} {v : SV} (K : ok_D v n) (M : mo_D v n d) (hde : d ≤ e) (he : e < 80) {h0 : am_H} {z0 : PV} {R : am_H} (hR : lr_H R) {g : Nat → Int32} {V W : Int32} {b : Nat} (hb : (n = 0 ∧ b = 0) ∨ b < n) (z : PV) (hz : lz_D 6 v z0 z) : am_RW mL_does h0 (do_P ff gg (e + 1) z0 R) 0 0 572 [some (.ref 2), some (.ref 98), some (.int V), some (.int W), some (.int (nI n)), some (.int (nI b)), none, none, none, none, none, none, none, none, none, none, none, none, none, none, none, none] [] (ppH false ff false gg z ++ (some (am_ia 8 g) :: R)) := by
  have h8 := K.2.1.1
  have Y0 : 0 ≤ (nI (W.toBitVec.toNat % 2 ^ 31)).toInt := by
    rw [nI_toInt (Nat.mod_lt _ (by decide))]
    omega
  have K' : ok_D (uX v (nI (W.toBitVec.toNat % 2 ^ 31)).toInt64) n := ok_shuffle K Y0
  refine ar_aload_n (i := 0) (pc := 572) dL_does_572 rfl rfl ?_
  refine ar_bipush (pc := 573) dL_does_573 q_bipush_6 ?_
  refine ar_cl (pc := 575) dL_does_575 cal_X6_count kL_14 rfl rfl (an_count6 K) hz (lr_ia hR) rfl rfl rfl rfl rfl rfl (Nat.le_of_ble_eq_true rfl) (Nat.le_of_ble_eq_true rfl) (fun z hz => ?_)
  refine ar_istore (pc := 578) dL_does_578 (Nat.le_of_ble_eq_true rfl) rfl ?_
  refine ar_aload_n (i := 0) (pc := 580) dL_does_580 rfl rfl ?_
  refine ar_iload_n (i := 3) (pc := 581) dL_does_581 rfl rfl ?_
  refine ar_ldc (pc := 582) dL_does_582 cL_7 ?_
  refine ar_iand (pc := 584) dL_does_584 ?_
  refine ar_hs (an_31 W) ?_
  refine ar_cl (pc := 585) dL_does_585 cal_X6_shuffle kL_72 rfl rfl (an_shuf (Int32.le_iff_toInt_le.mpr (by rw [ti_0]; exact Y0))) hz (lr_ia hR) rfl rfl rfl rfl rfl rfl (Nat.le_of_ble_eq_true rfl) (Nat.le_of_ble_eq_true rfl) (fun z hz => ?_)
  refine ar_iload (pc := 588) dL_does_588 rfl ?_
  refine ar_icmp_ne (pc := 590) (tgt := 620) dL_does_590 (by decide) (fun c590 => absurd rfl c590) (fun c590 => ?_)
  refine ar_aload_n (i := 0) (pc := 593) dL_does_593 rfl rfl ?_
  refine ar_bipush (pc := 594) dL_does_594 q_bipush_6 ?_
  refine ar_cl (pc := 596) dL_does_596 cal_X6_count kL_14 rfl rfl (an_count6 K') hz (lr_ia hR) rfl rfl rfl rfl rfl rfl (Nat.le_of_ble_eq_true rfl) (Nat.le_of_ble_eq_true rfl) (fun z hz => ?_)
  refine ar_hs (show (vX (uX v (nI (W.toBitVec.toNat % 2 ^ 31)).toInt64)).toInt32 = (nI (W.toBitVec.toNat % 2 ^ 31)) from (x_of Y0).choose_spec.2.2.2) ?_
  refine ar_iload_n (i := 3) (pc := 599) dL_does_599 rfl rfl ?_
  refine ar_ldc (pc := 600) dL_does_600 cL_7 ?_
  refine ar_iand (pc := 602) dL_does_602 ?_
  refine ar_hs (an_31 W) ?_
  refine ar_icmp_ne (pc := 603) (tgt := 620) dL_does_603 (by decide) (fun c603 => absurd rfl c603) (fun c603 => ?_)
  refine ar_aload_n (i := 0) (pc := 606) dL_does_606 rfl rfl ?_
  refine ar_iconst (pc := 607) dL_does_607 q_iconst_m1 ?_
  refine ar_cl (pc := 608) dL_does_608 cal_X6_shuffle kL_72 rfl rfl (an_shuo) hz (lr_ia hR) rfl rfl rfl rfl rfl rfl (Nat.le_of_ble_eq_true rfl) (Nat.le_of_ble_eq_true rfl) (fun z hz => ?_)
  refine ar_bipush (pc := 611) dL_does_611 q_bipush_m2 ?_
  refine ar_icmp_ne (pc := 613) (tgt := 620) dL_does_613 (by decide) (fun c613 => absurd rfl c613) (fun c613 => ?_)
  refine ar_iconst (pc := 616) dL_does_616 q_iconst_1 ?_
  refine ar_goto (tgt := 621) (pc := 617) dL_does_617 (by decide) ?_
  exact ar_zret (pc := 621) dL_does_621 rfl (Or.inr rfl) rfl rfl ⟨rfl, z, g, (uX v (nI (W.toBitVec.toNat % 2 ^ 31)).toInt64), in_mk K' (mo_cg M rfl rfl rfl rfl rfl) (by omega), hz, rfl⟩
set_option maxHeartbeats 4000000 in
set_option maxRecDepth 100000 in
theorem lL_does_622 {gg ff : Nat → Int32} (G : g0_D gg) {n d e : Nat} {v : SV} (K : ok_D v n) (M : mo_D v n d) (hde : d ≤ e) (he : e < 80) {h0 : am_H} {z0 : PV} {R : am_H} (hR : lr_H R) {g : Nat → Int32} {V W : Int32} {b : Nat} (hb : (n = 0 ∧ b = 0) ∨ b < n) (z : PV) (hz : lz_D 6 v z0 z) : am_RW mL_does h0 (do_P ff gg (e + 1) z0 R) 0 0 622 [some (.ref 2), some (.ref 98), some (.int V), some (.int W), some (.int (nI n)), some (.int (nI b)), none, none, none, none, none, none, none, none, none, none, none, none, none, none, none, none] [] (ppH false ff false gg z ++ (some (am_ia 8 g) :: R)) := by
  have h8 := K.2.1.1
  rcases hb with ⟨rfl, rfl⟩ | hb
  · refine ar_iload (pc := 622) dL_does_622 rfl ?_
    refine ar_if_eq (pc := 624) (tgt := 636) dL_does_624 (by decide) (fun c624 => ?_) (fun c624 => absurd rfl c624)
    refine ar_iconst (pc := 636) dL_does_636 q_iconst_1 ?_
    refine ar_goto (tgt := 641) (pc := 637) dL_does_637 (by decide) ?_
    exact ar_zret (pc := 641) dL_does_641 rfl (Or.inr rfl) rfl rfl ⟨rfl, z, g, v, in_mk K M (by omega), hz, rfl⟩
  · refine ar_iload (pc := 622) dL_does_622 rfl ?_
    refine ar_if_eq (pc := 624) (tgt := 636) dL_does_624 (by decide) (fun c624 => absurd c624 (nI_ne0 (by omega) (by omega))) (fun c624 => ?_)
    refine ar_aload_n (i := 0) (pc := 627) dL_does_627 rfl rfl ?_
    refine ar_iload (pc := 628) dL_does_628 rfl ?_
    refine ar_ln (pc := 630) dL_does_630 cal_L_isBest kL_75 rfl (sL_best K hb) hz (lr_ia hR) rfl rfl rfl rfl rfl rfl (Nat.le_of_ble_eq_true rfl) (Nat.le_of_ble_eq_true rfl) (fun z hz => ?_)
    refine ar_if_eq (pc := 633) (tgt := 640) dL_does_633 (by decide) (fun c633 => absurd c633 (by decide)) (fun c633 => ?_)
    refine ar_iconst (pc := 636) dL_does_636 q_iconst_1 ?_
    refine ar_goto (tgt := 641) (pc := 637) dL_does_637 (by decide) ?_
    exact ar_zret (pc := 641) dL_does_641 rfl (Or.inr rfl) rfl rfl ⟨rfl, z, g, v, in_mk K M (by omega), hz, rfl⟩
theorem pmo_ia (g g1 : Nat → Int32) (R : am_H) : pmo (some (am_ia 8 g) :: R) (some (am_ia 8 g1) :: R) := by
  refine ⟨rfl, fun j c e => ?_⟩
  match j, e with
  | 0, e => cases e; exact ⟨_, rfl, rfl⟩
  | j + 1, e => exact ⟨c, e, rfl⟩
set_option maxHeartbeats 4000000 in
set_option maxRecDepth 100000 in
theorem lL_does_642 {gg ff : Nat → Int32} (G : g0_D gg) {n d e : Nat} {v : SV} (K : ok_D v n) (M : mo_D v n d) (hde : d ≤ e) (he : e < 80) {h0 : am_H} {z0 : PV} {R : am_H} (hR : lr_H R) {g : Nat → Int32} {V W : Int32} {b : Nat} (hb : (n = 0 ∧ b = 0) ∨ b < n) (z : PV) (hz : lz_D 6 v z0 z) : am_RW mL_does h0 (do_P ff gg (e + 1) z0 R) 0 0 642 [some (.ref 2), some (.ref 98), some (.int V), some (.int W), some (.int (nI n)), some (.int (nI b)), none, none, none, none, none, none, none, none, none, none, none, none, none, none, none, none] [] (ppH false ff false gg z ++ (some (am_ia 8 g) :: R)) := by
  have h8 := K.2.1.1
  have K' : ok_D (dyV v n) n := ok_play K (by have := da_80 M; omega)
  refine ar_aload_n (i := 0) (pc := 642) dL_does_642 rfl rfl ?_
  refine ar_bipush (pc := 643) dL_does_643 q_bipush_12 ?_
  refine ar_cl (pc := 645) dL_does_645 cal_X6_count kL_14 rfl rfl (an_count12 K) hz (lr_ia hR) rfl rfl rfl rfl rfl rfl (Nat.le_of_ble_eq_true rfl) (Nat.le_of_ble_eq_true rfl) (fun z hz => ?_)
  refine ar_sipush (pc := 648) dL_does_648 q_sipush_9990 ?_
  refine ar_icmp_gt (pc := 651) (tgt := 662) dL_does_651 (by decide) (fun c651 => absurd c651 (by rw [Int32.lt_iff_toInt_lt]; have := da_80 M; rw [show (9990 : Int32).toInt = 9990 by decide]; omega)) (fun c651 => ?_)
  refine ar_aload_n (i := 0) (pc := 654) dL_does_654 rfl rfl ?_
  refine ar_aload_n (i := 1) (pc := 655) dL_does_655 rfl rfl ?_
  refine ar_ow (pc := 656) dL_does_656 cal_L_isDay kL_79 rfl (sL_day K M hz.1 hR) (lr_ia hR) rfl rfl rfl rfl rfl rfl (Nat.le_of_ble_eq_true rfl) (Nat.le_of_ble_eq_true rfl) (fun r h1 hp => ?_)
  obtain ⟨rfl, z1, g1, hz1, rfl⟩ := hp
  refine ⟨pmo_app (pmo_pp hz1.2) (pmo_ia g g1 R), ?_⟩
  refine ar_if_eq (pc := 659) (tgt := 666) dL_does_659 (by decide) (fun c659 => absurd c659 (by decide)) (fun c659 => ?_)
  refine ar_iconst (pc := 662) dL_does_662 q_iconst_1 ?_
  refine ar_goto (tgt := 667) (pc := 663) dL_does_663 (by decide) ?_
  exact ar_zret (pc := 667) dL_does_667 rfl (Or.inr rfl) rfl rfl ⟨rfl, z1, g1, dyV v n, in_mk K' (mo_day K K' M (by omega)) (by omega), ⟨hz1.1, pmZ_tr hz.2 hz1.2⟩, rfl⟩
set_option maxHeartbeats 4000000 in
set_option maxRecDepth 100000 in
theorem lL_does_33 {gg ff : Nat → Int32} (G : g0_D gg) {n d e : Nat} {v : SV} (K : ok_D v n) (M : mo_D v n d) (hde : d ≤ e) (he : e < 80) {h0 : am_H} {z0 : PV} {R : am_H} (hR : lr_H R) {g : Nat → Int32} {V W : Int32} {b : Nat} (hb : (n = 0 ∧ b = 0) ∨ b < n) (z : PV) (hz : lz_D 6 v z0 z) {c : Nat} (hc : c < 16) : am_RW mL_does h0 (do_P ff gg (e + 1) z0 R) 0 0 33 [some (.ref 2), some (.ref 98), some (.int V), some (.int W), some (.int (nI n)), some (.int (nI b)), none, none, none, none, none, none, none, none, none, none, none, none, none, none, none, none] [.int (nI c)] (ppH false ff false gg z ++ (some (am_ia 8 g) :: R)) := by
  rcases (show c = 0 ∨ c = 1 ∨ c = 2 ∨ c = 3 ∨ c = 4 ∨ c = 5 ∨ c = 6 ∨ c = 7 ∨ c = 8 ∨ c = 9 ∨ c = 10 ∨ c = 11 ∨ c = 12 ∨ c = 13 ∨ c = 14 ∨ c = 15 by omega) with rfl | rfl | rfl | rfl | rfl | rfl | rfl | rfl | rfl | rfl | rfl | rfl | rfl | rfl | rfl | rfl
  · refine ar_tsIn (pc := 33) (tgt := 96) dL_does_33 (by decide +kernel) (by decide +kernel) (show _ = some 63 from by decide +kernel) (by decide) ?_
    exact lL_does_96 G K M hde he hR hb z hz
  · refine ar_tsIn (pc := 33) (tgt := 96) dL_does_33 (by decide +kernel) (by decide +kernel) (show _ = some 63 from by decide +kernel) (by decide) ?_
    exact lL_does_96 G K M hde he hR hb z hz
  · refine ar_tsIn (pc := 33) (tgt := 96) dL_does_33 (by decide +kernel) (by decide +kernel) (show _ = some 63 from by decide +kernel) (by decide) ?_
    exact lL_does_96 G K M hde he hR hb z hz
  · refine ar_tsIn (pc := 33) (tgt := 183) dL_does_33 (by decide +kernel) (by decide +kernel) (show _ = some 150 from by decide +kernel) (by decide) ?_
    exact lL_does_183 G K M hde he hR hb z hz
  · refine ar_tsIn (pc := 33) (tgt := 268) dL_does_33 (by decide +kernel) (by decide +kernel) (show _ = some 235 from by decide +kernel) (by decide) ?_
    exact lL_does_268 G K M hde he hR hb z hz
  · refine ar_tsIn (pc := 33) (tgt := 268) dL_does_33 (by decide +kernel) (by decide +kernel) (show _ = some 235 from by decide +kernel) (by decide) ?_
    exact lL_does_268 G K M hde he hR hb z hz
  · refine ar_tsIn (pc := 33) (tgt := 380) dL_does_33 (by decide +kernel) (by decide +kernel) (show _ = some 347 from by decide +kernel) (by decide) ?_
    exact lL_does_380 G K M hde he hR hb z hz
  · refine ar_tsIn (pc := 33) (tgt := 485) dL_does_33 (by decide +kernel) (by decide +kernel) (show _ = some 452 from by decide +kernel) (by decide) ?_
    exact lL_does_485 G K M hde he hR hb z hz
  · refine ar_tsIn (pc := 33) (tgt := 485) dL_does_33 (by decide +kernel) (by decide +kernel) (show _ = some 452 from by decide +kernel) (by decide) ?_
    exact lL_does_485 G K M hde he hR hb z hz
  · refine ar_tsIn (pc := 33) (tgt := 572) dL_does_33 (by decide +kernel) (by decide +kernel) (show _ = some 539 from by decide +kernel) (by decide) ?_
    exact lL_does_572 G K M hde he hR hb z hz
  · refine ar_tsIn (pc := 33) (tgt := 622) dL_does_33 (by decide +kernel) (by decide +kernel) (show _ = some 589 from by decide +kernel) (by decide) ?_
    exact lL_does_622 G K M hde he hR hb z hz
  · refine ar_tsIn (pc := 33) (tgt := 622) dL_does_33 (by decide +kernel) (by decide +kernel) (show _ = some 589 from by decide +kernel) (by decide) ?_
    exact lL_does_622 G K M hde he hR hb z hz
  · refine ar_tsOut (pc := 33) (tgt := 642) dL_does_33 (by decide +kernel) (by decide) ?_
    exact lL_does_642 G K M hde he hR hb z hz
  · refine ar_tsOut (pc := 33) (tgt := 642) dL_does_33 (by decide +kernel) (by decide) ?_
    exact lL_does_642 G K M hde he hR hb z hz
  · refine ar_tsOut (pc := 33) (tgt := 642) dL_does_33 (by decide +kernel) (by decide) ?_
    exact lL_does_642 G K M hde he hR hb z hz
  · refine ar_tsOut (pc := 33) (tgt := 642) dL_does_33 (by decide +kernel) (by decide) ?_
    exact lL_does_642 G K M hde he hR hb z hz

set_option maxHeartbeats 4000000 in
set_option maxRecDepth 100000 in
theorem sL_does {gg ff : Nat → Int32} (G : g0_D gg) {e : Nat} {v : SV} (I : in_D v e) (he : e < 80) {z : PV} {R : am_H} {g : Nat → Int32} (hz0 : la_D 6 v z) (hR : lr_H R) (V W : Int32) : am_Sp mL_does [.ref 2, .ref 98, .int V, .int W] (ppH false ff false gg z ++ (some (am_ia 8 g) :: R)) (do_P ff gg (e + 1) z R) := by
  refine am_intro (by decide) (Nat.le_of_ble_eq_true rfl) ?_
  have hz := lz_0 hz0
  obtain ⟨n, d, K, M, hde⟩ := I
  have h8 := K.2.1.1
  refine ar_aload_n (i := 0) (pc := 0) dL_does_0 rfl rfl ?_
  refine ar_bipush (pc := 1) dL_does_1 q_bipush_7 ?_
  refine ar_cl (pc := 3) dL_does_3 cal_X6_count kL_14 rfl rfl (an_count7 K) hz (lr_ia hR) rfl rfl rfl rfl rfl rfl (Nat.le_of_ble_eq_true rfl) (Nat.le_of_ble_eq_true rfl) (fun z hz => ?_)
  refine ar_istore (pc := 6) dL_does_6 (Nat.le_of_ble_eq_true rfl) rfl ?_
  rcases Nat.eq_zero_or_pos n with rfl | hn
  · refine ar_iload (pc := 8) dL_does_8 rfl ?_
    refine ar_if_ne (pc := 10) (tgt := 17) dL_does_10 (by decide) (fun c10 => absurd rfl c10) (fun c10 => ?_)
    refine ar_iconst (pc := 13) dL_does_13 q_iconst_0 ?_
    refine ar_goto (tgt := 25) (pc := 14) dL_does_14 (by decide) ?_
    refine ar_istore (pc := 25) dL_does_25 (Nat.le_of_ble_eq_true rfl) rfl ?_
    refine ar_iload_n (i := 2) (pc := 27) dL_does_27 rfl rfl ?_
    refine ar_bipush (pc := 28) dL_does_28 q_bipush_16 ?_
    refine ar_low (pc := 30) (m := 16) dL_does_30 kL_56 rfl rfl (by omega) (by omega) (lr_ia hR) rfl rfl rfl rfl (Nat.le_of_ble_eq_true rfl) (Nat.le_of_ble_eq_true rfl) ?_
    refine ar_fg ?_ (lL_does_33 (V := V) (W := W) G K M hde he hR (Or.inl ⟨rfl, rfl⟩) z hz (lo_lt V (show 0 < 16 by omega)))
    exact ⟨rfl, rfl, rfl, rfl, rfl, rfl, trivial⟩
  · refine ar_iload (pc := 8) dL_does_8 rfl ?_
    refine ar_if_ne (pc := 10) (tgt := 17) dL_does_10 (by decide) (fun c10 => ?_) (fun c10 => absurd c10 (nI_ne0 hn (by omega)))
    refine ar_iload_n (i := 2) (pc := 17) dL_does_17 rfl rfl ?_
    refine ar_iconst (pc := 18) dL_does_18 q_iconst_4 ?_
    refine ar_ishr (pc := 19) dL_does_19 ?_
    refine ar_iload (pc := 20) dL_does_20 rfl ?_
    refine ar_low (pc := 22) (m := n) dL_does_22 kL_56 rfl rfl hn (by omega) (lr_ia hR) rfl rfl rfl rfl (Nat.le_of_ble_eq_true rfl) (Nat.le_of_ble_eq_true rfl) ?_
    refine ar_istore (pc := 25) dL_does_25 (Nat.le_of_ble_eq_true rfl) rfl ?_
    refine ar_iload_n (i := 2) (pc := 27) dL_does_27 rfl rfl ?_
    refine ar_bipush (pc := 28) dL_does_28 q_bipush_16 ?_
    refine ar_low (pc := 30) (m := 16) dL_does_30 kL_56 rfl rfl (by omega) (by omega) (lr_ia hR) rfl rfl rfl rfl (Nat.le_of_ble_eq_true rfl) (Nat.le_of_ble_eq_true rfl) ?_
    refine ar_fg ?_ (lL_does_33 (V := V) (W := W) G K M hde he hR (Or.inr (lo_lt (V >>> (4 &&& 31)) hn)) z hz (lo_lt V (show 0 < 16 by omega)))
    exact ⟨rfl, rfl, rfl, rfl, rfl, rfl, trivial⟩
