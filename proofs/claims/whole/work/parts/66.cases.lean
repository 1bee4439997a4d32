/-! the law: one call of each -/
def lwT (N : Nat) (f : Nat → Int32) : am_H := [some (.inr (.inl (.int, false, N, f)))]
def lwR (N : Nat) (f : Nat → Int32) (q : RV) : am_H := mdL q ++ lwT N f
theorem lw_scr (N : Nat) (f : Nat → Int32) (ff gg : Nat → Int32) (z : PV) (q : RV) : (ppH false ff false gg z ++ lwR N f q)[105]? = some (some (.inr (.inl (.int, false, N, f)))) := by
  rw [show (105 : Nat) = 7 + 98 from rfl, ap_98 (ppH_len ..)]
  rfl
theorem lw_frR (N : Nat) (f : Nat → Int32) (q : RV) : ∀ j, 34 ≤ j → j < 98 → frH j (lwR N f q) = true := by
  intro j h1 h2
  refine frH_cons j _ _ ?_ rfl
  show j ∉ [99, 100, 101, 102, 103, 104]
  simp
  omega
theorem lw_frL (v : Value) (hv : am_vr v = []) : ∀ j, 34 ≤ j → j < 98 → frL j [some (.ref 105), some (.ref 2), some (.ref 98), some v] [] = true := by
  intro j h1 h2
  show ((!([105] : List Nat).contains j) && ((!([2] : List Nat).contains j) && ((!([98] : List Nat).contains j) && ((!(am_vr v).contains j) && true))) && true) = true
  rw [hv]
  simp
  omega
theorem bu_1 {kc i a m : Nat} (h : kc ≤ 39 + 8 * i) (hi : i ≤ 520) (ha : a ≤ 8) (hm : m = 600000) : kc + a ≤ m := by omega
theorem bu_2 {kc i a b m : Nat} (h : kc ≤ 39 + 8 * i) (hi : i ≤ 520) (ha : a ≤ 8) (hb : b = 0) (hm : m = 600000) : kc + a + b ≤ m := by omega
theorem bu_3 {kc i a b : Nat} (h : kc ≤ 39 + 8 * i) (ha : a ≤ 8) (hb : b = 0) : kc + a + b ≤ 39 + 8 * (i + 1) := by omega
theorem bv_1 {kc i a m : Nat} (h : kc ≤ 991 + 67 * i) (hi : i ≤ 520) (ha : a ≤ 67) (hm : m = 7302250) : kc + a ≤ m := by omega
theorem bv_2 {kc i a b m : Nat} (h : kc ≤ 991 + 67 * i) (hi : i ≤ 520) (ha : a ≤ 67) (hb : b = 0) (hm : m = 7302250) : kc + a + b ≤ m := by omega
theorem bv_3 {kc i a b : Nat} (h : kc ≤ 991 + 67 * i) (ha : a ≤ 67) (hb : b = 0) : kc + a + b ≤ 991 + 67 * (i + 1) := by omega
theorem ar_arg {h0 : am_H} {P : Option Value → am_H → Prop} {kc ks pc : Nat} {L : List (Option Value)} {S : List Value} {h : am_H} {N j k : Nat} {f : Nat → Int32} {kk : Int} (d0 : decode (am_b mL_law) pc = .ok (.aload_n 0, 1)) (d1 : decode (am_b mL_law) (pc + 1) = .ok (.iload_n 3, 1)) (d2 : decode (am_b mL_law) (pc + 1 + 1) = .ok (.iconst kk, 1)) (d3 : decode (am_b mL_law) (pc + 1 + 1 + 1) = .ok (.iadd, 1)) (d4 : decode (am_b mL_law) (pc + 1 + 1 + 1 + 1) = .ok (.iaload, 1)) (hL0 : L[0]? = some (some (.ref 105))) (hL3 : L[3]? = some (some (.int (nI j)))) (hs : h[105]? = some (some (.inr (.inl (.int, false, N, f))))) (hk : Int32.ofInt kk = nI k) (hj : j + k < N) (K : am_RW mL_law h0 P kc ks (pc + 5) L (.int (f (j + k)) :: S) h) : am_RW mL_law h0 P kc ks pc L S h := by
  refine ar_aload_n (i := 0) d0 rfl hL0 ?_
  refine ar_iload_n (i := 3) d1 rfl hL3 ?_
  refine ar_iconst d2 hk ?_
  refine ar_iadd d3 ?_
  exact ar_iald d4 hs hj (nI_add j k) K
abbrev lwP : Option Value → am_H → Prop := fun r _ => r = some (.int 1)
abbrev lwL (i : Nat) : List (Option Value) := [some (.ref 105), some (.ref 2), some (.ref 98), some (.int (nI (4 * i)))]
/-- at pc, in the turn i, all being well so far -/
def lwK (h0 : am_H) (N : Nat) (f : Nat → Int32) (ff gg : Nat → Int32) (pc i k : Nat) : Prop := ∀ (z : PV) (q : RV) (kc ks : Nat), mr_R z q → kc ≤ 39 + 8 * k → ks ≤ 991 + 67 * k → am_RW mL_law h0 lwP kc ks pc (lwL i) [] (ppH false ff false gg z ++ lwR N f q)
set_option maxHeartbeats 4000000 in
set_option maxRecDepth 100000 in
theorem law_144 {h0 : am_H} {N : Nat} {f : Nat → Int32} {ff gg : Nat → Int32} (G : g0_D gg) {i : Nat} (hN : 4 * i + 4 ≤ N) (hi : i ≤ 520) (K : lwK h0 N f ff gg 792 i (i + 1)) : lwK h0 N f ff gg 144 i i := by
  intro z q kc ks M hc hk
  obtain ⟨x, z1, c6, c7, pm⟩ := pr_set ff M G (f (4 * i + 1)) (f (4 * i + 2))
  refine ar_aload_n (i := 1) (pc := 144) dL_law_144 rfl rfl ?_
  refine ar_arg (pc := 145) (k := 1) dL_law_145 dL_law_146 dL_law_147 dL_law_148 dL_law_149 rfl rfl (lw_scr N f ff gg z q) rfl (by omega) ?_
  refine ar_arg (pc := 150) (k := 2) dL_law_150 dL_law_151 dL_law_152 dL_law_153 dL_law_154 rfl rfl (lw_scr N f ff gg z q) rfl (by omega) ?_
  refine ar_cls (pc := 155) dL_law_155 cal_X6_set kL_13 rfl rfl c6 pm rfl rfl rfl (lw_frL _ rfl) (lw_frR N f q) (bu_1 hc hi (Nat.le_of_ble_eq_true rfl) rfl) (bv_1 hk hi (Nat.le_of_ble_eq_true rfl) rfl) (fun z2 e => ?_)
  refine ar_aload_n (i := 2) (pc := 158) dL_law_158 rfl rfl ?_
  refine ar_arg (pc := 159) (k := 1) dL_law_159 dL_law_160 dL_law_161 dL_law_162 dL_law_163 rfl rfl (lw_scr N f ff gg z2 q) rfl (by omega) ?_
  refine ar_arg (pc := 164) (k := 2) dL_law_164 dL_law_165 dL_law_166 dL_law_167 dL_law_168 rfl rfl (lw_scr N f ff gg z2 q) rfl (by omega) ?_
  refine ar_mod (pc := 169) (T := lwT N f) dL_law_169 cal_X7_set kL_17 rfl rfl c7 (ppH_len ..) rfl rfl rfl (bu_2 hc hi (Nat.le_of_ble_eq_true rfl) rfl rfl) (bv_2 hk hi (Nat.le_of_ble_eq_true rfl) rfl rfl) (fun q2 M2 => ?_)
  refine ar_icmp_eq (pc := 172) (tgt := 792) dL_law_172 (by decide) (fun _ => ?_) (fun c => absurd rfl c)
  exact K z2 q2 _ _ (mr_eq e M2) (bu_3 hc (Nat.le_of_ble_eq_true rfl) rfl) (bv_3 hk (Nat.le_of_ble_eq_true rfl) rfl)
set_option maxHeartbeats 4000000 in
set_option maxRecDepth 100000 in
theorem law_177z {h0 : am_H} {N : Nat} {f : Nat → Int32} {ff gg : Nat → Int32} (G : g0_D gg) {i : Nat} (hN : 4 * i + 4 ≤ N) (hi : i ≤ 520) (K : lwK h0 N f ff gg 792 i (i + 1)) (hr : f (4 * i + 2) = 0) : lwK h0 N f ff gg 177 i i := by
  intro z q kc ks M hc hk
  obtain ⟨x, z1, c6, c7, pm⟩ := pr_roof ff M G (f (4 * i + 1)) 0 (by decide)
  refine ar_aload_n (i := 1) (pc := 177) dL_law_177 rfl rfl ?_
  refine ar_arg (pc := 178) (k := 1) dL_law_178 dL_law_179 dL_law_180 dL_law_181 dL_law_182 rfl rfl (lw_scr N f ff gg z q) rfl (by omega) ?_
  refine ar_arg (pc := 183) (k := 2) dL_law_183 dL_law_184 dL_law_185 dL_law_186 dL_law_187 rfl rfl (lw_scr N f ff gg z q) rfl (by omega) ?_
  refine ar_if_eq (pc := 188) (tgt := 195) dL_law_188 (by decide) (fun _ => ?_) (fun c => absurd hr c)
  refine ar_iconst (pc := 195) dL_law_195 q_iconst_0 ?_
  refine ar_cls (pc := 196) dL_law_196 cal_X6_roof kL_18 rfl rfl c6 pm rfl rfl rfl (lw_frL _ rfl) (lw_frR N f q) (bu_1 hc hi (Nat.le_of_ble_eq_true rfl) rfl) (bv_1 hk hi (Nat.le_of_ble_eq_true rfl) rfl) (fun z2 e => ?_)
  refine ar_aload_n (i := 2) (pc := 199) dL_law_199 rfl rfl ?_
  refine ar_arg (pc := 200) (k := 1) dL_law_200 dL_law_201 dL_law_202 dL_law_203 dL_law_204 rfl rfl (lw_scr N f ff gg z2 q) rfl (by omega) ?_
  refine ar_arg (pc := 205) (k := 2) dL_law_205 dL_law_206 dL_law_207 dL_law_208 dL_law_209 rfl rfl (lw_scr N f ff gg z2 q) rfl (by omega) ?_
  refine ar_if_eq (pc := 210) (tgt := 217) dL_law_210 (by decide) (fun _ => ?_) (fun c => absurd hr c)
  refine ar_iconst (pc := 217) dL_law_217 q_iconst_0 ?_
  refine ar_mod (pc := 218) (T := lwT N f) dL_law_218 cal_X7_roof kL_22 rfl rfl c7 (ppH_len ..) rfl rfl rfl (bu_2 hc hi (Nat.le_of_ble_eq_true rfl) rfl rfl) (bv_2 hk hi (Nat.le_of_ble_eq_true rfl) rfl rfl) (fun q2 M2 => ?_)
  refine ar_icmp_eq (pc := 221) (tgt := 792) dL_law_221 (by decide) (fun _ => ?_) (fun c => absurd rfl c)
  exact K z2 q2 _ _ (mr_eq e M2) (bu_3 hc (Nat.le_of_ble_eq_true rfl) rfl) (bv_3 hk (Nat.le_of_ble_eq_true rfl) rfl)
set_option maxHeartbeats 4000000 in
set_option maxRecDepth 100000 in
theorem law_177o {h0 : am_H} {N : Nat} {f : Nat → Int32} {ff gg : Nat → Int32} (G : g0_D gg) {i : Nat} (hN : 4 * i + 4 ≤ N) (hi : i ≤ 520) (K : lwK h0 N f ff gg 792 i (i + 1)) (hr : ¬ f (4 * i + 2) = 0) : lwK h0 N f ff gg 177 i i := by
  intro z q kc ks M hc hk
  obtain ⟨x, z1, c6, c7, pm⟩ := pr_roof ff M G (f (4 * i + 1)) 1 (by decide)
  refine ar_aload_n (i := 1) (pc := 177) dL_law_177 rfl rfl ?_
  refine ar_arg (pc := 178) (k := 1) dL_law_178 dL_law_179 dL_law_180 dL_law_181 dL_law_182 rfl rfl (lw_scr N f ff gg z q) rfl (by omega) ?_
  refine ar_arg (pc := 183) (k := 2) dL_law_183 dL_law_184 dL_law_185 dL_law_186 dL_law_187 rfl rfl (lw_scr N f ff gg z q) rfl (by omega) ?_
  refine ar_if_eq (pc := 188) (tgt := 195) dL_law_188 (by decide) (fun c => absurd c hr) (fun _ => ?_)
  refine ar_iconst (pc := 191) dL_law_191 q_iconst_1 ?_
  refine ar_goto (pc := 192) (tgt := 196) dL_law_192 (by decide) ?_
  refine ar_cls (pc := 196) dL_law_196 cal_X6_roof kL_18 rfl rfl c6 pm rfl rfl rfl (lw_frL _ rfl) (lw_frR N f q) (bu_1 hc hi (Nat.le_of_ble_eq_true rfl) rfl) (bv_1 hk hi (Nat.le_of_ble_eq_true rfl) rfl) (fun z2 e => ?_)
  refine ar_aload_n (i := 2) (pc := 199) dL_law_199 rfl rfl ?_
  refine ar_arg (pc := 200) (k := 1) dL_law_200 dL_law_201 dL_law_202 dL_law_203 dL_law_204 rfl rfl (lw_scr N f ff gg z2 q) rfl (by omega) ?_
  refine ar_arg (pc := 205) (k := 2) dL_law_205 dL_law_206 dL_law_207 dL_law_208 dL_law_209 rfl rfl (lw_scr N f ff gg z2 q) rfl (by omega) ?_
  refine ar_if_eq (pc := 210) (tgt := 217) dL_law_210 (by decide) (fun c => absurd c hr) (fun _ => ?_)
  refine ar_iconst (pc := 213) dL_law_213 q_iconst_1 ?_
  refine ar_goto (pc := 214) (tgt := 218) dL_law_214 (by decide) ?_
  refine ar_mod (pc := 218) (T := lwT N f) dL_law_218 cal_X7_roof kL_22 rfl rfl c7 (ppH_len ..) rfl rfl rfl (bu_2 hc hi (Nat.le_of_ble_eq_true rfl) rfl rfl) (bv_2 hk hi (Nat.le_of_ble_eq_true rfl) rfl rfl) (fun q2 M2 => ?_)
  refine ar_icmp_eq (pc := 221) (tgt := 792) dL_law_221 (by decide) (fun _ => ?_) (fun c => absurd rfl c)
  exact K z2 q2 _ _ (mr_eq e M2) (bu_3 hc (Nat.le_of_ble_eq_true rfl) rfl) (bv_3 hk (Nat.le_of_ble_eq_true rfl) rfl)
set_option maxHeartbeats 4000000 in
set_option maxRecDepth 100000 in
theorem law_226 {h0 : am_H} {N : Nat} {f : Nat → Int32} {ff gg : Nat → Int32} (G : g0_D gg) {i : Nat} (hN : 4 * i + 4 ≤ N) (hi : i ≤ 520) (K : lwK h0 N f ff gg 792 i (i + 1)) : lwK h0 N f ff gg 226 i i := by
  intro z q kc ks M hc hk
  obtain ⟨x, z1, c6, c7, pm⟩ := pr_come ff M G (f (4 * i + 1))
  refine ar_aload_n (i := 1) (pc := 226) dL_law_226 rfl rfl ?_
  refine ar_arg (pc := 227) (k := 1) dL_law_227 dL_law_228 dL_law_229 dL_law_230 dL_law_231 rfl rfl (lw_scr N f ff gg z q) rfl (by omega) ?_
  refine ar_cls (pc := 232) dL_law_232 cal_X6_come kL_23 rfl rfl c6 pm rfl rfl rfl (lw_frL _ rfl) (lw_frR N f q) (bu_1 hc hi (Nat.le_of_ble_eq_true rfl) rfl) (bv_1 hk hi (Nat.le_of_ble_eq_true rfl) rfl) (fun z2 e => ?_)
  refine ar_aload_n (i := 2) (pc := 235) dL_law_235 rfl rfl ?_
  refine ar_arg (pc := 236) (k := 1) dL_law_236 dL_law_237 dL_law_238 dL_law_239 dL_law_240 rfl rfl (lw_scr N f ff gg z2 q) rfl (by omega) ?_
  refine ar_mod (pc := 241) (T := lwT N f) dL_law_241 cal_X7_come kL_27 rfl rfl c7 (ppH_len ..) rfl rfl rfl (bu_2 hc hi (Nat.le_of_ble_eq_true rfl) rfl rfl) (bv_2 hk hi (Nat.le_of_ble_eq_true rfl) rfl rfl) (fun q2 M2 => ?_)
  refine ar_icmp_eq (pc := 244) (tgt := 792) dL_law_244 (by decide) (fun _ => ?_) (fun c => absurd rfl c)
  exact K z2 q2 _ _ (mr_eq e M2) (bu_3 hc (Nat.le_of_ble_eq_true rfl) rfl) (bv_3 hk (Nat.le_of_ble_eq_true rfl) rfl)
set_option maxHeartbeats 4000000 in
set_option maxRecDepth 100000 in
theorem law_249 {h0 : am_H} {N : Nat} {f : Nat → Int32} {ff gg : Nat → Int32} (G : g0_D gg) {i : Nat} (hN : 4 * i + 4 ≤ N) (hi : i ≤ 520) (K : lwK h0 N f ff gg 792 i (i + 1)) : lwK h0 N f ff gg 249 i i := by
  intro z q kc ks M hc hk
  obtain ⟨x, z1, c6, c7, pm⟩ := pr_go ff M G (f (4 * i + 1))
  refine ar_aload_n (i := 1) (pc := 249) dL_law_249 rfl rfl ?_
  refine ar_arg (pc := 250) (k := 1) dL_law_250 dL_law_251 dL_law_252 dL_law_253 dL_law_254 rfl rfl (lw_scr N f ff gg z q) rfl (by omega) ?_
  refine ar_cls (pc := 255) dL_law_255 cal_X6_go kL_28 rfl rfl c6 pm rfl rfl rfl (lw_frL _ rfl) (lw_frR N f q) (bu_1 hc hi (Nat.le_of_ble_eq_true rfl) rfl) (bv_1 hk hi (Nat.le_of_ble_eq_true rfl) rfl) (fun z2 e => ?_)
  refine ar_aload_n (i := 2) (pc := 258) dL_law_258 rfl rfl ?_
  refine ar_arg (pc := 259) (k := 1) dL_law_259 dL_law_260 dL_law_261 dL_law_262 dL_law_263 rfl rfl (lw_scr N f ff gg z2 q) rfl (by omega) ?_
  refine ar_mod (pc := 264) (T := lwT N f) dL_law_264 cal_X7_go kL_31 rfl rfl c7 (ppH_len ..) rfl rfl rfl (bu_2 hc hi (Nat.le_of_ble_eq_true rfl) rfl rfl) (bv_2 hk hi (Nat.le_of_ble_eq_true rfl) rfl rfl) (fun q2 M2 => ?_)
  refine ar_icmp_eq (pc := 267) (tgt := 792) dL_law_267 (by decide) (fun _ => ?_) (fun c => absurd rfl c)
  exact K z2 q2 _ _ (mr_eq e M2) (bu_3 hc (Nat.le_of_ble_eq_true rfl) rfl) (bv_3 hk (Nat.le_of_ble_eq_true rfl) rfl)
set_option maxHeartbeats 4000000 in
set_option maxRecDepth 100000 in
theorem law_272 {h0 : am_H} {N : Nat} {f : Nat → Int32} {ff gg : Nat → Int32} (G : g0_D gg) {i : Nat} (hN : 4 * i + 4 ≤ N) (hi : i ≤ 520) (K : lwK h0 N f ff gg 792 i (i + 1)) : lwK h0 N f ff gg 272 i i := by
  intro z q kc ks M hc hk
  obtain ⟨x, z1, c6, c7, pm⟩ := pr_height ff M G (f (4 * i + 1)) (f (4 * i + 2))
  refine ar_aload_n (i := 1) (pc := 272) dL_law_272 rfl rfl ?_
  refine ar_arg (pc := 273) (k := 1) dL_law_273 dL_law_274 dL_law_275 dL_law_276 dL_law_277 rfl rfl (lw_scr N f ff gg z q) rfl (by omega) ?_
  refine ar_arg (pc := 278) (k := 2) dL_law_278 dL_law_279 dL_law_280 dL_law_281 dL_law_282 rfl rfl (lw_scr N f ff gg z q) rfl (by omega) ?_
  refine ar_cls (pc := 283) dL_law_283 cal_X6_height kL_32 rfl rfl c6 pm rfl rfl rfl (lw_frL _ rfl) (lw_frR N f q) (bu_1 hc hi (Nat.le_of_ble_eq_true rfl) rfl) (bv_1 hk hi (Nat.le_of_ble_eq_true rfl) rfl) (fun z2 e => ?_)
  refine ar_aload_n (i := 2) (pc := 286) dL_law_286 rfl rfl ?_
  refine ar_arg (pc := 287) (k := 1) dL_law_287 dL_law_288 dL_law_289 dL_law_290 dL_law_291 rfl rfl (lw_scr N f ff gg z2 q) rfl (by omega) ?_
  refine ar_arg (pc := 292) (k := 2) dL_law_292 dL_law_293 dL_law_294 dL_law_295 dL_law_296 rfl rfl (lw_scr N f ff gg z2 q) rfl (by omega) ?_
  refine ar_mod (pc := 297) (T := lwT N f) dL_law_297 cal_X7_height kL_35 rfl rfl c7 (ppH_len ..) rfl rfl rfl (bu_2 hc hi (Nat.le_of_ble_eq_true rfl) rfl rfl) (bv_2 hk hi (Nat.le_of_ble_eq_true rfl) rfl rfl) (fun q2 M2 => ?_)
  refine ar_icmp_eq (pc := 300) (tgt := 792) dL_law_300 (by decide) (fun _ => ?_) (fun c => absurd rfl c)
  exact K z2 q2 _ _ (mr_eq e M2) (bu_3 hc (Nat.le_of_ble_eq_true rfl) rfl) (bv_3 hk (Nat.le_of_ble_eq_true rfl) rfl)
set_option maxHeartbeats 4000000 in
set_option maxRecDepth 100000 in
theorem law_305 {h0 : am_H} {N : Nat} {f : Nat → Int32} {ff gg : Nat → Int32} (G : g0_D gg) {i : Nat} (hN : 4 * i + 4 ≤ N) (hi : i ≤ 520) (K : lwK h0 N f ff gg 792 i (i + 1)) : lwK h0 N f ff gg 305 i i := by
  intro z q kc ks M hc hk
  obtain ⟨x, z1, c6, c7, pm⟩ := pr_stand ff M G (f (4 * i + 1)) (f (4 * i + 2))
  refine ar_aload_n (i := 1) (pc := 305) dL_law_305 rfl rfl ?_
  refine ar_arg (pc := 306) (k := 1) dL_law_306 dL_law_307 dL_law_308 dL_law_309 dL_law_310 rfl rfl (lw_scr N f ff gg z q) rfl (by omega) ?_
  refine ar_arg (pc := 311) (k := 2) dL_law_311 dL_law_312 dL_law_313 dL_law_314 dL_law_315 rfl rfl (lw_scr N f ff gg z q) rfl (by omega) ?_
  refine ar_cls (pc := 316) dL_law_316 cal_X6_stand kL_36 rfl rfl c6 pm rfl rfl rfl (lw_frL _ rfl) (lw_frR N f q) (bu_1 hc hi (Nat.le_of_ble_eq_true rfl) rfl) (bv_1 hk hi (Nat.le_of_ble_eq_true rfl) rfl) (fun z2 e => ?_)
  refine ar_aload_n (i := 2) (pc := 319) dL_law_319 rfl rfl ?_
  refine ar_arg (pc := 320) (k := 1) dL_law_320 dL_law_321 dL_law_322 dL_law_323 dL_law_324 rfl rfl (lw_scr N f ff gg z2 q) rfl (by omega) ?_
  refine ar_arg (pc := 325) (k := 2) dL_law_325 dL_law_326 dL_law_327 dL_law_328 dL_law_329 rfl rfl (lw_scr N f ff gg z2 q) rfl (by omega) ?_
  refine ar_mod (pc := 330) (T := lwT N f) dL_law_330 cal_X7_stand kL_39 rfl rfl c7 (ppH_len ..) rfl rfl rfl (bu_2 hc hi (Nat.le_of_ble_eq_true rfl) rfl rfl) (bv_2 hk hi (Nat.le_of_ble_eq_true rfl) rfl rfl) (fun q2 M2 => ?_)
  refine ar_icmp_eq (pc := 333) (tgt := 792) dL_law_333 (by decide) (fun _ => ?_) (fun c => absurd rfl c)
  exact K z2 q2 _ _ (mr_eq e M2) (bu_3 hc (Nat.le_of_ble_eq_true rfl) rfl) (bv_3 hk (Nat.le_of_ble_eq_true rfl) rfl)
set_option maxHeartbeats 4000000 in
set_option maxRecDepth 100000 in
theorem law_338 {h0 : am_H} {N : Nat} {f : Nat → Int32} {ff gg : Nat → Int32} (G : g0_D gg) {i : Nat} (hN : 4 * i + 4 ≤ N) (hi : i ≤ 520) (K : lwK h0 N f ff gg 792 i (i + 1)) : lwK h0 N f ff gg 338 i i := by
  intro z q kc ks M hc hk
  obtain ⟨x, z1, c6, c7, pm⟩ := pr_shuffle ff M G (f (4 * i + 1))
  refine ar_aload_n (i := 1) (pc := 338) dL_law_338 rfl rfl ?_
  refine ar_arg (pc := 339) (k := 1) dL_law_339 dL_law_340 dL_law_341 dL_law_342 dL_law_343 rfl rfl (lw_scr N f ff gg z q) rfl (by omega) ?_
  refine ar_cls (pc := 344) dL_law_344 cal_X6_shuffle kL_40 rfl rfl c6 pm rfl rfl rfl (lw_frL _ rfl) (lw_frR N f q) (bu_1 hc hi (Nat.le_of_ble_eq_true rfl) rfl) (bv_1 hk hi (Nat.le_of_ble_eq_true rfl) rfl) (fun z2 e => ?_)
  refine ar_aload_n (i := 2) (pc := 347) dL_law_347 rfl rfl ?_
  refine ar_arg (pc := 348) (k := 1) dL_law_348 dL_law_349 dL_law_350 dL_law_351 dL_law_352 rfl rfl (lw_scr N f ff gg z2 q) rfl (by omega) ?_
  refine ar_mod (pc := 353) (T := lwT N f) dL_law_353 cal_X7_shuffle kL_43 rfl rfl c7 (ppH_len ..) rfl rfl rfl (bu_2 hc hi (Nat.le_of_ble_eq_true rfl) rfl rfl) (bv_2 hk hi (Nat.le_of_ble_eq_true rfl) rfl rfl) (fun q2 M2 => ?_)
  refine ar_icmp_eq (pc := 356) (tgt := 792) dL_law_356 (by decide) (fun _ => ?_) (fun c => absurd rfl c)
  exact K z2 q2 _ _ (mr_eq e M2) (bu_3 hc (Nat.le_of_ble_eq_true rfl) rfl) (bv_3 hk (Nat.le_of_ble_eq_true rfl) rfl)
set_option maxHeartbeats 4000000 in
set_option maxRecDepth 100000 in
theorem law_361 {h0 : am_H} {N : Nat} {f : Nat → Int32} {ff gg : Nat → Int32} (G : g0_D gg) {i : Nat} (hN : 4 * i + 4 ≤ N) (hi : i ≤ 520) (K : lwK h0 N f ff gg 792 i (i + 1)) : lwK h0 N f ff gg 361 i i := by
  intro z q kc ks M hc hk
  obtain ⟨x, z1, c6, c7, pm⟩ := pr_play ff M G 
  refine ar_aload_n (i := 1) (pc := 361) dL_law_361 rfl rfl ?_
  refine ar_cls (pc := 362) dL_law_362 cal_X6_play kL_44 rfl rfl c6 pm rfl rfl rfl (lw_frL _ rfl) (lw_frR N f q) (bu_1 hc hi (Nat.le_of_ble_eq_true rfl) rfl) (bv_1 hk hi (Nat.le_of_ble_eq_true rfl) rfl) (fun z2 e => ?_)
  refine ar_aload_n (i := 2) (pc := 365) dL_law_365 rfl rfl ?_
  refine ar_mod (pc := 366) (T := lwT N f) dL_law_366 cal_X7_play kL_48 rfl rfl c7 (ppH_len ..) rfl rfl rfl (bu_2 hc hi (Nat.le_of_ble_eq_true rfl) rfl rfl) (bv_2 hk hi (Nat.le_of_ble_eq_true rfl) rfl rfl) (fun q2 M2 => ?_)
  refine ar_icmp_eq (pc := 369) (tgt := 792) dL_law_369 (by decide) (fun _ => ?_) (fun c => absurd rfl c)
  exact K z2 q2 _ _ (mr_eq e M2) (bu_3 hc (Nat.le_of_ble_eq_true rfl) rfl) (bv_3 hk (Nat.le_of_ble_eq_true rfl) rfl)
set_option maxHeartbeats 4000000 in
set_option maxRecDepth 100000 in
theorem law_374 {h0 : am_H} {N : Nat} {f : Nat → Int32} {ff gg : Nat → Int32} (G : g0_D gg) {i : Nat} (hN : 4 * i + 4 ≤ N) (hi : i ≤ 520) (K : lwK h0 N f ff gg 792 i (i + 1)) : lwK h0 N f ff gg 374 i i := by
  intro z q kc ks M hc hk
  obtain ⟨x, z1, c6, c7, pm⟩ := pr_read ff M G 
  refine ar_aload_n (i := 1) (pc := 374) dL_law_374 rfl rfl ?_
  refine ar_cls (pc := 375) dL_law_375 cal_X6_read kL_49 rfl rfl c6 pm rfl rfl rfl (lw_frL _ rfl) (lw_frR N f q) (bu_1 hc hi (Nat.le_of_ble_eq_true rfl) rfl) (bv_1 hk hi (Nat.le_of_ble_eq_true rfl) rfl) (fun z2 e => ?_)
  refine ar_aload_n (i := 2) (pc := 378) dL_law_378 rfl rfl ?_
  refine ar_mod (pc := 379) (T := lwT N f) dL_law_379 cal_X7_read kL_52 rfl rfl c7 (ppH_len ..) rfl rfl rfl (bu_2 hc hi (Nat.le_of_ble_eq_true rfl) rfl rfl) (bv_2 hk hi (Nat.le_of_ble_eq_true rfl) rfl rfl) (fun q2 M2 => ?_)
  refine ar_icmp_eq (pc := 382) (tgt := 792) dL_law_382 (by decide) (fun _ => ?_) (fun c => absurd rfl c)
  exact K z2 q2 _ _ (mr_eq e M2) (bu_3 hc (Nat.le_of_ble_eq_true rfl) rfl) (bv_3 hk (Nat.le_of_ble_eq_true rfl) rfl)
set_option maxHeartbeats 4000000 in
set_option maxRecDepth 100000 in
theorem law_387 {h0 : am_H} {N : Nat} {f : Nat → Int32} {ff gg : Nat → Int32} (G : g0_D gg) {i : Nat} (hN : 4 * i + 4 ≤ N) (hi : i ≤ 520) (K : lwK h0 N f ff gg 792 i (i + 1)) : lwK h0 N f ff gg 387 i i := by
  intro z q kc ks M hc hk
  obtain ⟨x, z1, c6, c7, pm⟩ := pr_booth ff M G (f (4 * i + 1)) (f (4 * i + 2))
  refine ar_aload_n (i := 1) (pc := 387) dL_law_387 rfl rfl ?_
  refine ar_arg (pc := 388) (k := 1) dL_law_388 dL_law_389 dL_law_390 dL_law_391 dL_law_392 rfl rfl (lw_scr N f ff gg z q) rfl (by omega) ?_
  refine ar_arg (pc := 393) (k := 2) dL_law_393 dL_law_394 dL_law_395 dL_law_396 dL_law_397 rfl rfl (lw_scr N f ff gg z q) rfl (by omega) ?_
  refine ar_cls (pc := 398) dL_law_398 cal_X6_booth kL_53 rfl rfl c6 pm rfl rfl rfl (lw_frL _ rfl) (lw_frR N f q) (bu_1 hc hi (Nat.le_of_ble_eq_true rfl) rfl) (bv_1 hk hi (Nat.le_of_ble_eq_true rfl) rfl) (fun z2 e => ?_)
  refine ar_aload_n (i := 2) (pc := 401) dL_law_401 rfl rfl ?_
  refine ar_arg (pc := 402) (k := 1) dL_law_402 dL_law_403 dL_law_404 dL_law_405 dL_law_406 rfl rfl (lw_scr N f ff gg z2 q) rfl (by omega) ?_
  refine ar_arg (pc := 407) (k := 2) dL_law_407 dL_law_408 dL_law_409 dL_law_410 dL_law_411 rfl rfl (lw_scr N f ff gg z2 q) rfl (by omega) ?_
  refine ar_mod (pc := 412) (T := lwT N f) dL_law_412 cal_X7_booth kL_56 rfl rfl c7 (ppH_len ..) rfl rfl rfl (bu_2 hc hi (Nat.le_of_ble_eq_true rfl) rfl rfl) (bv_2 hk hi (Nat.le_of_ble_eq_true rfl) rfl rfl) (fun q2 M2 => ?_)
  refine ar_icmp_eq (pc := 415) (tgt := 792) dL_law_415 (by decide) (fun _ => ?_) (fun c => absurd rfl c)
  exact K z2 q2 _ _ (mr_eq e M2) (bu_3 hc (Nat.le_of_ble_eq_true rfl) rfl) (bv_3 hk (Nat.le_of_ble_eq_true rfl) rfl)
set_option maxHeartbeats 4000000 in
set_option maxRecDepth 100000 in
theorem law_420 {h0 : am_H} {N : Nat} {f : Nat → Int32} {ff gg : Nat → Int32} (G : g0_D gg) {i : Nat} (hN : 4 * i + 4 ≤ N) (hi : i ≤ 520) (K : lwK h0 N f ff gg 792 i (i + 1)) : lwK h0 N f ff gg 420 i i := by
  intro z q kc ks M hc hk
  obtain ⟨x, z1, c6, c7, pm⟩ := pr_pitch ff M G (f (4 * i + 1)) (f (4 * i + 2))
  refine ar_aload_n (i := 1) (pc := 420) dL_law_420 rfl rfl ?_
  refine ar_arg (pc := 421) (k := 1) dL_law_421 dL_law_422 dL_law_423 dL_law_424 dL_law_425 rfl rfl (lw_scr N f ff gg z q) rfl (by omega) ?_
  refine ar_arg (pc := 426) (k := 2) dL_law_426 dL_law_427 dL_law_428 dL_law_429 dL_law_430 rfl rfl (lw_scr N f ff gg z q) rfl (by omega) ?_
  refine ar_cls (pc := 431) dL_law_431 cal_X6_pitch kL_57 rfl rfl c6 pm rfl rfl rfl (lw_frL _ rfl) (lw_frR N f q) (bu_1 hc hi (Nat.le_of_ble_eq_true rfl) rfl) (bv_1 hk hi (Nat.le_of_ble_eq_true rfl) rfl) (fun z2 e => ?_)
  refine ar_aload_n (i := 2) (pc := 434) dL_law_434 rfl rfl ?_
  refine ar_arg (pc := 435) (k := 1) dL_law_435 dL_law_436 dL_law_437 dL_law_438 dL_law_439 rfl rfl (lw_scr N f ff gg z2 q) rfl (by omega) ?_
  refine ar_arg (pc := 440) (k := 2) dL_law_440 dL_law_441 dL_law_442 dL_law_443 dL_law_444 rfl rfl (lw_scr N f ff gg z2 q) rfl (by omega) ?_
  refine ar_mod (pc := 445) (T := lwT N f) dL_law_445 cal_X7_pitch kL_60 rfl rfl c7 (ppH_len ..) rfl rfl rfl (bu_2 hc hi (Nat.le_of_ble_eq_true rfl) rfl rfl) (bv_2 hk hi (Nat.le_of_ble_eq_true rfl) rfl rfl) (fun q2 M2 => ?_)
  refine ar_icmp_eq (pc := 448) (tgt := 792) dL_law_448 (by decide) (fun _ => ?_) (fun c => absurd rfl c)
  exact K z2 q2 _ _ (mr_eq e M2) (bu_3 hc (Nat.le_of_ble_eq_true rfl) rfl) (bv_3 hk (Nat.le_of_ble_eq_true rfl) rfl)
set_option maxHeartbeats 4000000 in
set_option maxRecDepth 100000 in
theorem law_453 {h0 : am_H} {N : Nat} {f : Nat → Int32} {ff gg : Nat → Int32} (G : g0_D gg) {i : Nat} (hN : 4 * i + 4 ≤ N) (hi : i ≤ 520) (K : lwK h0 N f ff gg 792 i (i + 1)) : lwK h0 N f ff gg 453 i i := by
  intro z q kc ks M hc hk
  obtain ⟨x, z1, c6, c7, pm⟩ := pr_seen ff M G (f (4 * i + 1)) (f (4 * i + 2)) (f (4 * i + 3))
  refine ar_aload_n (i := 1) (pc := 453) dL_law_453 rfl rfl ?_
  refine ar_arg (pc := 454) (k := 1) dL_law_454 dL_law_455 dL_law_456 dL_law_457 dL_law_458 rfl rfl (lw_scr N f ff gg z q) rfl (by omega) ?_
  refine ar_arg (pc := 459) (k := 2) dL_law_459 dL_law_460 dL_law_461 dL_law_462 dL_law_463 rfl rfl (lw_scr N f ff gg z q) rfl (by omega) ?_
  refine ar_arg (pc := 464) (k := 3) dL_law_464 dL_law_465 dL_law_466 dL_law_467 dL_law_468 rfl rfl (lw_scr N f ff gg z q) rfl (by omega) ?_
  refine ar_cls (pc := 469) dL_law_469 cal_X6_seen kL_61 rfl rfl c6 pm rfl rfl rfl (lw_frL _ rfl) (lw_frR N f q) (bu_1 hc hi (Nat.le_of_ble_eq_true rfl) rfl) (bv_1 hk hi (Nat.le_of_ble_eq_true rfl) rfl) (fun z2 e => ?_)
  refine ar_aload_n (i := 2) (pc := 472) dL_law_472 rfl rfl ?_
  refine ar_arg (pc := 473) (k := 1) dL_law_473 dL_law_474 dL_law_475 dL_law_476 dL_law_477 rfl rfl (lw_scr N f ff gg z2 q) rfl (by omega) ?_
  refine ar_arg (pc := 478) (k := 2) dL_law_478 dL_law_479 dL_law_480 dL_law_481 dL_law_482 rfl rfl (lw_scr N f ff gg z2 q) rfl (by omega) ?_
  refine ar_arg (pc := 483) (k := 3) dL_law_483 dL_law_484 dL_law_485 dL_law_486 dL_law_487 rfl rfl (lw_scr N f ff gg z2 q) rfl (by omega) ?_
  refine ar_mod (pc := 488) (T := lwT N f) dL_law_488 cal_X7_seen kL_65 rfl rfl c7 (ppH_len ..) rfl rfl rfl (bu_2 hc hi (Nat.le_of_ble_eq_true rfl) rfl rfl) (bv_2 hk hi (Nat.le_of_ble_eq_true rfl) rfl rfl) (fun q2 M2 => ?_)
  refine ar_icmp_eq (pc := 491) (tgt := 792) dL_law_491 (by decide) (fun _ => ?_) (fun c => absurd rfl c)
  exact K z2 q2 _ _ (mr_eq e M2) (bu_3 hc (Nat.le_of_ble_eq_true rfl) rfl) (bv_3 hk (Nat.le_of_ble_eq_true rfl) rfl)
set_option maxHeartbeats 4000000 in
set_option maxRecDepth 100000 in
theorem law_496 {h0 : am_H} {N : Nat} {f : Nat → Int32} {ff gg : Nat → Int32} (G : g0_D gg) {i : Nat} (hN : 4 * i + 4 ≤ N) (hi : i ≤ 520) (K : lwK h0 N f ff gg 792 i (i + 1)) : lwK h0 N f ff gg 496 i i := by
  intro z q kc ks M hc hk
  obtain ⟨x, z1, c6, c7, pm⟩ := pr_count ff M G (f (4 * i + 1))
  refine ar_aload_n (i := 1) (pc := 496) dL_law_496 rfl rfl ?_
  refine ar_arg (pc := 497) (k := 1) dL_law_497 dL_law_498 dL_law_499 dL_law_500 dL_law_501 rfl rfl (lw_scr N f ff gg z q) rfl (by omega) ?_
  refine ar_cls (pc := 502) dL_law_502 cal_X6_count kL_66 rfl rfl c6 pm rfl rfl rfl (lw_frL _ rfl) (lw_frR N f q) (bu_1 hc hi (Nat.le_of_ble_eq_true rfl) rfl) (bv_1 hk hi (Nat.le_of_ble_eq_true rfl) rfl) (fun z2 e => ?_)
  refine ar_aload_n (i := 2) (pc := 505) dL_law_505 rfl rfl ?_
  refine ar_arg (pc := 506) (k := 1) dL_law_506 dL_law_507 dL_law_508 dL_law_509 dL_law_510 rfl rfl (lw_scr N f ff gg z2 q) rfl (by omega) ?_
  refine ar_mod (pc := 511) (T := lwT N f) dL_law_511 cal_X7_count kL_69 rfl rfl c7 (ppH_len ..) rfl rfl rfl (bu_2 hc hi (Nat.le_of_ble_eq_true rfl) rfl rfl) (bv_2 hk hi (Nat.le_of_ble_eq_true rfl) rfl rfl) (fun q2 M2 => ?_)
  refine ar_icmp_eq (pc := 514) (tgt := 792) dL_law_514 (by decide) (fun _ => ?_) (fun c => absurd rfl c)
  exact K z2 q2 _ _ (mr_eq e M2) (bu_3 hc (Nat.le_of_ble_eq_true rfl) rfl) (bv_3 hk (Nat.le_of_ble_eq_true rfl) rfl)
set_option maxHeartbeats 4000000 in
set_option maxRecDepth 100000 in
theorem law_519 {h0 : am_H} {N : Nat} {f : Nat → Int32} {ff gg : Nat → Int32} (G : g0_D gg) {i : Nat} (hN : 4 * i + 4 ≤ N) (hi : i ≤ 520) (K : lwK h0 N f ff gg 792 i (i + 1)) : lwK h0 N f ff gg 519 i i := by
  intro z q kc ks M hc hk
  obtain ⟨x, z1, c6, c7, pm⟩ := pr_lot ff M G (f (4 * i + 1))
  refine ar_aload_n (i := 1) (pc := 519) dL_law_519 rfl rfl ?_
  refine ar_arg (pc := 520) (k := 1) dL_law_520 dL_law_521 dL_law_522 dL_law_523 dL_law_524 rfl rfl (lw_scr N f ff gg z q) rfl (by omega) ?_
  refine ar_cls (pc := 525) dL_law_525 cal_X6_lot kL_70 rfl rfl c6 pm rfl rfl rfl (lw_frL _ rfl) (lw_frR N f q) (bu_1 hc hi (Nat.le_of_ble_eq_true rfl) rfl) (bv_1 hk hi (Nat.le_of_ble_eq_true rfl) rfl) (fun z2 e => ?_)
  refine ar_aload_n (i := 2) (pc := 528) dL_law_528 rfl rfl ?_
  refine ar_arg (pc := 529) (k := 1) dL_law_529 dL_law_530 dL_law_531 dL_law_532 dL_law_533 rfl rfl (lw_scr N f ff gg z2 q) rfl (by omega) ?_
  refine ar_mod (pc := 534) (T := lwT N f) dL_law_534 cal_X7_lot kL_73 rfl rfl c7 (ppH_len ..) rfl rfl rfl (bu_2 hc hi (Nat.le_of_ble_eq_true rfl) rfl rfl) (bv_2 hk hi (Nat.le_of_ble_eq_true rfl) rfl rfl) (fun q2 M2 => ?_)
  refine ar_icmp_eq (pc := 537) (tgt := 792) dL_law_537 (by decide) (fun _ => ?_) (fun c => absurd rfl c)
  exact K z2 q2 _ _ (mr_eq e M2) (bu_3 hc (Nat.le_of_ble_eq_true rfl) rfl) (bv_3 hk (Nat.le_of_ble_eq_true rfl) rfl)
set_option maxHeartbeats 4000000 in
set_option maxRecDepth 100000 in
theorem law_542 {h0 : am_H} {N : Nat} {f : Nat → Int32} {ff gg : Nat → Int32} (G : g0_D gg) {i : Nat} (hN : 4 * i + 4 ≤ N) (hi : i ≤ 520) (K : lwK h0 N f ff gg 792 i (i + 1)) : lwK h0 N f ff gg 542 i i := by
  intro z q kc ks M hc hk
  obtain ⟨x, z1, c6, c7, pm⟩ := pr_ifStood ff M G (f (4 * i + 1)) (f (4 * i + 2))
  refine ar_aload_n (i := 1) (pc := 542) dL_law_542 rfl rfl ?_
  refine ar_arg (pc := 543) (k := 1) dL_law_543 dL_law_544 dL_law_545 dL_law_546 dL_law_547 rfl rfl (lw_scr N f ff gg z q) rfl (by omega) ?_
  refine ar_arg (pc := 548) (k := 2) dL_law_548 dL_law_549 dL_law_550 dL_law_551 dL_law_552 rfl rfl (lw_scr N f ff gg z q) rfl (by omega) ?_
  refine ar_cls (pc := 553) dL_law_553 cal_X6_ifStood kL_74 rfl rfl c6 pm rfl rfl rfl (lw_frL _ rfl) (lw_frR N f q) (bu_1 hc hi (Nat.le_of_ble_eq_true rfl) rfl) (bv_1 hk hi (Nat.le_of_ble_eq_true rfl) rfl) (fun z2 e => ?_)
  refine ar_aload_n (i := 2) (pc := 556) dL_law_556 rfl rfl ?_
  refine ar_arg (pc := 557) (k := 1) dL_law_557 dL_law_558 dL_law_559 dL_law_560 dL_law_561 rfl rfl (lw_scr N f ff gg z2 q) rfl (by omega) ?_
  refine ar_arg (pc := 562) (k := 2) dL_law_562 dL_law_563 dL_law_564 dL_law_565 dL_law_566 rfl rfl (lw_scr N f ff gg z2 q) rfl (by omega) ?_
  refine ar_mod (pc := 567) (T := lwT N f) dL_law_567 cal_X7_ifStood kL_77 rfl rfl c7 (ppH_len ..) rfl rfl rfl (bu_2 hc hi (Nat.le_of_ble_eq_true rfl) rfl rfl) (bv_2 hk hi (Nat.le_of_ble_eq_true rfl) rfl rfl) (fun q2 M2 => ?_)
  refine ar_icmp_eq (pc := 570) (tgt := 792) dL_law_570 (by decide) (fun _ => ?_) (fun c => absurd rfl c)
  exact K z2 q2 _ _ (mr_eq e M2) (bu_3 hc (Nat.le_of_ble_eq_true rfl) rfl) (bv_3 hk (Nat.le_of_ble_eq_true rfl) rfl)
set_option maxHeartbeats 4000000 in
set_option maxRecDepth 100000 in
theorem law_575 {h0 : am_H} {N : Nat} {f : Nat → Int32} {ff gg : Nat → Int32} (G : g0_D gg) {i : Nat} (hN : 4 * i + 4 ≤ N) (hi : i ≤ 520) (K : lwK h0 N f ff gg 792 i (i + 1)) : lwK h0 N f ff gg 575 i i := by
  intro z q kc ks M hc hk
  obtain ⟨x, z1, c6, c7, pm⟩ := pr_bestPitch ff M G (f (4 * i + 1))
  refine ar_aload_n (i := 1) (pc := 575) dL_law_575 rfl rfl ?_
  refine ar_arg (pc := 576) (k := 1) dL_law_576 dL_law_577 dL_law_578 dL_law_579 dL_law_580 rfl rfl (lw_scr N f ff gg z q) rfl (by omega) ?_
  refine ar_cls (pc := 581) dL_law_581 cal_X6_bestPitch kL_78 rfl rfl c6 pm rfl rfl rfl (lw_frL _ rfl) (lw_frR N f q) (bu_1 hc hi (Nat.le_of_ble_eq_true rfl) rfl) (bv_1 hk hi (Nat.le_of_ble_eq_true rfl) rfl) (fun z2 e => ?_)
  refine ar_aload_n (i := 2) (pc := 584) dL_law_584 rfl rfl ?_
  refine ar_arg (pc := 585) (k := 1) dL_law_585 dL_law_586 dL_law_587 dL_law_588 dL_law_589 rfl rfl (lw_scr N f ff gg z2 q) rfl (by omega) ?_
  refine ar_mod (pc := 590) (T := lwT N f) dL_law_590 cal_X7_bestPitch kL_81 rfl rfl c7 (ppH_len ..) rfl rfl rfl (bu_2 hc hi (Nat.le_of_ble_eq_true rfl) rfl rfl) (bv_2 hk hi (Nat.le_of_ble_eq_true rfl) rfl rfl) (fun q2 M2 => ?_)
  refine ar_icmp_eq (pc := 593) (tgt := 792) dL_law_593 (by decide) (fun _ => ?_) (fun c => absurd rfl c)
  exact K z2 q2 _ _ (mr_eq e M2) (bu_3 hc (Nat.le_of_ble_eq_true rfl) rfl) (bv_3 hk (Nat.le_of_ble_eq_true rfl) rfl)
set_option maxHeartbeats 4000000 in
set_option maxRecDepth 100000 in
theorem law_598 {h0 : am_H} {N : Nat} {f : Nat → Int32} {ff gg : Nat → Int32} (G : g0_D gg) {i : Nat} (hN : 4 * i + 4 ≤ N) (hi : i ≤ 520) (K : lwK h0 N f ff gg 792 i (i + 1)) : lwK h0 N f ff gg 598 i i := by
  intro z q kc ks M hc hk
  obtain ⟨x, z1, c6, c7, pm⟩ := pr_ifPlayed ff M G (f (4 * i + 1)) (f (4 * i + 2))
  refine ar_aload_n (i := 1) (pc := 598) dL_law_598 rfl rfl ?_
  refine ar_arg (pc := 599) (k := 1) dL_law_599 dL_law_600 dL_law_601 dL_law_602 dL_law_603 rfl rfl (lw_scr N f ff gg z q) rfl (by omega) ?_
  refine ar_arg (pc := 604) (k := 2) dL_law_604 dL_law_605 dL_law_606 dL_law_607 dL_law_608 rfl rfl (lw_scr N f ff gg z q) rfl (by omega) ?_
  refine ar_cls (pc := 609) dL_law_609 cal_X6_ifPlayed kL_82 rfl rfl c6 pm rfl rfl rfl (lw_frL _ rfl) (lw_frR N f q) (bu_1 hc hi (Nat.le_of_ble_eq_true rfl) rfl) (bv_1 hk hi (Nat.le_of_ble_eq_true rfl) rfl) (fun z2 e => ?_)
  refine ar_aload_n (i := 2) (pc := 612) dL_law_612 rfl rfl ?_
  refine ar_arg (pc := 613) (k := 1) dL_law_613 dL_law_614 dL_law_615 dL_law_616 dL_law_617 rfl rfl (lw_scr N f ff gg z2 q) rfl (by omega) ?_
  refine ar_arg (pc := 618) (k := 2) dL_law_618 dL_law_619 dL_law_620 dL_law_621 dL_law_622 rfl rfl (lw_scr N f ff gg z2 q) rfl (by omega) ?_
  refine ar_mod (pc := 623) (T := lwT N f) dL_law_623 cal_X7_ifPlayed kL_85 rfl rfl c7 (ppH_len ..) rfl rfl rfl (bu_2 hc hi (Nat.le_of_ble_eq_true rfl) rfl rfl) (bv_2 hk hi (Nat.le_of_ble_eq_true rfl) rfl rfl) (fun q2 M2 => ?_)
  refine ar_icmp_eq (pc := 626) (tgt := 792) dL_law_626 (by decide) (fun _ => ?_) (fun c => absurd rfl c)
  exact K z2 q2 _ _ (mr_eq e M2) (bu_3 hc (Nat.le_of_ble_eq_true rfl) rfl) (bv_3 hk (Nat.le_of_ble_eq_true rfl) rfl)
set_option maxHeartbeats 4000000 in
set_option maxRecDepth 100000 in
theorem law_631 {h0 : am_H} {N : Nat} {f : Nat → Int32} {ff gg : Nat → Int32} (G : g0_D gg) {i : Nat} (hN : 4 * i + 4 ≤ N) (hi : i ≤ 520) (K : lwK h0 N f ff gg 792 i (i + 1)) : lwK h0 N f ff gg 631 i i := by
  intro z q kc ks M hc hk
  obtain ⟨x, z1, c6, c7, pm⟩ := pr_bestHeight ff M G (f (4 * i + 1))
  refine ar_aload_n (i := 1) (pc := 631) dL_law_631 rfl rfl ?_
  refine ar_arg (pc := 632) (k := 1) dL_law_632 dL_law_633 dL_law_634 dL_law_635 dL_law_636 rfl rfl (lw_scr N f ff gg z q) rfl (by omega) ?_
  refine ar_cls (pc := 637) dL_law_637 cal_X6_bestHeight kL_86 rfl rfl c6 pm rfl rfl rfl (lw_frL _ rfl) (lw_frR N f q) (bu_1 hc hi (Nat.le_of_ble_eq_true rfl) rfl) (bv_1 hk hi (Nat.le_of_ble_eq_true rfl) rfl) (fun z2 e => ?_)
  refine ar_aload_n (i := 2) (pc := 640) dL_law_640 rfl rfl ?_
  refine ar_arg (pc := 641) (k := 1) dL_law_641 dL_law_642 dL_law_643 dL_law_644 dL_law_645 rfl rfl (lw_scr N f ff gg z2 q) rfl (by omega) ?_
  refine ar_mod (pc := 646) (T := lwT N f) dL_law_646 cal_X7_bestHeight kL_89 rfl rfl c7 (ppH_len ..) rfl rfl rfl (bu_2 hc hi (Nat.le_of_ble_eq_true rfl) rfl rfl) (bv_2 hk hi (Nat.le_of_ble_eq_true rfl) rfl rfl) (fun q2 M2 => ?_)
  refine ar_icmp_eq (pc := 649) (tgt := 792) dL_law_649 (by decide) (fun _ => ?_) (fun c => absurd rfl c)
  exact K z2 q2 _ _ (mr_eq e M2) (bu_3 hc (Nat.le_of_ble_eq_true rfl) rfl) (bv_3 hk (Nat.le_of_ble_eq_true rfl) rfl)
set_option maxHeartbeats 4000000 in
set_option maxRecDepth 100000 in
theorem law_654 {h0 : am_H} {N : Nat} {f : Nat → Int32} {ff gg : Nat → Int32} (G : g0_D gg) {i : Nat} (hN : 4 * i + 4 ≤ N) (hi : i ≤ 520) (K : lwK h0 N f ff gg 792 i (i + 1)) : lwK h0 N f ff gg 654 i i := by
  intro z q kc ks M hc hk
  obtain ⟨x, z1, c6, c7, pm⟩ := pr_put (gg := gg) ff M (((f (4 * i + 1)).toInt64 <<< ((32 : Int32).toInt64 &&& 63)) ||| ((f (4 * i + 2)).toInt64 &&& 4294967295))
  refine ar_aload_n (i := 1) (pc := 654) dL_law_654 rfl rfl ?_
  refine ar_arg (pc := 655) (k := 1) dL_law_655 dL_law_656 dL_law_657 dL_law_658 dL_law_659 rfl rfl (lw_scr N f ff gg z q) rfl (by omega) ?_
  refine ar_i2l (pc := 660) dL_law_660 ?_
  refine ar_bipush (pc := 661) dL_law_661 q_bipush_32 ?_
  refine ar_lshl (pc := 663) dL_law_663 ?_
  refine ar_arg (pc := 664) (k := 2) dL_law_664 dL_law_665 dL_law_666 dL_law_667 dL_law_668 rfl rfl (lw_scr N f ff gg z q) rfl (by omega) ?_
  refine ar_i2l (pc := 669) dL_law_669 ?_
  refine ar_ldc2 (pc := 670) dL_law_670 cL_90 ?_
  refine ar_land (pc := 673) dL_law_673 ?_
  refine ar_lor (pc := 674) dL_law_674 ?_
  refine ar_cls (pc := 675) dL_law_675 cal_X6_put kL_92 rfl rfl c6 pm rfl rfl rfl (lw_frL _ rfl) (lw_frR N f q) (bu_1 hc hi (Nat.le_of_ble_eq_true rfl) rfl) (bv_1 hk hi (Nat.le_of_ble_eq_true rfl) rfl) (fun z2 e => ?_)
  refine ar_aload_n (i := 2) (pc := 678) dL_law_678 rfl rfl ?_
  refine ar_arg (pc := 679) (k := 1) dL_law_679 dL_law_680 dL_law_681 dL_law_682 dL_law_683 rfl rfl (lw_scr N f ff gg z2 q) rfl (by omega) ?_
  refine ar_i2l (pc := 684) dL_law_684 ?_
  refine ar_bipush (pc := 685) dL_law_685 q_bipush_32 ?_
  refine ar_lshl (pc := 687) dL_law_687 ?_
  refine ar_arg (pc := 688) (k := 2) dL_law_688 dL_law_689 dL_law_690 dL_law_691 dL_law_692 rfl rfl (lw_scr N f ff gg z2 q) rfl (by omega) ?_
  refine ar_i2l (pc := 693) dL_law_693 ?_
  refine ar_ldc2 (pc := 694) dL_law_694 cL_90 ?_
  refine ar_land (pc := 697) dL_law_697 ?_
  refine ar_lor (pc := 698) dL_law_698 ?_
  refine ar_mod (pc := 699) (T := lwT N f) dL_law_699 cal_X7_put kL_96 rfl rfl c7 (ppH_len ..) rfl rfl rfl (bu_2 hc hi (Nat.le_of_ble_eq_true rfl) rfl rfl) (bv_2 hk hi (Nat.le_of_ble_eq_true rfl) rfl rfl) (fun q2 M2 => ?_)
  refine ar_icmp_eq (pc := 702) (tgt := 792) dL_law_702 (by decide) (fun _ => ?_) (fun c => absurd rfl c)
  exact K z2 q2 _ _ (mr_eq e M2) (bu_3 hc (Nat.le_of_ble_eq_true rfl) rfl) (bv_3 hk (Nat.le_of_ble_eq_true rfl) rfl)
set_option maxHeartbeats 4000000 in
set_option maxRecDepth 100000 in
theorem law_707 {h0 : am_H} {N : Nat} {f : Nat → Int32} {ff gg : Nat → Int32} (G : g0_D gg) {i : Nat} (hN : 4 * i + 4 ≤ N) (hi : i ≤ 520) (K : lwK h0 N f ff gg 792 i (i + 1)) : lwK h0 N f ff gg 707 i i := by
  intro z q kc ks M hc hk
  obtain ⟨x, z1, c6, c7, pm⟩ := pr_wipe ff M G 
  refine ar_aload_n (i := 1) (pc := 707) dL_law_707 rfl rfl ?_
  refine ar_cls (pc := 708) dL_law_708 cal_X6_wipe kL_97 rfl rfl c6 pm rfl rfl rfl (lw_frL _ rfl) (lw_frR N f q) (bu_1 hc hi (Nat.le_of_ble_eq_true rfl) rfl) (bv_1 hk hi (Nat.le_of_ble_eq_true rfl) rfl) (fun z2 e => ?_)
  refine ar_aload_n (i := 2) (pc := 711) dL_law_711 rfl rfl ?_
  refine ar_mod (pc := 712) (T := lwT N f) dL_law_712 cal_X7_wipe kL_100 rfl rfl c7 (ppH_len ..) rfl rfl rfl (bu_2 hc hi (Nat.le_of_ble_eq_true rfl) rfl rfl) (bv_2 hk hi (Nat.le_of_ble_eq_true rfl) rfl rfl) (fun q2 M2 => ?_)
  refine ar_icmp_eq (pc := 715) (tgt := 792) dL_law_715 (by decide) (fun _ => ?_) (fun c => absurd rfl c)
  exact K z2 q2 _ _ (mr_eq e M2) (bu_3 hc (Nat.le_of_ble_eq_true rfl) rfl) (bv_3 hk (Nat.le_of_ble_eq_true rfl) rfl)
set_option maxHeartbeats 4000000 in
set_option maxRecDepth 100000 in
theorem law_720 {h0 : am_H} {N : Nat} {f : Nat → Int32} {ff gg : Nat → Int32} (G : g0_D gg) {i : Nat} (hN : 4 * i + 4 ≤ N) (hi : i ≤ 520) (K : lwK h0 N f ff gg 792 i (i + 1)) : lwK h0 N f ff gg 720 i i := by
  intro z q kc ks M hc hk
  obtain ⟨x, z1, c6, c7, pm⟩ := pr_fault ff M G 
  refine ar_aload_n (i := 1) (pc := 720) dL_law_720 rfl rfl ?_
  refine ar_cls (pc := 721) dL_law_721 cal_X6_fault kL_101 rfl rfl c6 pm rfl rfl rfl (lw_frL _ rfl) (lw_frR N f q) (bu_1 hc hi (Nat.le_of_ble_eq_true rfl) rfl) (bv_1 hk hi (Nat.le_of_ble_eq_true rfl) rfl) (fun z2 e => ?_)
  refine ar_aload_n (i := 2) (pc := 724) dL_law_724 rfl rfl ?_
  refine ar_mod (pc := 725) (T := lwT N f) dL_law_725 cal_X7_fault kL_104 rfl rfl c7 (ppH_len ..) rfl rfl rfl (bu_2 hc hi (Nat.le_of_ble_eq_true rfl) rfl rfl) (bv_2 hk hi (Nat.le_of_ble_eq_true rfl) rfl rfl) (fun q2 M2 => ?_)
  refine ar_icmp_eq (pc := 728) (tgt := 792) dL_law_728 (by decide) (fun _ => ?_) (fun c => absurd rfl c)
  exact K z2 q2 _ _ (mr_eq e M2) (bu_3 hc (Nat.le_of_ble_eq_true rfl) rfl) (bv_3 hk (Nat.le_of_ble_eq_true rfl) rfl)
set_option maxHeartbeats 4000000 in
set_option maxRecDepth 100000 in
theorem law_733 {h0 : am_H} {N : Nat} {f : Nat → Int32} {ff gg : Nat → Int32} (G : g0_D gg) {i : Nat} (hN : 4 * i + 4 ≤ N) (hi : i ≤ 520) (K : lwK h0 N f ff gg 792 i (i + 1)) : lwK h0 N f ff gg 733 i i := by
  intro z q kc ks M hc hk
  obtain ⟨x, z1, c6, c7, pm⟩ := pr_undo ff M G 
  refine ar_aload_n (i := 1) (pc := 733) dL_law_733 rfl rfl ?_
  refine ar_cls (pc := 734) dL_law_734 cal_X6_undo kL_105 rfl rfl c6 pm rfl rfl rfl (lw_frL _ rfl) (lw_frR N f q) (bu_1 hc hi (Nat.le_of_ble_eq_true rfl) rfl) (bv_1 hk hi (Nat.le_of_ble_eq_true rfl) rfl) (fun z2 e => ?_)
  refine ar_aload_n (i := 2) (pc := 737) dL_law_737 rfl rfl ?_
  refine ar_mod (pc := 738) (T := lwT N f) dL_law_738 cal_X7_undo kL_108 rfl rfl c7 (ppH_len ..) rfl rfl rfl (bu_2 hc hi (Nat.le_of_ble_eq_true rfl) rfl rfl) (bv_2 hk hi (Nat.le_of_ble_eq_true rfl) rfl rfl) (fun q2 M2 => ?_)
  refine ar_icmp_eq (pc := 741) (tgt := 792) dL_law_741 (by decide) (fun _ => ?_) (fun c => absurd rfl c)
  exact K z2 q2 _ _ (mr_eq e M2) (bu_3 hc (Nat.le_of_ble_eq_true rfl) rfl) (bv_3 hk (Nat.le_of_ble_eq_true rfl) rfl)
set_option maxHeartbeats 4000000 in
set_option maxRecDepth 100000 in
theorem law_746 {h0 : am_H} {N : Nat} {f : Nat → Int32} {ff gg : Nat → Int32} (G : g0_D gg) {i : Nat} (hN : 4 * i + 4 ≤ N) (hi : i ≤ 520) (K : lwK h0 N f ff gg 792 i (i + 1)) : lwK h0 N f ff gg 746 i i := by
  intro z q kc ks M hc hk
  obtain ⟨x, z1, c6, c7, pm⟩ := pr_save ff M G (f (4 * i + 1))
  refine ar_aload_n (i := 1) (pc := 746) dL_law_746 rfl rfl ?_
  refine ar_arg (pc := 747) (k := 1) dL_law_747 dL_law_748 dL_law_749 dL_law_750 dL_law_751 rfl rfl (lw_scr N f ff gg z q) rfl (by omega) ?_
  refine ar_cls (pc := 752) dL_law_752 cal_X6_save kL_109 rfl rfl c6 pm rfl rfl rfl (lw_frL _ rfl) (lw_frR N f q) (bu_1 hc hi (Nat.le_of_ble_eq_true rfl) rfl) (bv_1 hk hi (Nat.le_of_ble_eq_true rfl) rfl) (fun z2 e => ?_)
  refine ar_aload_n (i := 2) (pc := 755) dL_law_755 rfl rfl ?_
  refine ar_arg (pc := 756) (k := 1) dL_law_756 dL_law_757 dL_law_758 dL_law_759 dL_law_760 rfl rfl (lw_scr N f ff gg z2 q) rfl (by omega) ?_
  refine ar_mod (pc := 761) (T := lwT N f) dL_law_761 cal_X7_save kL_112 rfl rfl c7 (ppH_len ..) rfl rfl rfl (bu_2 hc hi (Nat.le_of_ble_eq_true rfl) rfl rfl) (bv_2 hk hi (Nat.le_of_ble_eq_true rfl) rfl rfl) (fun q2 M2 => ?_)
  refine ar_icmp_eq (pc := 764) (tgt := 792) dL_law_764 (by decide) (fun _ => ?_) (fun c => absurd rfl c)
  exact K z2 q2 _ _ (mr_eq e M2) (bu_3 hc (Nat.le_of_ble_eq_true rfl) rfl) (bv_3 hk (Nat.le_of_ble_eq_true rfl) rfl)
set_option maxHeartbeats 4000000 in
set_option maxRecDepth 100000 in
theorem law_769 {h0 : am_H} {N : Nat} {f : Nat → Int32} {ff gg : Nat → Int32} (G : g0_D gg) {i : Nat} (hN : 4 * i + 4 ≤ N) (hi : i ≤ 520) (K : lwK h0 N f ff gg 792 i (i + 1)) : lwK h0 N f ff gg 769 i i := by
  intro z q kc ks M hc hk
  obtain ⟨x, z1, c6, c7, pm⟩ := pr_restore ff M G (f (4 * i + 1))
  refine ar_aload_n (i := 1) (pc := 769) dL_law_769 rfl rfl ?_
  refine ar_arg (pc := 770) (k := 1) dL_law_770 dL_law_771 dL_law_772 dL_law_773 dL_law_774 rfl rfl (lw_scr N f ff gg z q) rfl (by omega) ?_
  refine ar_cls (pc := 775) dL_law_775 cal_X6_restore kL_113 rfl rfl c6 pm rfl rfl rfl (lw_frL _ rfl) (lw_frR N f q) (bu_1 hc hi (Nat.le_of_ble_eq_true rfl) rfl) (bv_1 hk hi (Nat.le_of_ble_eq_true rfl) rfl) (fun z2 e => ?_)
  refine ar_aload_n (i := 2) (pc := 778) dL_law_778 rfl rfl ?_
  refine ar_arg (pc := 779) (k := 1) dL_law_779 dL_law_780 dL_law_781 dL_law_782 dL_law_783 rfl rfl (lw_scr N f ff gg z2 q) rfl (by omega) ?_
  refine ar_mod (pc := 784) (T := lwT N f) dL_law_784 cal_X7_restore kL_116 rfl rfl c7 (ppH_len ..) rfl rfl rfl (bu_2 hc hi (Nat.le_of_ble_eq_true rfl) rfl rfl) (bv_2 hk hi (Nat.le_of_ble_eq_true rfl) rfl rfl) (fun q2 M2 => ?_)
  refine ar_icmp_eq (pc := 787) (tgt := 792) dL_law_787 (by decide) (fun _ => ?_) (fun c => absurd rfl c)
  exact K z2 q2 _ _ (mr_eq e M2) (bu_3 hc (Nat.le_of_ble_eq_true rfl) rfl) (bv_3 hk (Nat.le_of_ble_eq_true rfl) rfl)
