/-! the reference: plays -/
/-- what the hat of the booth k brings, as the reference reckons -/
def mh_V (w : SV) (st : Nat → Int32) (r : Int32) (k : Nat) : Int32 := if r = 0 ∨ (vP w k ≠ -6 ∧ rfP (vRo w) (ix (vP w k))) then (st (2 * k) + st (2 * k + 1)) * vS w 3 / 100 else 0
theorem z_hat (x : Int32) : (0 : Int32) * x / 100 = 0 := by
  rw [show (0 : Int32) * x = 0 by refine Int32.toInt_inj.mp ?_; simp]
  decide +kernel
theorem stp_6 {ar ta : Nat → Int32} {sh h : Int32} : stpV ar ta sh (-6) h = 0 := by rw [stpV, if_neg (fun z => inP_6 z.1)]
theorem stp_no {w : SV} {n k : Nat} (pl : pl_D w n) (hk : k < n) (h : ¬ stP w n k) : vP w k = -6 := (pl k hk).resolve_right fun z => h ⟨hk, fun e => inP_6 (by rw [← e]; exact z)⟩
theorem dy_hat {w q : SV} {n : Nat} {tp st : Nat → Int32} {r : Int32} (h8 : n ≤ 8) (hst : ∀ b, b < n → st (2 * b) = sb_V 1 w n b ∧ st (2 * b + 1) = sb_V 0 w n b) (D : di_D w n) (T : to_T w n 8 tp) (eP : ∀ b, b < n → vP w b = vP q b) (eH : vH w = vH q) (eS : vS w = vS q) (eR : vRo w = vRo q) {k : Nat} (hk : k < n) : mh_V w st r k = if stP q n k then hat q tp r k else 0 := by
  have ec : st (2 * k) + st (2 * k + 1) = crA w tp (vP w k) (vH w k) := by
    rw [(hst k hk).1, (hst k hk).2]
    show crA w (tpV w n) (vP w k) (vH w k) = _
    exact crA_cong fun x hx _ => to_uniq h8 (to_tpV D h8) T hx
  unfold mh_V
  rw [ec]
  by_cases c : stP q n k
  · have c6 : vP w k ≠ -6 := by rw [eP k hk]; exact c.2
    rw [if_pos c, hat, crd]
    by_cases e : ¬ r = 0 ∧ ¬ rfP (vRo q) (ix (vP q k))
    · rw [if_pos e, z_hat, if_neg]
      rintro (z | z)
      · exact e.1 z
      · rw [eR, eP k hk] at z
        exact e.2 z.2
    · rw [if_neg e, if_pos]
      · rw [eP k hk, eH]
        unfold crA
        rw [eS]
      · by_cases z : r = 0
        · exact Or.inl z
        · exact Or.inr ⟨c6, by rw [eR, eP k hk]; exact Classical.not_not.mp fun y => e ⟨z, y⟩⟩
  · have c6 : vP w k = -6 := Classical.not_not.mp fun z => c ⟨hk, by rw [← eP k hk]; exact z⟩
    rw [if_neg c, c6, show crA w tp (-6) (vH w k) = 0 by unfold crA; rw [stp_6, stp_6]; rfl, z_hat]
    by_cases e : r = 0 ∨ ((-6 : Int32) ≠ -6 ∧ rfP (vRo w) (ix (-6)))
    · rw [if_pos e]
    · rw [if_neg e]
theorem cns_m {q : SV} {n : Nat} {tp st : Nat → Int32} {w : SV} {r : Int32} {k : Nat} {c x : Int32} (hM : mh_V w st r k = if stP q n k then hat q tp r k else 0) (ec : c = cns q n tp r k) (ex : x = mh_V w st r k) : c + x = cns q n tp r (k + 1) := by
  rw [ex, hM]
  by_cases h : stP q n k
  · rw [if_pos h]
    exact cns_y ec h rfl
  · rw [if_neg h, add_0']
    exact cns_n ec h
theorem htF_m {q : SV} {n : Nat} {tp st : Nat → Int32} {w : SV} {r : Int32} {k : Nat} {x : Int32} (hM : mh_V w st r k = if stP q n k then hat q tp r k else 0) (ex : x = mh_V w st r k) : vT q k + x = htF q n tp r k := by
  rw [ex, hM, htF]
  by_cases h : stP q n k
  · rw [if_pos h, if_pos h]
  · rw [if_neg h, if_neg h, add_0']
theorem cns_end {q : SV} {n : Nat} {tp : Nat → Int32} {r : Int32} : ∀ m, cns q n tp r (n + m) = cns q n tp r n
  | 0 => rfl
  | m + 1 => by
    rw [← cns_end m, show n + (m + 1) = n + m + 1 by omega, cns_s, cnS, if_neg (fun z => absurd z.1 (by omega))]
/-- the end of a day, component by component -/
theorem dy_fin {p n : Nat} {w w0 d q : SV} {y : Int64} {r : Int32} {tp s : Nat → Int32} (h8 : n ≤ 8) (E : sm_E w w0) (I : ∀ b, b < n → vP w b = vP q b ∧ vI w b = (if vP q b = -6 then vI w0 b + 1 else vI w0 b)) (F : ∀ b, b < n → vF w b = vF q b)
    (hS : vS w0 = vS q) (hX : y = vX q) (hRo : vRo w0 = vRo q) (hDa : vDa w0 + 1 = vDa q) (hRa : (vRa w0 + (if r = 0 then 0 else 1)) = vRa q) (hTa : vTa w0 = vTa q) (hH : vH w0 = vH q) (hT : vT w0 = vT q) (hL : vL w0 = vL q) (hI : vI w0 = vI q)
    (R : ro_R p n (uDa (uRa (uTa (uT (uX w y) (mixF (htF q n tp r) (vT w) n)) (vTa w + cns q n tp r n)) (vRa w + (if r = 0 then 0 else 1))) (vDa w + 1)) s) : ro_R p n (phV q n tp r) s := by
  obtain ⟨e1, e2, e3, e4, e5, e6, e7, e8, e9⟩ := E
  have e8c : cns q n tp r n = cns q n tp r 8 := by
    have := cns_end (q := q) (n := n) (tp := tp) (r := r) (8 - n)
    rw [show n + (8 - n) = 8 by omega] at this
    exact this.symm
  refine ro_cg R (fun k _ => ?_) ?_ ?_ ?_ ?_ ?_ (fun k _ => ?_) (fun k _ => ?_) (fun k hk => ?_) (fun k hk => ?_) (fun k hk => ?_) (fun k hk => ?_)
  · show vS w k = vS q k
    rw [e1, hS]
  · show y = vX q
    exact hX
  · show vRo w = vRo q
    rw [e3, hRo]
  · show vDa w + 1 = vDa q
    rw [e4, hDa]
  · show (vRa w + (if r = 0 then 0 else 1)) = vRa q
    rw [e5, hRa]
  · show vTa w + cns q n tp r n = vTa q + cns q n tp r 8
    rw [e6, hTa, e8c]
  · show vL w k = vL q k
    rw [e9, hL]
  · show vH w k = vH q k
    rw [e7, hH]
  · show vP w k = vP q k
    exact (I k hk).1
  · show mixF (htF q n tp r) (vT w) n k = mixF (htF q n tp r) (vT q) 8 k
    rw [mixF_all hk, mixF_all (by omega)]
  · show vF w k = vF q k
    exact F k hk
  · show vI w k = mixF (idF q n) (vI q) 8 k
    rw [mixF_all (by omega), idF, (I k hk).2, hI]
    by_cases c : vP q k = -6
    · rw [if_pos c, if_pos ⟨fun z => z.2 c, hk⟩]
    · rw [if_neg c, if_neg (fun z => z.1 ⟨hk, c⟩)]
theorem ru_STS (q : RV) (a b c e : Nat → Int32) : ru_S (ru_T (ru_S (ru_T q a) b) c) e = ru_S (ru_T q c) e := rfl
theorem ru_TST (q : RV) (a b c : Nat → Int32) : ru_T (ru_S (ru_T q a) b) c = ru_S (ru_T q c) b := rfl
theorem ru_STc (q : RV) (a b c : Nat → Int32) : ru_S (ru_S (ru_T q a) b) c = ru_S (ru_T q a) c := rfl
theorem rq_TST (q : RV) (a b : Nat → Int32) : rq_T (ru_S (ru_T q a) b) = a := rfl
set_option maxHeartbeats 4000000 in
set_option maxRecDepth 100000 in
theorem lX7_plays_261 (h0 : am_H) (P : Option Value → am_H → Prop) (q : RV) (p n : Nat) (hp : p ≤ 60) (w : SV) (h8 : n ≤ 8) (st s : Nat → Int32) (R : ro_R p n w s) (r c : Int32) (o3 : Int32) (o5 o6 o7 o8 : Option Value) (hP : ∀ s2, ro_R p n (uDa (uRa (uTa w (vTa w + c)) (vRa w + (if r = 0 then 0 else 1))) (vDa w + 1)) s2 → fr_M p s s2 → P (some (.int c)) (md_H (ru_S (ru_T q st) s2))) : am_RW mX7_plays h0 P 0 0 261 [some (.ref 2), some (.int (nI p)), some (.int r), some (.int o3), some (.int c), o5, o6, o7, o8] [] (md_H (ru_S (ru_T q st) s)) := by
  refine ar_aload_n (i := 0) (pc := 261) dX7_plays_261 rfl rfl ?_
  refine ar_getf (pc := 262) dX7_plays_262 fX7_7 rfl rfl ?_
  refine ar_iload_n (i := 1) (pc := 265) dX7_plays_265 rfl rfl ?_
  refine ar_bipush (pc := 266) dX7_plays_266 q_bipush_11 ?_
  refine ar_iadd (pc := 268) dX7_plays_268 ?_
  refine ar_dup2 (pc := 269) dX7_plays_269 rfl rfl ?_
  refine ar_iald (pc := 270) dX7_plays_270 rfl (show p + 11 < 120 by omega) (nI_add p 11) ?_
  rw [rq_SS, roTa R]
  refine ar_iload (pc := 271) dX7_plays_271 rfl ?_
  refine ar_iadd (pc := 273) dX7_plays_273 ?_
  refine ar_iast (pc := 274) dX7_plays_274 rfl (show p + 11 < 120 by omega) (nI_add p 11) ?_
  rw [md_S, rq_SS, ru_STc]
  refine ar_aload_n (i := 0) (pc := 275) dX7_plays_275 rfl rfl ?_
  refine ar_getf (pc := 276) dX7_plays_276 fX7_7 rfl rfl ?_
  refine ar_iload_n (i := 1) (pc := 279) dX7_plays_279 rfl rfl ?_
  refine ar_bipush (pc := 280) dX7_plays_280 q_bipush_10 ?_
  refine ar_iadd (pc := 282) dX7_plays_282 ?_
  refine ar_dup2 (pc := 283) dX7_plays_283 rfl rfl ?_
  refine ar_iald (pc := 284) dX7_plays_284 rfl (show p + 10 < 120 by omega) (nI_add p 10) ?_
  rw [rq_SS, pk_un (by omega), roRa R]
  refine ar_iload_n (i := 2) (pc := 285) dX7_plays_285 rfl rfl ?_
  refine ar_if_eq (pc := 286) (tgt := 293) dX7_plays_286 (by decide) (fun c286 => ?_) (fun c286 => ?_)
  · refine ar_iconst (pc := 293) dX7_plays_293 q_iconst_0 ?_
    refine ar_iadd (pc := 294) dX7_plays_294 ?_
    refine ar_iast (pc := 295) dX7_plays_295 rfl (show p + 10 < 120 by omega) (nI_add p 10) ?_
    rw [md_S, rq_SS, ru_STc]
    refine ar_aload_n (i := 0) (pc := 296) dX7_plays_296 rfl rfl ?_
    refine ar_getf (pc := 297) dX7_plays_297 fX7_7 rfl rfl ?_
    refine ar_iload_n (i := 1) (pc := 300) dX7_plays_300 rfl rfl ?_
    refine ar_bipush (pc := 301) dX7_plays_301 q_bipush_9 ?_
    refine ar_iadd (pc := 303) dX7_plays_303 ?_
    refine ar_dup2 (pc := 304) dX7_plays_304 rfl rfl ?_
    refine ar_iald (pc := 305) dX7_plays_305 rfl (show p + 9 < 120 by omega) (nI_add p 9) ?_
    rw [rq_SS, pk_un (by omega), pk_un (by omega), roDa R]
    refine ar_iconst (pc := 306) dX7_plays_306 q_iconst_1 ?_
    refine ar_iadd (pc := 307) dX7_plays_307 ?_
    refine ar_iast (pc := 308) dX7_plays_308 rfl (show p + 9 < 120 by omega) (nI_add p 9) ?_
    rw [md_S, rq_SS, ru_STc]
    refine ar_iload (pc := 309) dX7_plays_309 rfl ?_
    exact ar_iret (pc := 311) dX7_plays_311 rfl rfl rfl (hP _ (by have h := ro_uDa (ro_uRa (ro_uTa R (vTa w + c)) (vRa w + (if r = 0 then 0 else 1))) (vDa w + 1); rw [if_pos c286] at h ⊢; exact h) (fr_Mu (fr_Mu (fr_Mu (fr_M0 _ _) (by omega) (by omega)) (by omega) (by omega)) (by omega) (by omega)))
  · refine ar_iconst (pc := 289) dX7_plays_289 q_iconst_1 ?_
    refine ar_goto (tgt := 294) (pc := 290) dX7_plays_290 (by decide) ?_
    refine ar_iadd (pc := 294) dX7_plays_294 ?_
    refine ar_iast (pc := 295) dX7_plays_295 rfl (show p + 10 < 120 by omega) (nI_add p 10) ?_
    rw [md_S, rq_SS, ru_STc]
    refine ar_aload_n (i := 0) (pc := 296) dX7_plays_296 rfl rfl ?_
    refine ar_getf (pc := 297) dX7_plays_297 fX7_7 rfl rfl ?_
    refine ar_iload_n (i := 1) (pc := 300) dX7_plays_300 rfl rfl ?_
    refine ar_bipush (pc := 301) dX7_plays_301 q_bipush_9 ?_
    refine ar_iadd (pc := 303) dX7_plays_303 ?_
    refine ar_dup2 (pc := 304) dX7_plays_304 rfl rfl ?_
    refine ar_iald (pc := 305) dX7_plays_305 rfl (show p + 9 < 120 by omega) (nI_add p 9) ?_
    rw [rq_SS, pk_un (by omega), pk_un (by omega), roDa R]
    refine ar_iconst (pc := 306) dX7_plays_306 q_iconst_1 ?_
    refine ar_iadd (pc := 307) dX7_plays_307 ?_
    refine ar_iast (pc := 308) dX7_plays_308 rfl (show p + 9 < 120 by omega) (nI_add p 9) ?_
    rw [md_S, rq_SS, ru_STc]
    refine ar_iload (pc := 309) dX7_plays_309 rfl ?_
    exact ar_iret (pc := 311) dX7_plays_311 rfl rfl rfl (hP _ (by have h := ro_uDa (ro_uRa (ro_uTa R (vTa w + c)) (vRa w + (if r = 0 then 0 else 1))) (vDa w + 1); rw [if_neg c286] at h ⊢; exact h) (fr_Mu (fr_Mu (fr_Mu (fr_M0 _ _) (by omega) (by omega)) (by omega) (by omega)) (by omega) (by omega)))
theorem vS_uT (w : SV) (f : Nat → Int32) : vS (uT w f) = vS w := rfl
theorem vP_uT (w : SV) (f : Nat → Int32) : vP (uT w f) = vP w := rfl
theorem uT_uT (w : SV) (f g : Nat → Int32) : uT (uT w f) g = uT w g := rfl
set_option maxHeartbeats 4000000 in
set_option maxRecDepth 100000 in
theorem lX7_plays_138 (h0 : am_H) (P : Option Value → am_H → Prop) (q : RV) (p n : Nat) (hp : p ≤ 60) (w qq : SV) (h8 : n ≤ 8) (pl : pl_D w n) (st s0 tp : Nat → Int32) (r : Int32) (eT : vT qq = vT w) (hM : ∀ k, k < n → mh_V w st r k = if stP qq n k then hat qq tp r k else 0) (o3 : Int32)
    (hP : ∀ s2, ro_R p n (uDa (uRa (uTa (uT w (mixF (htF qq n tp r) (vT w) n)) (vTa w + cns qq n tp r n)) (vRa w + (if r = 0 then 0 else 1))) (vDa w + 1)) s2 → fr_M p s0 s2 → P (some (.int (cns qq n tp r n))) (md_H (ru_S (ru_T q st) s2))) : ∀ (d k : Nat) (c : Int32) (s : Nat → Int32) (o6 o7 o8 : Option Value), k + d = n → ro_R p n (uT w (mixF (htF qq n tp r) (vT w) k)) s → c = cns qq n tp r k → fr_M p s0 s → am_RW mX7_plays h0 P 0 0 138 [some (.ref 2), some (.int (nI p)), some (.int r), some (.int o3), some (.int c), some (.int (nI k)), o6, o7, o8] [] (md_H (ru_S (ru_T q st) s)) := by
  intro d
  induction d with
  | zero =>
    intro k c s o6 o7 o8 hk R ec M
    have e : k = n := by omega
    subst e
    subst ec
    refine ar_iload (pc := 138) dX7_plays_138 rfl ?_
    refine ar_aload_n (i := 0) (pc := 140) dX7_plays_140 rfl rfl ?_
    refine ar_getf (pc := 141) dX7_plays_141 fX7_7 rfl rfl ?_
    refine ar_iload_n (i := 1) (pc := 144) dX7_plays_144 rfl rfl ?_
    refine ar_bipush (pc := 145) dX7_plays_145 q_bipush_7 ?_
    refine ar_iadd (pc := 147) dX7_plays_147 ?_
    refine ar_iald (pc := 148) dX7_plays_148 rfl (show p + 7 < 120 by omega) (nI_add p 7) ?_
    rw [rq_SS, roN R]
    refine ar_icmp_ge (pc := 149) (tgt := 261) dX7_plays_149 (by decide) (fun c149 => ?_) (fun c149 => absurd (Int32.le_refl _) c149)
    exact lX7_plays_261 h0 P q p k hp _ h8 st s R r _ _ _ _ _ _ (fun s2 h1 h2 => hP s2 h1 (fr_Mt M h2))
  | succ d ih =>
    intro k c s o6 o7 o8 hk R ec M
    have hkn : k < n := by omega
    have hX : ∀ x, x = mh_V w st r k → ro_R p n (uT w (mixF (htF qq n tp r) (vT w) (k + 1))) (upd s (p + 20 + 5 * k + 2) (vT w k + x)) ∧ c + x = cns qq n tp r (k + 1) := fun x ex => by
      refine ⟨?_, cns_m (hM k hkn) ec ex⟩
      have h := ro_uT R k (vT w k + x)
      rw [uT_uT, vu_T, show vT w k + x = htF qq n tp r k by rw [← eT]; exact htF_m (hM k hkn) ex, mixF_s] at h
      rw [show vT w k + x = htF qq n tp r k by rw [← eT]; exact htF_m (hM k hkn) ex]
      exact h
    rcases pl k hkn with ep | ip
    · skip
      refine ar_iload (pc := 138) dX7_plays_138 rfl ?_
      refine ar_aload_n (i := 0) (pc := 140) dX7_plays_140 rfl rfl ?_
      refine ar_getf (pc := 141) dX7_plays_141 fX7_7 rfl rfl ?_
      refine ar_iload_n (i := 1) (pc := 144) dX7_plays_144 rfl rfl ?_
      refine ar_bipush (pc := 145) dX7_plays_145 q_bipush_7 ?_
      refine ar_iadd (pc := 147) dX7_plays_147 ?_
      refine ar_iald (pc := 148) dX7_plays_148 rfl (show p + 7 < 120 by omega) (nI_add p 7) ?_
      rw [rq_SS, roN R]
      refine ar_icmp_ge (pc := 149) (tgt := 261) dX7_plays_149 (by decide) (fun c149 => absurd ((nI_leI (by omega) (by omega)).mp c149) (by omega)) (fun c149 => ?_)
      refine ar_aload_n (i := 0) (pc := 152) dX7_plays_152 rfl rfl ?_
      refine ar_getf (pc := 153) dX7_plays_153 fX7_7 rfl rfl ?_
      refine ar_iload_n (i := 1) (pc := 156) dX7_plays_156 rfl rfl ?_
      refine ar_iload (pc := 157) dX7_plays_157 rfl ?_
      refine ar_idS (pc := 159) dX7_plays_159 cal_X7_at kX7_36 rfl (sX7_at _ p k) rfl rfl rfl rfl rfl (fun r h1 hp => ?_)
      obtain ⟨rfl, rfl⟩ := hp
      refine ⟨rfl, ?_⟩
      refine ar_iconst (pc := 162) dX7_plays_162 q_iconst_1 ?_
      refine ar_iadd (pc := 163) dX7_plays_163 ?_
      refine ar_iald (pc := 164) dX7_plays_164 rfl (show p + 20 + 5 * k + 1 < 120 by omega) (nI_add _ 1) ?_
      rw [rq_SS, roP R hkn, vP_uT, ep, show pm_ (-6) = -1 by decide +kernel]
      refine ar_istore (pc := 165) dX7_plays_165 (Nat.le_of_ble_eq_true rfl) rfl ?_
      refine ar_iload_n (i := 2) (pc := 167) dX7_plays_167 rfl rfl ?_
      refine ar_if_eq (pc := 168) (tgt := 194) dX7_plays_168 (by decide) (fun c168 => ?_) (fun c168 => ?_)
      · refine ar_iconst (pc := 194) dX7_plays_194 q_iconst_1 ?_
        refine ar_goto (tgt := 199) (pc := 195) dX7_plays_195 (by decide) ?_
        refine ar_istore (pc := 199) dX7_plays_199 (Nat.le_of_ble_eq_true rfl) rfl ?_
        refine ar_iload (pc := 201) dX7_plays_201 rfl ?_
        refine ar_if_eq (pc := 203) (tgt := 227) dX7_plays_203 (by decide) (fun c203 => absurd c203 (by decide)) (fun c203 => ?_)
        refine ar_aload_n (i := 0) (pc := 206) dX7_plays_206 rfl rfl ?_
        refine ar_iload (pc := 207) dX7_plays_207 rfl ?_
        refine ar_idV (pc := 209) dX7_plays_209 cal_X7_crowdOf kX7_54 rfl (sX7_crowdOf (ru_S (ru_T q st) s) (b := k) (by omega)) rfl rfl rfl rfl rfl rfl rfl (fun r h1 hp => ?_)
        obtain ⟨rfl, rfl⟩ := hp
        refine ⟨rfl, ?_⟩
        rw [rq_TST]
        refine ar_aload_n (i := 0) (pc := 212) dX7_plays_212 rfl rfl ?_
        refine ar_getf (pc := 213) dX7_plays_213 fX7_7 rfl rfl ?_
        refine ar_iload_n (i := 1) (pc := 216) dX7_plays_216 rfl rfl ?_
        refine ar_iconst (pc := 217) dX7_plays_217 q_iconst_3 ?_
        refine ar_iadd (pc := 218) dX7_plays_218 ?_
        refine ar_iald (pc := 219) dX7_plays_219 rfl (show p + 3 < 120 by omega) (nI_add p 3) ?_
        rw [rq_SS, roS R 3 (by omega), vS_uT]
        refine ar_imul (pc := 220) dX7_plays_220 ?_
        refine ar_bipush (pc := 221) dX7_plays_221 q_bipush_100 ?_
        refine ar_idiv (pc := 223) dX7_plays_223 (by decide) ?_
        refine ar_goto (tgt := 228) (pc := 224) dX7_plays_224 (by decide) ?_
        refine ar_istore (pc := 228) dX7_plays_228 (Nat.le_of_ble_eq_true rfl) rfl ?_
        refine ar_aload_n (i := 0) (pc := 230) dX7_plays_230 rfl rfl ?_
        refine ar_getf (pc := 231) dX7_plays_231 fX7_7 rfl rfl ?_
        refine ar_iload_n (i := 1) (pc := 234) dX7_plays_234 rfl rfl ?_
        refine ar_iload (pc := 235) dX7_plays_235 rfl ?_
        refine ar_idS (pc := 237) dX7_plays_237 cal_X7_at kX7_36 rfl (sX7_at _ p k) rfl rfl rfl rfl rfl (fun r h1 hp => ?_)
        obtain ⟨rfl, rfl⟩ := hp
        refine ⟨rfl, ?_⟩
        refine ar_iconst (pc := 240) dX7_plays_240 q_iconst_2 ?_
        refine ar_iadd (pc := 241) dX7_plays_241 ?_
        refine ar_dup2 (pc := 242) dX7_plays_242 rfl rfl ?_
        refine ar_iald (pc := 243) dX7_plays_243 rfl (show p + 20 + 5 * k + 2 < 120 by omega) (nI_add _ 2) ?_
        rw [rq_SS, roT R hkn, vu_T, mixF_at]
        refine ar_iload (pc := 244) dX7_plays_244 rfl ?_
        refine ar_iadd (pc := 246) dX7_plays_246 ?_
        refine ar_iast (pc := 247) dX7_plays_247 rfl (show p + 20 + 5 * k + 2 < 120 by omega) (nI_add _ 2) ?_
        rw [md_S, rq_SS, ru_STc]
        refine ar_iload (pc := 248) dX7_plays_248 rfl ?_
        refine ar_iload (pc := 250) dX7_plays_250 rfl ?_
        refine ar_iadd (pc := 252) dX7_plays_252 ?_
        refine ar_istore (pc := 253) dX7_plays_253 (Nat.le_of_ble_eq_true rfl) rfl ?_
        refine ar_iinc (pc := 255) dX7_plays_255 rfl (ni_inc _) (Nat.le_of_ble_eq_true rfl) rfl ?_
        refine ar_goto (tgt := 138) (pc := 258) dX7_plays_258 (by decide) ?_
        have hx := hX _ (show _ = mh_V w st r k by unfold mh_V; rw [if_pos]; exact Or.inl c168)
        exact ih (k + 1) _ _ _ _ _ (by omega) hx.1 hx.2 (fr_Mu M (by omega) (by omega))
      · refine ar_iload (pc := 171) dX7_plays_171 rfl ?_
        refine ar_if_lt (pc := 173) (tgt := 198) dX7_plays_173 (by decide) (fun c173 => ?_) (fun c173 => absurd (by decide +kernel) c173)
        refine ar_iconst (pc := 198) dX7_plays_198 q_iconst_0 ?_
        refine ar_istore (pc := 199) dX7_plays_199 (Nat.le_of_ble_eq_true rfl) rfl ?_
        refine ar_iload (pc := 201) dX7_plays_201 rfl ?_
        refine ar_if_eq (pc := 203) (tgt := 227) dX7_plays_203 (by decide) (fun c203 => ?_) (fun c203 => absurd rfl c203)
        refine ar_iconst (pc := 227) dX7_plays_227 q_iconst_0 ?_
        refine ar_istore (pc := 228) dX7_plays_228 (Nat.le_of_ble_eq_true rfl) rfl ?_
        refine ar_aload_n (i := 0) (pc := 230) dX7_plays_230 rfl rfl ?_
        refine ar_getf (pc := 231) dX7_plays_231 fX7_7 rfl rfl ?_
        refine ar_iload_n (i := 1) (pc := 234) dX7_plays_234 rfl rfl ?_
        refine ar_iload (pc := 235) dX7_plays_235 rfl ?_
        refine ar_idS (pc := 237) dX7_plays_237 cal_X7_at kX7_36 rfl (sX7_at _ p k) rfl rfl rfl rfl rfl (fun r h1 hp => ?_)
        obtain ⟨rfl, rfl⟩ := hp
        refine ⟨rfl, ?_⟩
        refine ar_iconst (pc := 240) dX7_plays_240 q_iconst_2 ?_
        refine ar_iadd (pc := 241) dX7_plays_241 ?_
        refine ar_dup2 (pc := 242) dX7_plays_242 rfl rfl ?_
        refine ar_iald (pc := 243) dX7_plays_243 rfl (show p + 20 + 5 * k + 2 < 120 by omega) (nI_add _ 2) ?_
        rw [rq_SS, roT R hkn, vu_T, mixF_at]
        refine ar_iload (pc := 244) dX7_plays_244 rfl ?_
        refine ar_iadd (pc := 246) dX7_plays_246 ?_
        refine ar_iast (pc := 247) dX7_plays_247 rfl (show p + 20 + 5 * k + 2 < 120 by omega) (nI_add _ 2) ?_
        rw [md_S, rq_SS, ru_STc]
        refine ar_iload (pc := 248) dX7_plays_248 rfl ?_
        refine ar_iload (pc := 250) dX7_plays_250 rfl ?_
        refine ar_iadd (pc := 252) dX7_plays_252 ?_
        refine ar_istore (pc := 253) dX7_plays_253 (Nat.le_of_ble_eq_true rfl) rfl ?_
        refine ar_iinc (pc := 255) dX7_plays_255 rfl (ni_inc _) (Nat.le_of_ble_eq_true rfl) rfl ?_
        refine ar_goto (tgt := 138) (pc := 258) dX7_plays_258 (by decide) ?_
        have hx := hX _ (show _ = mh_V w st r k by unfold mh_V; rw [if_neg]; rintro (z | z); exact c168 z; exact z.1 ep)
        exact ih (k + 1) _ _ _ _ _ (by omega) hx.1 hx.2 (fr_Mu M (by omega) (by omega))
    · obtain ⟨o, ho, eo⟩ : ∃ o, o < 12 ∧ vP w k = nI o := ⟨ix (vP w k), by have := ip; unfold ix; omega, ix_eq ip.1⟩
      refine ar_iload (pc := 138) dX7_plays_138 rfl ?_
      refine ar_aload_n (i := 0) (pc := 140) dX7_plays_140 rfl rfl ?_
      refine ar_getf (pc := 141) dX7_plays_141 fX7_7 rfl rfl ?_
      refine ar_iload_n (i := 1) (pc := 144) dX7_plays_144 rfl rfl ?_
      refine ar_bipush (pc := 145) dX7_plays_145 q_bipush_7 ?_
      refine ar_iadd (pc := 147) dX7_plays_147 ?_
      refine ar_iald (pc := 148) dX7_plays_148 rfl (show p + 7 < 120 by omega) (nI_add p 7) ?_
      rw [rq_SS, roN R]
      refine ar_icmp_ge (pc := 149) (tgt := 261) dX7_plays_149 (by decide) (fun c149 => absurd ((nI_leI (by omega) (by omega)).mp c149) (by omega)) (fun c149 => ?_)
      refine ar_aload_n (i := 0) (pc := 152) dX7_plays_152 rfl rfl ?_
      refine ar_getf (pc := 153) dX7_plays_153 fX7_7 rfl rfl ?_
      refine ar_iload_n (i := 1) (pc := 156) dX7_plays_156 rfl rfl ?_
      refine ar_iload (pc := 157) dX7_plays_157 rfl ?_
      refine ar_idS (pc := 159) dX7_plays_159 cal_X7_at kX7_36 rfl (sX7_at _ p k) rfl rfl rfl rfl rfl (fun r h1 hp => ?_)
      obtain ⟨rfl, rfl⟩ := hp
      refine ⟨rfl, ?_⟩
      refine ar_iconst (pc := 162) dX7_plays_162 q_iconst_1 ?_
      refine ar_iadd (pc := 163) dX7_plays_163 ?_
      refine ar_iald (pc := 164) dX7_plays_164 rfl (show p + 20 + 5 * k + 1 < 120 by omega) (nI_add _ 1) ?_
      rw [rq_SS, roP R hkn, vP_uT, eo, pm_nI (by omega)]
      refine ar_istore (pc := 165) dX7_plays_165 (Nat.le_of_ble_eq_true rfl) rfl ?_
      refine ar_iload_n (i := 2) (pc := 167) dX7_plays_167 rfl rfl ?_
      refine ar_if_eq (pc := 168) (tgt := 194) dX7_plays_168 (by decide) (fun c168 => ?_) (fun c168 => ?_)
      · refine ar_iconst (pc := 194) dX7_plays_194 q_iconst_1 ?_
        refine ar_goto (tgt := 199) (pc := 195) dX7_plays_195 (by decide) ?_
        refine ar_istore (pc := 199) dX7_plays_199 (Nat.le_of_ble_eq_true rfl) rfl ?_
        refine ar_iload (pc := 201) dX7_plays_201 rfl ?_
        refine ar_if_eq (pc := 203) (tgt := 227) dX7_plays_203 (by decide) (fun c203 => absurd c203 (by decide)) (fun c203 => ?_)
        refine ar_aload_n (i := 0) (pc := 206) dX7_plays_206 rfl rfl ?_
        refine ar_iload (pc := 207) dX7_plays_207 rfl ?_
        refine ar_idV (pc := 209) dX7_plays_209 cal_X7_crowdOf kX7_54 rfl (sX7_crowdOf (ru_S (ru_T q st) s) (b := k) (by omega)) rfl rfl rfl rfl rfl rfl rfl (fun r h1 hp => ?_)
        obtain ⟨rfl, rfl⟩ := hp
        refine ⟨rfl, ?_⟩
        rw [rq_TST]
        refine ar_aload_n (i := 0) (pc := 212) dX7_plays_212 rfl rfl ?_
        refine ar_getf (pc := 213) dX7_plays_213 fX7_7 rfl rfl ?_
        refine ar_iload_n (i := 1) (pc := 216) dX7_plays_216 rfl rfl ?_
        refine ar_iconst (pc := 217) dX7_plays_217 q_iconst_3 ?_
        refine ar_iadd (pc := 218) dX7_plays_218 ?_
        refine ar_iald (pc := 219) dX7_plays_219 rfl (show p + 3 < 120 by omega) (nI_add p 3) ?_
        rw [rq_SS, roS R 3 (by omega), vS_uT]
        refine ar_imul (pc := 220) dX7_plays_220 ?_
        refine ar_bipush (pc := 221) dX7_plays_221 q_bipush_100 ?_
        refine ar_idiv (pc := 223) dX7_plays_223 (by decide) ?_
        refine ar_goto (tgt := 228) (pc := 224) dX7_plays_224 (by decide) ?_
        refine ar_istore (pc := 228) dX7_plays_228 (Nat.le_of_ble_eq_true rfl) rfl ?_
        refine ar_aload_n (i := 0) (pc := 230) dX7_plays_230 rfl rfl ?_
        refine ar_getf (pc := 231) dX7_plays_231 fX7_7 rfl rfl ?_
        refine ar_iload_n (i := 1) (pc := 234) dX7_plays_234 rfl rfl ?_
        refine ar_iload (pc := 235) dX7_plays_235 rfl ?_
        refine ar_idS (pc := 237) dX7_plays_237 cal_X7_at kX7_36 rfl (sX7_at _ p k) rfl rfl rfl rfl rfl (fun r h1 hp => ?_)
        obtain ⟨rfl, rfl⟩ := hp
        refine ⟨rfl, ?_⟩
        refine ar_iconst (pc := 240) dX7_plays_240 q_iconst_2 ?_
        refine ar_iadd (pc := 241) dX7_plays_241 ?_
        refine ar_dup2 (pc := 242) dX7_plays_242 rfl rfl ?_
        refine ar_iald (pc := 243) dX7_plays_243 rfl (show p + 20 + 5 * k + 2 < 120 by omega) (nI_add _ 2) ?_
        rw [rq_SS, roT R hkn, vu_T, mixF_at]
        refine ar_iload (pc := 244) dX7_plays_244 rfl ?_
        refine ar_iadd (pc := 246) dX7_plays_246 ?_
        refine ar_iast (pc := 247) dX7_plays_247 rfl (show p + 20 + 5 * k + 2 < 120 by omega) (nI_add _ 2) ?_
        rw [md_S, rq_SS, ru_STc]
        refine ar_iload (pc := 248) dX7_plays_248 rfl ?_
        refine ar_iload (pc := 250) dX7_plays_250 rfl ?_
        refine ar_iadd (pc := 252) dX7_plays_252 ?_
        refine ar_istore (pc := 253) dX7_plays_253 (Nat.le_of_ble_eq_true rfl) rfl ?_
        refine ar_iinc (pc := 255) dX7_plays_255 rfl (ni_inc _) (Nat.le_of_ble_eq_true rfl) rfl ?_
        refine ar_goto (tgt := 138) (pc := 258) dX7_plays_258 (by decide) ?_
        have hx := hX _ (show _ = mh_V w st r k by unfold mh_V; rw [if_pos]; exact Or.inl c168)
        exact ih (k + 1) _ _ _ _ _ (by omega) hx.1 hx.2 (fr_Mu M (by omega) (by omega))
      · refine ar_iload (pc := 171) dX7_plays_171 rfl ?_
        refine ar_if_lt (pc := 173) (tgt := 198) dX7_plays_173 (by decide) (fun c173 => absurd c173 (nI_pos (by omega))) (fun c173 => ?_)
        refine ar_aload_n (i := 0) (pc := 176) dX7_plays_176 rfl rfl ?_
        refine ar_getf (pc := 177) dX7_plays_177 fX7_7 rfl rfl ?_
        refine ar_iload_n (i := 1) (pc := 180) dX7_plays_180 rfl rfl ?_
        refine ar_bipush (pc := 181) dX7_plays_181 q_bipush_8 ?_
        refine ar_iadd (pc := 183) dX7_plays_183 ?_
        refine ar_iald (pc := 184) dX7_plays_184 rfl (show p + 8 < 120 by omega) (nI_add p 8) ?_
        rw [rq_SS, roRo R]
        refine ar_iload (pc := 185) dX7_plays_185 rfl ?_
        refine ar_ishr (pc := 187) dX7_plays_187 ?_
        refine ar_iconst (pc := 188) dX7_plays_188 q_iconst_1 ?_
        refine ar_iand (pc := 189) dX7_plays_189 ?_
        refine ar_iconst (pc := 190) dX7_plays_190 q_iconst_1 ?_
        refine ar_icmp_ne (pc := 191) (tgt := 198) dX7_plays_191 (by decide) (fun c191 => ?_) (fun c191 => ?_)
        · refine ar_iconst (pc := 198) dX7_plays_198 q_iconst_0 ?_
          refine ar_istore (pc := 199) dX7_plays_199 (Nat.le_of_ble_eq_true rfl) rfl ?_
          refine ar_iload (pc := 201) dX7_plays_201 rfl ?_
          refine ar_if_eq (pc := 203) (tgt := 227) dX7_plays_203 (by decide) (fun c203 => ?_) (fun c203 => absurd rfl c203)
          refine ar_iconst (pc := 227) dX7_plays_227 q_iconst_0 ?_
          refine ar_istore (pc := 228) dX7_plays_228 (Nat.le_of_ble_eq_true rfl) rfl ?_
          refine ar_aload_n (i := 0) (pc := 230) dX7_plays_230 rfl rfl ?_
          refine ar_getf (pc := 231) dX7_plays_231 fX7_7 rfl rfl ?_
          refine ar_iload_n (i := 1) (pc := 234) dX7_plays_234 rfl rfl ?_
          refine ar_iload (pc := 235) dX7_plays_235 rfl ?_
          refine ar_idS (pc := 237) dX7_plays_237 cal_X7_at kX7_36 rfl (sX7_at _ p k) rfl rfl rfl rfl rfl (fun r h1 hp => ?_)
          obtain ⟨rfl, rfl⟩ := hp
          refine ⟨rfl, ?_⟩
          refine ar_iconst (pc := 240) dX7_plays_240 q_iconst_2 ?_
          refine ar_iadd (pc := 241) dX7_plays_241 ?_
          refine ar_dup2 (pc := 242) dX7_plays_242 rfl rfl ?_
          refine ar_iald (pc := 243) dX7_plays_243 rfl (show p + 20 + 5 * k + 2 < 120 by omega) (nI_add _ 2) ?_
          rw [rq_SS, roT R hkn, vu_T, mixF_at]
          refine ar_iload (pc := 244) dX7_plays_244 rfl ?_
          refine ar_iadd (pc := 246) dX7_plays_246 ?_
          refine ar_iast (pc := 247) dX7_plays_247 rfl (show p + 20 + 5 * k + 2 < 120 by omega) (nI_add _ 2) ?_
          rw [md_S, rq_SS, ru_STc]
          refine ar_iload (pc := 248) dX7_plays_248 rfl ?_
          refine ar_iload (pc := 250) dX7_plays_250 rfl ?_
          refine ar_iadd (pc := 252) dX7_plays_252 ?_
          refine ar_istore (pc := 253) dX7_plays_253 (Nat.le_of_ble_eq_true rfl) rfl ?_
          refine ar_iinc (pc := 255) dX7_plays_255 rfl (ni_inc _) (Nat.le_of_ble_eq_true rfl) rfl ?_
          refine ar_goto (tgt := 138) (pc := 258) dX7_plays_258 (by decide) ?_
          have hx := hX _ (show _ = mh_V w st r k by unfold mh_V; rw [if_neg]; rintro (z | z); exact c168 z; exact c191 (by have z2 := z.2; rw [eo, ix_nI (by omega)] at z2; exact z2))
          exact ih (k + 1) _ _ _ _ _ (by omega) hx.1 hx.2 (fr_Mu M (by omega) (by omega))
        · refine ar_iconst (pc := 194) dX7_plays_194 q_iconst_1 ?_
          refine ar_goto (tgt := 199) (pc := 195) dX7_plays_195 (by decide) ?_
          refine ar_istore (pc := 199) dX7_plays_199 (Nat.le_of_ble_eq_true rfl) rfl ?_
          refine ar_iload (pc := 201) dX7_plays_201 rfl ?_
          refine ar_if_eq (pc := 203) (tgt := 227) dX7_plays_203 (by decide) (fun c203 => absurd c203 (by decide)) (fun c203 => ?_)
          refine ar_aload_n (i := 0) (pc := 206) dX7_plays_206 rfl rfl ?_
          refine ar_iload (pc := 207) dX7_plays_207 rfl ?_
          refine ar_idV (pc := 209) dX7_plays_209 cal_X7_crowdOf kX7_54 rfl (sX7_crowdOf (ru_S (ru_T q st) s) (b := k) (by omega)) rfl rfl rfl rfl rfl rfl rfl (fun r h1 hp => ?_)
          obtain ⟨rfl, rfl⟩ := hp
          refine ⟨rfl, ?_⟩
          rw [rq_TST]
          refine ar_aload_n (i := 0) (pc := 212) dX7_plays_212 rfl rfl ?_
          refine ar_getf (pc := 213) dX7_plays_213 fX7_7 rfl rfl ?_
          refine ar_iload_n (i := 1) (pc := 216) dX7_plays_216 rfl rfl ?_
          refine ar_iconst (pc := 217) dX7_plays_217 q_iconst_3 ?_
          refine ar_iadd (pc := 218) dX7_plays_218 ?_
          refine ar_iald (pc := 219) dX7_plays_219 rfl (show p + 3 < 120 by omega) (nI_add p 3) ?_
          rw [rq_SS, roS R 3 (by omega), vS_uT]
          refine ar_imul (pc := 220) dX7_plays_220 ?_
          refine ar_bipush (pc := 221) dX7_plays_221 q_bipush_100 ?_
          refine ar_idiv (pc := 223) dX7_plays_223 (by decide) ?_
          refine ar_goto (tgt := 228) (pc := 224) dX7_plays_224 (by decide) ?_
          refine ar_istore (pc := 228) dX7_plays_228 (Nat.le_of_ble_eq_true rfl) rfl ?_
          refine ar_aload_n (i := 0) (pc := 230) dX7_plays_230 rfl rfl ?_
          refine ar_getf (pc := 231) dX7_plays_231 fX7_7 rfl rfl ?_
          refine ar_iload_n (i := 1) (pc := 234) dX7_plays_234 rfl rfl ?_
          refine ar_iload (pc := 235) dX7_plays_235 rfl ?_
          refine ar_idS (pc := 237) dX7_plays_237 cal_X7_at kX7_36 rfl (sX7_at _ p k) rfl rfl rfl rfl rfl (fun r h1 hp => ?_)
          obtain ⟨rfl, rfl⟩ := hp
          refine ⟨rfl, ?_⟩
          refine ar_iconst (pc := 240) dX7_plays_240 q_iconst_2 ?_
          refine ar_iadd (pc := 241) dX7_plays_241 ?_
          refine ar_dup2 (pc := 242) dX7_plays_242 rfl rfl ?_
          refine ar_iald (pc := 243) dX7_plays_243 rfl (show p + 20 + 5 * k + 2 < 120 by omega) (nI_add _ 2) ?_
          rw [rq_SS, roT R hkn, vu_T, mixF_at]
          refine ar_iload (pc := 244) dX7_plays_244 rfl ?_
          refine ar_iadd (pc := 246) dX7_plays_246 ?_
          refine ar_iast (pc := 247) dX7_plays_247 rfl (show p + 20 + 5 * k + 2 < 120 by omega) (nI_add _ 2) ?_
          rw [md_S, rq_SS, ru_STc]
          refine ar_iload (pc := 248) dX7_plays_248 rfl ?_
          refine ar_iload (pc := 250) dX7_plays_250 rfl ?_
          refine ar_iadd (pc := 252) dX7_plays_252 ?_
          refine ar_istore (pc := 253) dX7_plays_253 (Nat.le_of_ble_eq_true rfl) rfl ?_
          refine ar_iinc (pc := 255) dX7_plays_255 rfl (ni_inc _) (Nat.le_of_ble_eq_true rfl) rfl ?_
          refine ar_goto (tgt := 138) (pc := 258) dX7_plays_258 (by decide) ?_
          have hx := hX _ (show _ = mh_V w st r k by unfold mh_V; rw [if_pos]; exact Or.inr ⟨by rw [eo]; exact nI_m6 (by omega), by rw [eo, ix_nI (by omega)]; exact c191⟩)
          exact ih (k + 1) _ _ _ _ _ (by omega) hx.1 hx.2 (fr_Mu M (by omega) (by omega))
