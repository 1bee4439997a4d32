/-! the reference: plays -/
/-- what the hat of the booth k brings, as the reference reckons -/
def mh_V (w : SV) (st : Nat → Int32) (r : Int32) (k : Nat) : Int32 := if r = 0 ∨ (vP w k ≠ -6 ∧ rfP (vRo w) (ix (vP w k))) then (st (2 * k) + st (2 * k + 1)) * vS w 3 / 100 else 0
theorem z_hat (x : Int32) : (0 : Int32) * x / 100 = 0 := by
  rw [show (0 : Int32) * x = 0 by refine Int32.toInt_inj.mp ?_; simp]
  decide +kernel
theorem stp_6 {ar ta : Nat → Int32} {sh h : Int32} : stpV ar ta sh (-6) h = 0 := by rw [stpV, if_neg (fun z => inP_6 z.1)]
theorem stp_no {w : SV} {n k : Nat} (pl : pl_D w n) (hk : k < n) (h : ¬ stP w n k) : vP w k = -6 := (pl k hk).resolve_right fun z => h ⟨hk, fun e => inP_6 (by rw [← e]; exact z)⟩
theorem dy_hat {w q : SV} {n : Nat} {tp st : Nat → Int32} {r : Int32} (h8 : n ≤ 8) (hst : ∀ b, b < n → st (2 * b) = sb_V 1 w n b ∧ st (2 * b + 1) = sb_V 0 w n b) (D : di_D w n) (T : to_T w n 8 tp) (eP : ∀ b, b < n → vP w b = vP q b) (eH : vH w = vH q) (eS : vS w = vS q) (eR : vRo w = vRo q) {k : Nat} (hk : k < n) : mh_V w st r k = if stP q n k then hat q tp r k else 0 := by
  have ec : st (2 * k) + st (2 * k + 1) = crA w tp (vP w k) (vH w k) := by
    rw [(hst k hk).1, (hst k hk).2]
    show crA w (tpV w n) (vP w k) (vH w k) = _
    exact crA_cong fun x hx _ => to_uniq h8 (to_tpV D h8) T hx
  unfold mh_V
  rw [ec]
  by_cases c : stP q n k
  · have c6 : vP w k ≠ -6 := by rw [eP k hk]; exact c.2
    rw [if_pos c, hat, crd]
    by_cases e : ¬ r = 0 ∧ ¬ rfP (vRo q) (ix (vP q k))
    · rw [if_pos e, z_hat, if_neg]
      rintro (z | z)
      · exact e.1 z
      · rw [eR, eP k hk] at z
        exact e.2 z.2
    · rw [if_neg e, if_pos]
      · rw [eP k hk, eH]
        unfold crA
        rw [eS]
      · by_cases z : r = 0
        · exact Or.inl z
        · exact Or.inr ⟨c6, by rw [eR, eP k hk]; exact Classical.not_not.mp fun y => e ⟨z, y⟩⟩
  · have c6 : vP w k = -6 := Classical.not_not.mp fun z => c ⟨hk, by rw [← eP k hk]; exact z⟩
    rw [if_neg c, c6, show crA w tp (-6) (vH w k) = 0 by unfold crA; rw [stp_6, stp_6]; rfl, z_hat]
    by_cases e : r = 0 ∨ ((-6 : Int32) ≠ -6 ∧ rfP (vRo w) (ix (-6)))
    · rw [if_pos e]
    · rw [if_neg e]
theorem cns_m {q : SV} {n : Nat} {tp st : Nat → Int32} {w : SV} {r : Int32} {k : Nat} {c x : Int32} (hM : mh_V w st r k = if stP q n k then hat q tp r k else 0) (ec : c = cns q n tp r k) (ex : x = mh_V w st r k) : c + x = cns q n tp r (k + 1) := by
  rw [ex, hM]
  by_cases h : stP q n k
  · rw [if_pos h]
    exact cns_y ec h rfl
  · rw [if_neg h, add_0']
    exact cns_n ec h
theorem htF_m {q : SV} {n : Nat} {tp st : Nat → Int32} {w : SV} {r : Int32} {k : Nat} {x : Int32} (hM : mh_V w st r k = if stP q n k then hat q tp r k else 0) (ex : x = mh_V w st r k) : vT q k + x = htF q n tp r k := by
  rw [ex, hM, htF]
  by_cases h : stP q n k
  · rw [if_pos h, if_pos h]
  · rw [if_neg h, if_neg h, add_0']
theorem cns_end {q : SV} {n : Nat} {tp : Nat → Int32} {r : Int32} : ∀ m, cns q n tp r (n + m) = cns q n tp r n
  | 0 => rfl
  | m + 1 => by
    rw [← cns_end m, show n + (m + 1) = n + m + 1 by omega, cns_s, cnS, if_neg (fun z => absurd z.1 (by omega))]
