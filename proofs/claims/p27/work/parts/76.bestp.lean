/-! the law: more answers; a booth at all pitches and with all heights, purely -/
theorem an_standt {gg : Nat → Int32} {κ n : Nat} {v : SV} (K : ok_D v n) {j : Nat} (hj : j < n) {q : Int32} (hq : q = -6 ∨ inP q) (ht : tkP v n q j) : an_S gg mX6_stand [.int (nI j), .int q] (-5) κ v κ v := an_rp fun ff z e => by
  subst e
  exact cv_rp (sX6_stand_t false ff false gg z n K.1 K.2.1.1 hj q hq ht)
theorem an_stands {gg : Nat → Int32} {n : Nat} {v : SV} (K : ok_D v n) {j : Nat} (hj : j < n) {q : Int32} (hq : q = -6 ∨ inP q) (ht : ¬ tkP v n q j) : an_S gg mX6_stand [.int (nI j), .int q] (vP v j) 6 v 6 (uP v (upd (vP v) j q)) := an_cr (Nat.le_refl 6) fun ff z e h1 h2 => by
  subst e
  exact sX6_stand_s false ff false gg z n K.1 K.2.1.1 hj q hq ht h1 h2
theorem an_heights {gg : Nat → Int32} {n : Nat} {v : SV} (K : ok_D v n) {j : Nat} (hj : j < n) {a : Int32} (ha : 1 ≤ a.toInt ∧ a.toInt ≤ 9) : an_S gg mX6_height [.int (nI j), .int a] (vH v j) 6 v 6 (uH v (upd (vH v) j a)) := an_cr (Nat.le_refl 6) fun ff z e h1 h2 => by
  subst e
  exact sX6_height_s false ff false gg z n K.1 K.2.1.1 hj a ha h1 h2
theorem an_ifst {gg : Nat → Int32} {κ n : Nat} {v : SV} (K : ok_D v n) {j k : Nat} (hj : j < n) (hk : k < 12) (ht : tkP v n (nI k) j) : an_S gg mX6_ifStood [.int (nI j), .int (nI k)] (-5) κ v κ v := an_rp fun ff z e => by
  subst e
  refine am_wk (sX6_ifStood false ff false gg z n K.1 K.2.1.1 (nI j) (nI k)) fun r h1 hp => ?_
  rw [ix_nI (show j < 2147483648 by have := K.2.1.1; omega)] at hp
  rcases hp with ⟨a, -⟩ | ⟨-, -, b, c⟩ | ⟨-, a, -⟩
  · exact absurd ⟨bk_j K.2.1.1 hj, in_p hk⟩ a
  · exact ⟨b, z, c, eq_Zr z⟩
  · exact absurd ht a
theorem an_ifss {gg : Nat → Int32} {κ n : Nat} {v : SV} (K : ok_D v n) {j k : Nat} (hj : j < n) (hk : k < 12) (ht : ¬ tkP v n (nI k) j) : an_S gg mX6_ifStood [.int (nI j), .int (nI k)] (bc_F v n j k) κ v κ v := an_rp fun ff z e => by
  subst e
  refine am_wk (sX6_ifStood false ff false gg z n K.1 K.2.1.1 (nI j) (nI k)) fun r h1 hp => ?_
  rw [ix_nI (show j < 2147483648 by have := K.2.1.1; omega)] at hp
  rcases hp with ⟨a, -⟩ | ⟨-, a, -⟩ | ⟨-, -, b, x', c⟩
  · exact absurd ⟨bk_j K.2.1.1 hj, in_p hk⟩ a
  · exact absurd a ht
  · exact ⟨b, _, c, eq_ZW z x'⟩
theorem an_ifso {gg : Nat → Int32} {κ n : Nat} {v : SV} (K : ok_D v n) (b p : Int32) (h : ¬ inP p) : an_S gg mX6_ifStood [.int b, .int p] (-1) κ v κ v := an_rp fun ff z e => by
  subst e
  refine am_wk (sX6_ifStood false ff false gg z n K.1 K.2.1.1 b p) fun r h1 hp => ?_
  rcases hp with ⟨-, b, c⟩ | ⟨a, -⟩ | ⟨a, -⟩
  · exact ⟨b, z, c, eq_Zr z⟩
  · exact absurd a.2 h
  · exact absurd a.2 h
theorem an_bp {gg : Nat → Int32} {κ n : Nat} {v : SV} (K : ok_D v n) {j : Nat} (hj : j < n) : an_S gg mX6_bestPitch [.int (nI j)] (bopC (bc_F v n j) (bo_F v n j) 12).1 κ v κ v := an_rp fun ff z e => by
  subst e
  refine am_wk (sX6_bestPitch false ff false gg z n K.1 K.2.1.1 (nI j)) fun r h1 hp => ?_
  rcases hp with ⟨-, b, x', c⟩ | ⟨a, -⟩
  · refine ⟨?_, _, c, eq_ZW z x'⟩
    rw [b]
    show some (Value.int (bopC (crV _ _ _ _ _ _ (vH (pN z) (ix (nI j)))) _ 12).1) = _
    rw [ix_nI (show j < 2147483648 by have := K.2.1.1; omega)]
  · exact absurd (bk_j K.2.1.1 hj) a
theorem an_bpn {gg : Nat → Int32} {κ n : Nat} {v : SV} (K : ok_D v n) (b : Int32) (hb : ¬ bkP n b) : an_S gg mX6_bestPitch [.int b] (-1) κ v κ v := an_rp fun ff z e => by
  subst e
  refine am_wk (sX6_bestPitch false ff false gg z n K.1 K.2.1.1 b) fun r h1 hp => ?_
  rcases hp with ⟨a, -⟩ | ⟨-, b, c⟩
  · exact absurd a hb
  · exact ⟨b, z, c, eq_Zr z⟩
theorem an_bhs {gg : Nat → Int32} {κ n : Nat} {v : SV} (K : ok_D v n) {j : Nat} (hj : j < n) (hs : stP v n j) : an_S gg mX6_bestHeight [.int (nI j)] (bhF (crH v n j) 8).1 κ v κ v := an_rp fun ff z e => by
  subst e
  exact cv_rpW (sX6_bestHeight_s false ff false gg z n K.1 K.2.1.1 hj hs)
theorem an_bhz {gg : Nat → Int32} {κ n : Nat} {v : SV} (K : ok_D v n) {j : Nat} (hj : j < n) (e : vP v j = -6) : an_S gg mX6_bestHeight [.int (nI j)] (-5) κ v κ v := an_rp fun ff z e' => by
  subst e'
  exact cv_rp (sX6_bestHeight_z false ff false gg z n K.1 K.2.1.1 hj (fun q => q.2 e))
/-! a booth that is moved -/
abbrev mv_W (v : SV) (b : Nat) (y : Int32) : SV := uP v (upd (vP v) b y)
theorem mv_mv (v : SV) (b : Nat) (y x : Int32) : mv_W (mv_W v b y) b x = mv_W v b x := by
  show uP v (upd (upd (vP v) b y) b x) = _
  rw [upd2']
theorem mv_bk (v : SV) (b : Nat) (y : Int32) : mv_W (mv_W v b y) b (vP v b) = v := by
  show uP v (upd (upd (vP v) b y) b (vP v b)) = v
  rw [upd_back]
  rfl
theorem mv_sf (v : SV) (b : Nat) : mv_W v b (vP v b) = v := by
  show uP v (upd (vP v) b (vP v b)) = v
  rw [upd_self rfl]
  rfl
theorem mv_lk (v : SV) (n : Nat) {b : Nat} (hb : b < 8) (y : Int32) : ∀ m, m ≤ 8 → lkT (mv_W v b y) n (nI b) m = lkT v n (nI b) m
  | 0, _ => rfl
  | m + 1, h => by
    rw [lkT, lkT, mv_lk v n hb y m (by omega)]
    by_cases e : nI m = nI b
    · rw [if_neg (fun q => q.1 e), if_neg (fun q => q.1 e)]
    · have hm : m ≠ b := fun z => e (by rw [z])
      have ep : vP (mv_W v b y) m = vP v m := pk_un hm
      by_cases c : stP v n m
      · rw [if_pos ⟨e, c.1, by rw [ep]; exact c.2⟩, if_pos ⟨e, c⟩, ep]
        rfl
      · rw [if_neg (fun q => c ⟨q.2.1, by rw [← ep]; exact q.2.2⟩), if_neg (fun q => c q.2)]
theorem mv_tk {v : SV} {n b k : Nat} {y : Int32} (K : ok_D v n) (K2 : ok_D (mv_W v b y) n) (hb : b < n) (hk : k < 12) : tkP (mv_W v b y) n (nI k) b ↔ tkP v n (nI k) b := by
  have h1 := tk_op K hb hk
  have h2 := tk_op K2 hb hk
  rw [mv_lk v n (by have := K.2.1.1; omega) y 8 (Nat.le_refl 8)] at h2
  exact Decidable.not_iff_not.mp (h2.trans h1.symm)
theorem mv_tkw {v : SV} {n b : Nat} {y : Int32} (K : ok_D v n) (K2 : ok_D (mv_W v b y) n) (hb : b < n) : ¬ tkP (mv_W v b y) n (vP v b) b := by
  rcases K.2.1.2.2.2.2.1 b hb with e | ip
  · rw [e]; exact tk_6
  · have e := ix_eq ip.1
    have h12 : ix (vP v b) < 12 := by unfold ix; have := ip.1; have := ip.2; omega
    rw [e, mv_tk K K2 hb h12]
    rintro ⟨i, h1, h2⟩
    rw [show ffi (atQ v n (nI (ix (vP v b)))) 8 0 = some b from tp_some K.2.1.2.2.2.1 K.2.1.1 h12 hb e] at h1
    exact h2 (Option.some.inj h1).symm
/-- its crowd where it was put -/
theorem mv_cr {v : SV} {n b k : Nat} (K : ok_D v n) (K2 : ok_D (mv_W v b (nI k)) n) (hb : b < n) (hk : k < 12) : crA (mv_W v b (nI k)) (lkT (mv_W v b (nI k)) n (-6) 8) (vP (mv_W v b (nI k)) b) (vH (mv_W v b (nI k)) b) = bc_F v n b k := by
  show crA v (lkT (mv_W v b (nI k)) n (-6) 8) (upd (vP v) b (nI k) b) (vH v b) = crA v (lkT v n (nI b) 8) (nI k) (vH v b)
  rw [pk_us]
  exact crA_cong fun q hq hne => (to_move K.2.1.1 hb (to_lkT K.2.1.2.2.2.1 (by have := K.2.1.1; omega)) (to_lk6 K2.2.1.2.2.2.1) hk hq fun z => hne (by rw [z])).symm
/-- some pitch is left for a booth -/
theorem mv_ex {v : SV} {n b : Nat} (K : ok_D v n) : ∃ k, k < 12 ∧ ¬ tkP v n (nI k) b := by
  refine Classical.byContradiction fun h => ?_
  have all : ∀ k, k < 12 → bo_O v n k ≠ none := fun k hk e => h ⟨k, hk, fun ⟨i, h1, _⟩ => by
    have h1' : bo_O v n k = some i := h1
    rw [e] at h1'
    cases h1'⟩
  have e1 : cn_N v n 12 = 12 := (su_Nc (g := fun _ => 1) 12 fun k hk => if_neg (all k hk)).trans (by decide)
  have e2 : cst v n 8 ≤ 8 := by
    rw [cst_su]
    have := su_Nb (f := fun k => if stP v n k then 1 else 0) (c := 1) 8 fun k _ => by
      show (if stP v n k then 1 else 0) ≤ 1
      split <;> omega
    omega
  rw [cn_cst K.2.1.1 K.2.1.2.2.2.1 K.2.1.2.2.2.2.1, e1] at e2
  omega
/-- the running best -/
theorem bo_t {v : SV} {n b k : Nat} (K : ok_D v n) (hb : b < n) (hk : k < 12) (ht : tkP v n (nI k) b) : bopC (bc_F v n b) (bo_F v n b) (k + 1) = bopC (bc_F v n b) (bo_F v n b) k ∧ ¬ (bopC (bc_F v n b) (bo_F v n b) k).2 < -5 := by
  refine ⟨bopC_n _ _ _ fun q => (tk_op K hb hk).mpr q.2 ht, fun c => ?_⟩
  have := bop_ge (bc_F v n b) (bo_F v n b) k
  exact absurd (Int32.lt_of_le_of_lt this c) (by decide)
theorem bo_y {v : SV} {n b k : Nat} (K : ok_D v n) (hb : b < n) (hk : k < 12) (ht : ¬ tkP v n (nI k) b) (c : (bopC (bc_F v n b) (bo_F v n b) k).2 < bc_F v n b k) : bopC (bc_F v n b) (bo_F v n b) (k + 1) = (nI k, bc_F v n b k) := bopC_s _ _ _ ⟨c, (tk_op K hb hk).mp ht⟩
theorem bo_no {v : SV} {n b k : Nat} (c : ¬ (bopC (bc_F v n b) (bo_F v n b) k).2 < bc_F v n b k) : bopC (bc_F v n b) (bo_F v n b) (k + 1) = bopC (bc_F v n b) (bo_F v n b) k := bopC_n _ _ _ fun q => c q.1
theorem bc_nn {v : SV} {n b k : Nat} (K : ok_D v n) : bc_F v n b k ≠ -5 := fun e => cr_nn K (lkT v n (nI b) 8) (nI k) (vH v b) (by
  rw [show crA v (lkT v n (nI b) 8) (nI k) (vH v b) = bc_F v n b k from rfl, e]
  decide)
/-! heights -/
abbrev hw_W (v : SV) (b : Nat) (y : Int32) : SV := uH v (upd (vH v) b y)
theorem hw_hw (v : SV) (b : Nat) (y x : Int32) : hw_W (hw_W v b y) b x = hw_W v b x := by
  show uH v (upd (upd (vH v) b y) b x) = _
  rw [upd2']
theorem hw_bk (v : SV) (b : Nat) (y : Int32) : hw_W (hw_W v b y) b (vH v b) = v := by
  show uH v (upd (upd (vH v) b y) b (vH v b)) = v
  rw [upd_back]
  rfl
theorem hw_sf (v : SV) (b : Nat) : hw_W v b (vH v b) = v := by
  show uH v (upd (vH v) b (vH v b)) = v
  rw [upd_self rfl]
  rfl
theorem hw_cr {v : SV} {n b h : Nat} (K : ok_D v n) (hb : b < n) (hs : stP v n b) : crA (hw_W v b (nI h)) (lkT (hw_W v b (nI h)) n (-6) 8) (vP (hw_W v b (nI h)) b) (vH (hw_W v b (nI h)) b) = crH v n b h := by
  have D : di_D (hw_W v b (nI h)) n := K.2.1.2.2.2.1
  rw [← sb_cr K.2.1.1 D b]
  exact bh_cr K hb hs h
/-- the running best height, from none on -/
def bl_F (cr : Nat → Int32) : Nat → Int32 × Int32
  | 0 => (0, -1)
  | k + 1 => if (bl_F cr k).2 < cr (k + 1) then (nI (k + 1), cr (k + 1)) else bl_F cr k
theorem bl_bh {cr : Nat → Int32} (h : -1 < cr 1) : ∀ k, bl_F cr (k + 1) = bhF cr k
  | 0 => by
    rw [bl_F, bl_F, if_pos h]
    rfl
  | k + 1 => by rw [bl_F, bl_bh h k, bhF]
theorem cr_1 {v : SV} {n b : Nat} (K : ok_D v n) (h : Nat) : -1 < crH v n b h := Int32.not_le.mp (cr_nn K (lkT v n (nI b) 8) (vP v b) (nI h))
theorem bc_mv {v : SV} {n b k : Nat} {y : Int32} (hb : b < 8) : bc_F (mv_W v b y) n b k = bc_F v n b k := by
  show crA v (lkT (mv_W v b y) n (nI b) 8) (nI k) (vH v b) = crA v (lkT v n (nI b) 8) (nI k) (vH v b)
  rw [mv_lk v n hb y 8 (Nat.le_refl 8)]
theorem an_mv {gg : Nat → Int32} {n b : Nat} {v : SV} {y q : Int32} (K2 : ok_D (mv_W v b y) n) (hb : b < n) (hq : q = -6 ∨ inP q) (ht : ¬ tkP (mv_W v b y) n q b) : an_S gg mX6_stand [.int (nI b), .int q] y 6 (mv_W v b y) 6 (mv_W v b q) := by
  have A := an_stands (gg := gg) K2 hb hq ht
  rw [show uP (mv_W v b y) (upd (vP (mv_W v b y)) b q) = mv_W v b q from mv_mv v b y q, show vP (mv_W v b y) b = y from pk_us] at A
  exact A
theorem an_mvb {gg : Nat → Int32} {n b : Nat} {v : SV} {y : Int32} (K : ok_D v n) (K2 : ok_D (mv_W v b y) n) (hb : b < n) : an_S gg mX6_stand [.int (nI b), .int (vP v b)] y 6 (mv_W v b y) 6 v := by
  have A := an_mv (gg := gg) K2 hb (K.2.1.2.2.2.2.1 b hb) (mv_tkw K K2 hb)
  rw [mv_sf] at A
  exact A
theorem an_hw {gg : Nat → Int32} {n b : Nat} {v : SV} {y q : Int32} (K2 : ok_D (hw_W v b y) n) (hb : b < n) (hq : 1 ≤ q.toInt ∧ q.toInt ≤ 9) : an_S gg mX6_height [.int (nI b), .int q] y 6 (hw_W v b y) 6 (hw_W v b q) := by
  have A := an_heights (gg := gg) K2 hb hq
  rw [show uH (hw_W v b y) (upd (vH (hw_W v b y)) b q) = hw_W v b q from hw_hw v b y q, show vH (hw_W v b y) b = y from pk_us] at A
  exact A
theorem an_hwb {gg : Nat → Int32} {n b : Nat} {v : SV} {y : Int32} (K : ok_D v n) (K2 : ok_D (hw_W v b y) n) (hb : b < n) : an_S gg mX6_height [.int (nI b), .int (vH v b)] y 6 (hw_W v b y) 6 v := by
  have A := an_hw (gg := gg) K2 hb (K.2.1.2.2.1 b hb)
  rw [hw_sf] at A
  exact A
theorem mv_5 {v : SV} {n b : Nat} {y : Int32} (K2 : ok_D (mv_W v b y) n) (hb : b < n) : y ≠ -5 := by
  have h := K2.2.1.2.2.2.2.1 b hb
  rw [show vP (mv_W v b y) b = y from pk_us] at h
  intro e
  rw [e] at h
  exact absurd h (by decide)
theorem hw_y {v : SV} {n b : Nat} {y : Int32} (K2 : ok_D (hw_W v b y) n) (hb : b < n) : ¬ y ≤ 0 := by
  have h := K2.2.1.2.2.1 b hb
  rw [show vH (hw_W v b y) b = y from pk_us] at h
  rw [Int32.le_iff_toInt_le, ti_0]
  omega
