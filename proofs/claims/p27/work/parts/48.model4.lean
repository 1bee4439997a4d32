/-- the first n places hold each number below n once, the others none -/
def pe_D (n : Nat) (f : Nat → Int32) : Prop := (∀ k, k < n → ∃ b, b < n ∧ f k = nI b) ∧ (∀ j k, j < n → k < n → f j = f k → j = k) ∧ (∀ k, n ≤ k → k < 8 → f k = -6) ∧ ∀ b, b < n → ∃ k, k < n ∧ f k = nI b
theorem pe_fil {n : Nat} (h8 : n ≤ 8) : pe_D n (filI n) := by
  refine ⟨fun k hk => ⟨k, hk, by rw [filI, if_pos hk]⟩, fun j k hj hk e => ?_, fun k hk _ => by rw [filI, if_neg (by omega)], fun b hb => ⟨b, hb, by rw [filI, if_pos hb]⟩⟩
  rw [filI, filI, if_pos hj, if_pos hk] at e
  exact (nI_eq (by omega) (by omega)).mp e
def tr_N (i j k : Nat) : Nat := if k = j then i else if k = i then j else k
theorem swp_tr (f : Nat → Int32) (i j k : Nat) : swp f i j k = f (tr_N i j k) := by
  unfold swp tr_N
  by_cases e : k = j
  · subst e; rw [pk_us, if_pos rfl]
  · rw [pk_un e, if_neg e]
    by_cases e2 : k = i
    · subst e2; rw [pk_us, if_pos rfl]
    · rw [pk_un e2, if_neg e2]
theorem tr_tr (i j k : Nat) : tr_N i j (tr_N i j k) = k := by
  unfold tr_N
  by_cases e : k = j
  · rw [if_pos e]
    by_cases e2 : i = j
    · rw [if_pos e2]; omega
    · rw [if_neg e2, if_pos rfl]; omega
  · rw [if_neg e]
    by_cases e2 : k = i
    · rw [if_pos e2, if_pos rfl]; omega
    · rw [if_neg e2, if_neg e, if_neg e2]
theorem tr_lt {i j k n : Nat} (hi : i < n) (hj : j < n) (hk : k < n) : tr_N i j k < n := by
  unfold tr_N
  split
  · exact hi
  · split
    · exact hj
    · exact hk
theorem pe_swp {n i j : Nat} {f : Nat → Int32} (hi : i < n) (hj : j < n) (h : pe_D n f) : pe_D n (swp f i j) := by
  obtain ⟨h1, h2, h3, h4⟩ := h
  refine ⟨fun k hk => by rw [swp_tr]; exact h1 _ (tr_lt hi hj hk), fun a b ha hb e => ?_, fun k hk hk8 => ?_, fun b hb => ?_⟩
  · rw [swp_tr, swp_tr] at e
    have := congrArg (tr_N i j) (h2 _ _ (tr_lt hi hj ha) (tr_lt hi hj hb) e)
    rw [tr_tr, tr_tr] at this
    exact this
  · rw [swp_tr, show tr_N i j k = k by unfold tr_N; rw [if_neg (by omega), if_neg (by omega)]]
    exact h3 k hk hk8
  · obtain ⟨k, hk, e⟩ := h4 b hb
    exact ⟨tr_N i j k, tr_lt hi hj hk, by rw [swp_tr, tr_tr]; exact e⟩
theorem dl_e {p : Nat} {x : Int64} {f : Nat → Int32} {o : Nat} (ho : o < 8) (e : drw x (p + 1 + 1) = nI o) : dlots (p + 1) x f = dlots p (lcg x) (swp f (p + 1) o) := by
  rw [dlots_s, e, dsw, if_pos, ix_nI (by omega)]
  have := nI_toInt (n := o) (by omega)
  constructor <;> omega
theorem pe_dl {n : Nat} (h8 : n ≤ 8) : ∀ (p : Nat) (x : Int64) (f : Nat → Int32), p < n → xr_D x → pe_D n f → pe_D n (dlots p x f).2 ∧ xr_D (dlots p x f).1
  | 0, x, f, _, hx, hf => ⟨hf, hx⟩
  | p + 1, x, f, hp, hx, hf => by
    obtain ⟨o, ho, e⟩ := dr_lt hx (m := p + 1 + 1) (by omega) (by omega)
    rw [dl_e (by omega) e]
    exact pe_dl h8 p (lcg x) _ (by omega) (xr_l hx) (pe_swp (by omega) (by omega) hf)
theorem pe_dl0 {n : Nat} (h8 : n ≤ 8) {x : Int64} (hx : xr_D x) : pe_D n (dlots (n - 1) x (filI n)).2 ∧ xr_D (dlots (n - 1) x (filI n)).1 := by
  cases n with
  | zero => exact ⟨pe_fil h8, hx⟩
  | succ m => exact pe_dl h8 m x _ (by omega) hx (pe_fil h8)
def he_D (w : SV) (n : Nat) : Prop := ∀ k, k < n → 1 ≤ (vH w k).toInt ∧ (vH w k).toInt ≤ 9
theorem dst_0 (j : Nat) : dst j j = 0 := by unfold dst; rw [if_neg (by omega)]; omega
theorem di_put {w : SV} {n b j : Nat} (D : di_D w n) (hj : j < 12) (F : fr_K w j n) : di_D (uP w (upd (vP w) b (nI j))) n := by
  have no : ∀ i, i < n → vP w i = nI j → False := fun i hi e => by
    have h := (F i hi (by rw [e]; exact nI_m6 (by omega))).2
    rw [e, ix_nI (by omega), dst_0, nI_0] at h
    exact absurd h (by decide +kernel)
  intro i k hi hk
  show upd (vP w) b (nI j) i ≠ -6 → upd (vP w) b (nI j) i = upd (vP w) b (nI j) k → i = k
  by_cases e1 : i = b
  · by_cases e2 : k = b
    · intro _ _; rw [e1, e2]
    · subst e1
      rw [pk_us, pk_un e2]
      exact fun _ z => (no k hk z.symm).elim
  · by_cases e2 : k = b
    · subst e2
      rw [pk_us, pk_un e1]
      exact fun _ z => (no i hi z).elim
    · rw [pk_un e1, pk_un e2]
      exact D i k hi hk
theorem fr_op {w : SV} {n j : Nat} {tp : Nat → Int32} (h8 : n ≤ 8) (hj : j < 12) (T : to_T w n 8 tp) (pl : pl_D w n) (he : he_D w n) (hg : 0 ≤ vS w 4) : fr_K w j n ↔ opP tp j (vS w 4) := by
  constructor
  · intro F o ho z
    by_cases c : ∃ k, k < n ∧ vP w k = nI o
    · obtain ⟨k, c1, c2⟩ := c
      have h := (F k c1 (by rw [c2]; exact nI_m6 (by omega))).1
      rw [c2, ix_nI (by omega)] at h
      exact absurd z.2 (Int32.not_le.mpr h)
    · rw [(T o ho).2 fun k _ c1 _ c2 => c ⟨k, c1, c2⟩] at z
      exact absurd z.1 (by decide)
  · intro O i hi hn
    have ip : inP (vP w i) := (pl i hi).resolve_left hn
    have e := ix_eq ip.1
    have lo : ix (vP w i) < 12 := by have := ip; unfold ix; omega
    have h := O (ix (vP w i)) lo
    rw [(T _ lo).1 i (by omega) hi (by omega) e] at h
    have h2 : vS w 4 < nI (dst (ix (vP w i)) j) := by
      refine Int32.not_le.mp fun z => h ⟨?_, z⟩
      rw [Int32.lt_iff_toInt_lt, ti_0]
      have := he i hi
      omega
    exact ⟨h2, Int32.lt_of_le_of_lt hg h2⟩
theorem to_out {w : SV} {n b : Nat} {tp : Nat → Int32} (hb : vP w b = -6) (T : to_T w n 8 tp) : to_T w n b tp := by
  intro q hq
  obtain ⟨h1, h2⟩ := T q hq
  refine ⟨fun k k8 kn _ e => h1 k k8 kn (by omega) e, fun h => h2 fun k k8 kn _ e => ?_⟩
  by_cases ek : k = b
  · subst ek
    exact nI_m6 (q := q) (by omega) (e.symm.trans hb)
  · exact h k k8 kn ek e
theorem di_P {w : SV} {n b j : Nat} : vS (uP w (upd (vP w) b (nI j))) = vS w := rfl
theorem ca_cr {w : SV} {n b j : Nat} {tp : Nat → Int32} (h8 : n ≤ 8) (hb : b < n) (hj : j < 12) (T : to_T w n b tp) (D : di_D (uP w (upd (vP w) b (nI j))) n) : ca_V w n b j = crA w tp (nI j) (vH w b) := by
  unfold ca_V
  refine crA_cong fun q hq hne => ?_
  exact (to_move h8 hb T (to_tpV D h8) hj hq (fun z => hne (by rw [z]))).symm
theorem bop_ge (cr : Nat → Int32) (op : Nat → Prop) : ∀ k, -1 ≤ (bopC cr op k).2
  | 0 => Int32.le_refl _
  | k + 1 => by
    by_cases c : (bopC cr op k).2 < cr k ∧ op k
    · rw [bopC_s cr op k c]
      exact Int32.le_of_lt (Int32.lt_of_le_of_lt (bop_ge cr op k) c.1)
    · rw [bopC_n cr op k c]
      exact bop_ge cr op k
def ch_W (w : SV) (b : Nat) (B : Int32) : SV := uI (uP w (upd (vP w) b B)) (upd (vI w) b (vI w b + (if B = -6 then 1 else 0)))
