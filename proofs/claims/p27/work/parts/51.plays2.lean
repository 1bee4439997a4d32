theorem pu_S (v : SV) (n : Nat) : vS (puV v n) = vS v := rfl
theorem pu_X (v : SV) (n : Nat) : vX (puV v n) = (dlots (n - 1) (vX v) (filI n)).1 := rfl
theorem da_1 (u : SV) (y : Int64) (r : Int32) : vS (daV (uX u y) r) = vS u ∧ vX (daV (uX u y) r) = y ∧ vRo (daV (uX u y) r) = vRo u ∧ vDa (daV (uX u y) r) = vDa u + 1 ∧ vRa (daV (uX u y) r) = (if r = 0 then vRa u else vRa u + 1) ∧ vTa (daV (uX u y) r) = vTa u ∧ vH (daV (uX u y) r) = vH u ∧ vP (daV (uX u y) r) = vP u ∧ vT (daV (uX u y) r) = vT u ∧ vF (daV (uX u y) r) = vF u ∧ vI (daV (uX u y) r) = vI u ∧ vL (daV (uX u y) r) = vL u := ⟨rfl, rfl, rfl, rfl, rfl, rfl, rfl, rfl, rfl, rfl, rfl, rfl⟩
theorem fi_1 (n : Nat) (v : SV) (x : Int64) (f P : Nat → Int32) : vRo (uP (fin1 n (uL (uX v x) f)) P) = vRo v ∧ vDa (uP (fin1 n (uL (uX v x) f)) P) = vDa v ∧ vRa (uP (fin1 n (uL (uX v x) f)) P) = vRa v ∧ vTa (uP (fin1 n (uL (uX v x) f)) P) = vTa v ∧ vH (uP (fin1 n (uL (uX v x) f)) P) = vH v ∧ vP (uP (fin1 n (uL (uX v x) f)) P) = P ∧ vT (uP (fin1 n (uL (uX v x) f)) P) = vT v ∧ vI (uP (fin1 n (uL (uX v x) f)) P) = vI v ∧ vL (uP (fin1 n (uL (uX v x) f)) P) = f ∧ vF (uP (fin1 n (uL (uX v x) f)) P) = (if bkP n (f 0) then upd (vF v) (ix (f 0)) (vF v (ix (f 0)) + 1) else vF v) := ⟨rfl, rfl, rfl, rfl, rfl, rfl, rfl, rfl, rfl, rfl⟩
theorem pu_e (v : SV) (n : Nat) : puV v n = uP (fin1 n (uL (uX v (dlots (n - 1) (vX v) (filI n)).1) (dlots (n - 1) (vX v) (filI n)).2)) (chs (dlV v n) n 8).2 := rfl
theorem dl_L (v : SV) (n : Nat) : vL (dlV v n) = (dlots (n - 1) (vX v) (filI n)).2 := rfl
theorem dl_S (v : SV) (n : Nat) : vS (dlV v n) = vS v := rfl
theorem dl_H (v : SV) (n : Nat) : vH (dlV v n) = vH v := rfl
def c6_W (v : SV) (k : Nat) : SV := uP v (mixF (fun _ => -6) (vP v) k)
theorem c6_X (v : SV) (k : Nat) : vX (c6_W v k) = vX v := rfl
/-- the State of the reference when the lots are drawn -/
noncomputable def w0_W (v : SV) (n : Nat) : SV := uL (uX (c6_W v n) (dlots (n - 1) (vX v) (filI n)).1) (dlots (n - 1) (vX v) (filI n)).2
theorem w0_1 (c : SV) (x : Int64) (f : Nat → Int32) : vS (uL (uX c x) f) = vS c ∧ vX (uL (uX c x) f) = x ∧ vRo (uL (uX c x) f) = vRo c ∧ vDa (uL (uX c x) f) = vDa c ∧ vRa (uL (uX c x) f) = vRa c ∧ vTa (uL (uX c x) f) = vTa c ∧ vH (uL (uX c x) f) = vH c ∧ vP (uL (uX c x) f) = vP c ∧ vT (uL (uX c x) f) = vT c ∧ vF (uL (uX c x) f) = vF c ∧ vI (uL (uX c x) f) = vI c ∧ vL (uL (uX c x) f) = f := ⟨rfl, rfl, rfl, rfl, rfl, rfl, rfl, rfl, rfl, rfl, rfl, rfl⟩
/-- what a State must keep -/
def vv_D (v : SV) (n : Nat) : Prop := n ≤ 8 ∧ xr_D (vX v) ∧ he_D v n ∧ di_D v n ∧ pl_D v n ∧ 0 ≤ vS v 4
theorem kw_day {v : SV} {n : Nat} (h8 : n ≤ 8) (hx : xr_D (vX v)) (he : he_D v n) (hg : 0 ≤ vS v 4) (k : Nat) (hk : k ≤ n) : kw_I (dlV v n) n (w0_W v n) k (kw_W (dlV v n) n (w0_W v n) k) :=
  kw_inv (d := dlV v n) (w0 := w0_W v n) h8 (by rw [dl_L]; exact (pe_dl0 h8 hx).1) rfl rfl he hg (fun b hb => mixF_all (f := fun _ => -6) (g := vP v) (N := n) (j := b) hb) k hk
theorem kw_nx {v : SV} {n k b : Nat} (eb : ix (vL (dlV v n) k) = b) : ch_W (ff_W (kw_W (dlV v n) n (w0_W v n) k) k b) b (bst (ff_W (kw_W (dlV v n) n (w0_W v n) k) k b) (chs (dlV v n) n k).1 (vH (ff_W (kw_W (dlV v n) n (w0_W v n) k) k b) b)) = kw_W (dlV v n) n (w0_W v n) (k + 1) := by
  have E := sm_kw (dlV v n) n (w0_W v n) k
  have F := sm_ff (kw_W (dlV v n) n (w0_W v n) k) k b
  rw [kw_s, eb]
  generalize kw_W (dlV v n) n (w0_W v n) k = w at E F ⊢
  have S : vS (ff_W w k b) = vS (dlV v n) := F.1.trans E.1
  have H : vH (ff_W w k b) = vH (dlV v n) := F.2.2.2.2.2.2.1.trans E.2.2.2.2.2.2.1
  rw [H, bst_S S]
