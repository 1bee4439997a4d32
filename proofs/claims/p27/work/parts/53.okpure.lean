/-! what the changes keep -/
theorem gs_S_X (v : SV) (a) : vS (uX v a) = vS v := rfl
theorem gs_S_Ro (v : SV) (a) : vS (uRo v a) = vS v := rfl
theorem gs_S_Da (v : SV) (a) : vS (uDa v a) = vS v := rfl
theorem gs_S_Ra (v : SV) (a) : vS (uRa v a) = vS v := rfl
theorem gs_S_Ta (v : SV) (a) : vS (uTa v a) = vS v := rfl
theorem gs_S_Bo (v : SV) (a) : vS (uBo v a) = vS v := rfl
theorem gs_S_H (v : SV) (a) : vS (uH v a) = vS v := rfl
theorem gs_S_P (v : SV) (a) : vS (uP v a) = vS v := rfl
theorem gs_S_T (v : SV) (a) : vS (uT v a) = vS v := rfl
theorem gs_S_F (v : SV) (a) : vS (uF v a) = vS v := rfl
theorem gs_S_I (v : SV) (a) : vS (uI v a) = vS v := rfl
theorem gs_S_L (v : SV) (a) : vS (uL v a) = vS v := rfl
theorem gs_X_S (v : SV) (a) : vX (uS v a) = vX v := rfl
theorem gs_X_Ro (v : SV) (a) : vX (uRo v a) = vX v := rfl
theorem gs_X_Da (v : SV) (a) : vX (uDa v a) = vX v := rfl
theorem gs_X_Ra (v : SV) (a) : vX (uRa v a) = vX v := rfl
theorem gs_X_Ta (v : SV) (a) : vX (uTa v a) = vX v := rfl
theorem gs_X_Bo (v : SV) (a) : vX (uBo v a) = vX v := rfl
theorem gs_X_H (v : SV) (a) : vX (uH v a) = vX v := rfl
theorem gs_X_P (v : SV) (a) : vX (uP v a) = vX v := rfl
theorem gs_X_T (v : SV) (a) : vX (uT v a) = vX v := rfl
theorem gs_X_F (v : SV) (a) : vX (uF v a) = vX v := rfl
theorem gs_X_I (v : SV) (a) : vX (uI v a) = vX v := rfl
theorem gs_X_L (v : SV) (a) : vX (uL v a) = vX v := rfl
theorem gs_Ro_S (v : SV) (a) : vRo (uS v a) = vRo v := rfl
theorem gs_Ro_X (v : SV) (a) : vRo (uX v a) = vRo v := rfl
theorem gs_Ro_Da (v : SV) (a) : vRo (uDa v a) = vRo v := rfl
theorem gs_Ro_Ra (v : SV) (a) : vRo (uRa v a) = vRo v := rfl
theorem gs_Ro_Ta (v : SV) (a) : vRo (uTa v a) = vRo v := rfl
theorem gs_Ro_Bo (v : SV) (a) : vRo (uBo v a) = vRo v := rfl
theorem gs_Ro_H (v : SV) (a) : vRo (uH v a) = vRo v := rfl
theorem gs_Ro_P (v : SV) (a) : vRo (uP v a) = vRo v := rfl
theorem gs_Ro_T (v : SV) (a) : vRo (uT v a) = vRo v := rfl
theorem gs_Ro_F (v : SV) (a) : vRo (uF v a) = vRo v := rfl
theorem gs_Ro_I (v : SV) (a) : vRo (uI v a) = vRo v := rfl
theorem gs_Ro_L (v : SV) (a) : vRo (uL v a) = vRo v := rfl
theorem gs_Da_S (v : SV) (a) : vDa (uS v a) = vDa v := rfl
theorem gs_Da_X (v : SV) (a) : vDa (uX v a) = vDa v := rfl
theorem gs_Da_Ro (v : SV) (a) : vDa (uRo v a) = vDa v := rfl
theorem gs_Da_Ra (v : SV) (a) : vDa (uRa v a) = vDa v := rfl
theorem gs_Da_Ta (v : SV) (a) : vDa (uTa v a) = vDa v := rfl
theorem gs_Da_Bo (v : SV) (a) : vDa (uBo v a) = vDa v := rfl
theorem gs_Da_H (v : SV) (a) : vDa (uH v a) = vDa v := rfl
theorem gs_Da_P (v : SV) (a) : vDa (uP v a) = vDa v := rfl
theorem gs_Da_T (v : SV) (a) : vDa (uT v a) = vDa v := rfl
theorem gs_Da_F (v : SV) (a) : vDa (uF v a) = vDa v := rfl
theorem gs_Da_I (v : SV) (a) : vDa (uI v a) = vDa v := rfl
theorem gs_Da_L (v : SV) (a) : vDa (uL v a) = vDa v := rfl
theorem gs_Ra_S (v : SV) (a) : vRa (uS v a) = vRa v := rfl
theorem gs_Ra_X (v : SV) (a) : vRa (uX v a) = vRa v := rfl
theorem gs_Ra_Ro (v : SV) (a) : vRa (uRo v a) = vRa v := rfl
theorem gs_Ra_Da (v : SV) (a) : vRa (uDa v a) = vRa v := rfl
theorem gs_Ra_Ta (v : SV) (a) : vRa (uTa v a) = vRa v := rfl
theorem gs_Ra_Bo (v : SV) (a) : vRa (uBo v a) = vRa v := rfl
theorem gs_Ra_H (v : SV) (a) : vRa (uH v a) = vRa v := rfl
theorem gs_Ra_P (v : SV) (a) : vRa (uP v a) = vRa v := rfl
theorem gs_Ra_T (v : SV) (a) : vRa (uT v a) = vRa v := rfl
theorem gs_Ra_F (v : SV) (a) : vRa (uF v a) = vRa v := rfl
theorem gs_Ra_I (v : SV) (a) : vRa (uI v a) = vRa v := rfl
theorem gs_Ra_L (v : SV) (a) : vRa (uL v a) = vRa v := rfl
theorem gs_Ta_S (v : SV) (a) : vTa (uS v a) = vTa v := rfl
theorem gs_Ta_X (v : SV) (a) : vTa (uX v a) = vTa v := rfl
theorem gs_Ta_Ro (v : SV) (a) : vTa (uRo v a) = vTa v := rfl
theorem gs_Ta_Da (v : SV) (a) : vTa (uDa v a) = vTa v := rfl
theorem gs_Ta_Ra (v : SV) (a) : vTa (uRa v a) = vTa v := rfl
theorem gs_Ta_Bo (v : SV) (a) : vTa (uBo v a) = vTa v := rfl
theorem gs_Ta_H (v : SV) (a) : vTa (uH v a) = vTa v := rfl
theorem gs_Ta_P (v : SV) (a) : vTa (uP v a) = vTa v := rfl
theorem gs_Ta_T (v : SV) (a) : vTa (uT v a) = vTa v := rfl
theorem gs_Ta_F (v : SV) (a) : vTa (uF v a) = vTa v := rfl
theorem gs_Ta_I (v : SV) (a) : vTa (uI v a) = vTa v := rfl
theorem gs_Ta_L (v : SV) (a) : vTa (uL v a) = vTa v := rfl
theorem gs_Bo_S (v : SV) (a) : vBo (uS v a) = vBo v := rfl
theorem gs_Bo_X (v : SV) (a) : vBo (uX v a) = vBo v := rfl
theorem gs_Bo_Ro (v : SV) (a) : vBo (uRo v a) = vBo v := rfl
theorem gs_Bo_Da (v : SV) (a) : vBo (uDa v a) = vBo v := rfl
theorem gs_Bo_Ra (v : SV) (a) : vBo (uRa v a) = vBo v := rfl
theorem gs_Bo_Ta (v : SV) (a) : vBo (uTa v a) = vBo v := rfl
theorem gs_Bo_H (v : SV) (a) : vBo (uH v a) = vBo v := rfl
theorem gs_Bo_P (v : SV) (a) : vBo (uP v a) = vBo v := rfl
theorem gs_Bo_T (v : SV) (a) : vBo (uT v a) = vBo v := rfl
theorem gs_Bo_F (v : SV) (a) : vBo (uF v a) = vBo v := rfl
theorem gs_Bo_I (v : SV) (a) : vBo (uI v a) = vBo v := rfl
theorem gs_Bo_L (v : SV) (a) : vBo (uL v a) = vBo v := rfl
theorem gs_H_S (v : SV) (a) : vH (uS v a) = vH v := rfl
theorem gs_H_X (v : SV) (a) : vH (uX v a) = vH v := rfl
theorem gs_H_Ro (v : SV) (a) : vH (uRo v a) = vH v := rfl
theorem gs_H_Da (v : SV) (a) : vH (uDa v a) = vH v := rfl
theorem gs_H_Ra (v : SV) (a) : vH (uRa v a) = vH v := rfl
theorem gs_H_Ta (v : SV) (a) : vH (uTa v a) = vH v := rfl
theorem gs_H_Bo (v : SV) (a) : vH (uBo v a) = vH v := rfl
theorem gs_H_P (v : SV) (a) : vH (uP v a) = vH v := rfl
theorem gs_H_T (v : SV) (a) : vH (uT v a) = vH v := rfl
theorem gs_H_F (v : SV) (a) : vH (uF v a) = vH v := rfl
theorem gs_H_I (v : SV) (a) : vH (uI v a) = vH v := rfl
theorem gs_H_L (v : SV) (a) : vH (uL v a) = vH v := rfl
theorem gs_P_S (v : SV) (a) : vP (uS v a) = vP v := rfl
theorem gs_P_X (v : SV) (a) : vP (uX v a) = vP v := rfl
theorem gs_P_Ro (v : SV) (a) : vP (uRo v a) = vP v := rfl
theorem gs_P_Da (v : SV) (a) : vP (uDa v a) = vP v := rfl
theorem gs_P_Ra (v : SV) (a) : vP (uRa v a) = vP v := rfl
theorem gs_P_Ta (v : SV) (a) : vP (uTa v a) = vP v := rfl
theorem gs_P_Bo (v : SV) (a) : vP (uBo v a) = vP v := rfl
theorem gs_P_H (v : SV) (a) : vP (uH v a) = vP v := rfl
theorem gs_P_T (v : SV) (a) : vP (uT v a) = vP v := rfl
theorem gs_P_F (v : SV) (a) : vP (uF v a) = vP v := rfl
theorem gs_P_I (v : SV) (a) : vP (uI v a) = vP v := rfl
theorem gs_P_L (v : SV) (a) : vP (uL v a) = vP v := rfl
theorem gs_T_S (v : SV) (a) : vT (uS v a) = vT v := rfl
theorem gs_T_X (v : SV) (a) : vT (uX v a) = vT v := rfl
theorem gs_T_Ro (v : SV) (a) : vT (uRo v a) = vT v := rfl
theorem gs_T_Da (v : SV) (a) : vT (uDa v a) = vT v := rfl
theorem gs_T_Ra (v : SV) (a) : vT (uRa v a) = vT v := rfl
theorem gs_T_Ta (v : SV) (a) : vT (uTa v a) = vT v := rfl
theorem gs_T_Bo (v : SV) (a) : vT (uBo v a) = vT v := rfl
theorem gs_T_H (v : SV) (a) : vT (uH v a) = vT v := rfl
theorem gs_T_P (v : SV) (a) : vT (uP v a) = vT v := rfl
theorem gs_T_F (v : SV) (a) : vT (uF v a) = vT v := rfl
theorem gs_T_I (v : SV) (a) : vT (uI v a) = vT v := rfl
theorem gs_T_L (v : SV) (a) : vT (uL v a) = vT v := rfl
theorem gs_F_S (v : SV) (a) : vF (uS v a) = vF v := rfl
theorem gs_F_X (v : SV) (a) : vF (uX v a) = vF v := rfl
theorem gs_F_Ro (v : SV) (a) : vF (uRo v a) = vF v := rfl
theorem gs_F_Da (v : SV) (a) : vF (uDa v a) = vF v := rfl
theorem gs_F_Ra (v : SV) (a) : vF (uRa v a) = vF v := rfl
theorem gs_F_Ta (v : SV) (a) : vF (uTa v a) = vF v := rfl
theorem gs_F_Bo (v : SV) (a) : vF (uBo v a) = vF v := rfl
theorem gs_F_H (v : SV) (a) : vF (uH v a) = vF v := rfl
theorem gs_F_P (v : SV) (a) : vF (uP v a) = vF v := rfl
theorem gs_F_T (v : SV) (a) : vF (uT v a) = vF v := rfl
theorem gs_F_I (v : SV) (a) : vF (uI v a) = vF v := rfl
theorem gs_F_L (v : SV) (a) : vF (uL v a) = vF v := rfl
theorem gs_I_S (v : SV) (a) : vI (uS v a) = vI v := rfl
theorem gs_I_X (v : SV) (a) : vI (uX v a) = vI v := rfl
theorem gs_I_Ro (v : SV) (a) : vI (uRo v a) = vI v := rfl
theorem gs_I_Da (v : SV) (a) : vI (uDa v a) = vI v := rfl
theorem gs_I_Ra (v : SV) (a) : vI (uRa v a) = vI v := rfl
theorem gs_I_Ta (v : SV) (a) : vI (uTa v a) = vI v := rfl
theorem gs_I_Bo (v : SV) (a) : vI (uBo v a) = vI v := rfl
theorem gs_I_H (v : SV) (a) : vI (uH v a) = vI v := rfl
theorem gs_I_P (v : SV) (a) : vI (uP v a) = vI v := rfl
theorem gs_I_T (v : SV) (a) : vI (uT v a) = vI v := rfl
theorem gs_I_F (v : SV) (a) : vI (uF v a) = vI v := rfl
theorem gs_I_L (v : SV) (a) : vI (uL v a) = vI v := rfl
theorem gs_L_S (v : SV) (a) : vL (uS v a) = vL v := rfl
theorem gs_L_X (v : SV) (a) : vL (uX v a) = vL v := rfl
theorem gs_L_Ro (v : SV) (a) : vL (uRo v a) = vL v := rfl
theorem gs_L_Da (v : SV) (a) : vL (uDa v a) = vL v := rfl
theorem gs_L_Ra (v : SV) (a) : vL (uRa v a) = vL v := rfl
theorem gs_L_Ta (v : SV) (a) : vL (uTa v a) = vL v := rfl
theorem gs_L_Bo (v : SV) (a) : vL (uBo v a) = vL v := rfl
theorem gs_L_H (v : SV) (a) : vL (uH v a) = vL v := rfl
theorem gs_L_P (v : SV) (a) : vL (uP v a) = vL v := rfl
theorem gs_L_T (v : SV) (a) : vL (uT v a) = vL v := rfl
theorem gs_L_F (v : SV) (a) : vL (uF v a) = vL v := rfl
theorem gs_L_I (v : SV) (a) : vL (uI v a) = vL v := rfl
theorem ok_of {v w : SV} {n n' : Nat} (K : ok_D v n) (eS : vS w = vS v) (eX : vX w = vX v) (eDa : vDa w = vDa v) (eRo : vRo w = vRo v) (hBo : vBo w = nI n') (h8 : n' ≤ 8) (he : he_D w n') (D : di_D w n') (pl : pl_D w n') (lo : ∀ k, k < 8 → vL w k = -6 ∨ ∃ b, b < n' ∧ vL w k = nI b) (p8 : ∀ k, k < 8 → vP w k = -6 ∨ inP (vP w k)) : ok_D w n' := by
  obtain ⟨b1, ⟨v1, v2, v3, v4, v5, v6⟩, b3, b4, b5, b6, b7⟩ := K
  refine ⟨hBo, ⟨h8, ?_, he, D, pl, ?_⟩, ?_, ?_, ?_, lo, p8⟩
  · rw [eX]; exact v2
  · rw [eS]; exact v6
  · rw [eDa]; exact b3
  · unfold se_D; rw [eS]; exact b4
  · rw [eRo]; exact b5
theorem ad_1 (v : SV) (n : Nat) (a b : Int32) : vS (adB v n a b) = vS v ∧ vX (adB v n a b) = vX v ∧ vDa (adB v n a b) = vDa v ∧ vRo (adB v n a b) = vRo v ∧ vBo (adB v n a b) = nI (n + 1) ∧ vH (adB v n a b) = upd (vH v) n a ∧ vP (adB v n a b) = upd (vP v) n b ∧ vL (adB v n a b) = vL v ∧ vT (adB v n a b) = upd (vT v) n 0 ∧ vF (adB v n a b) = upd (vF v) n 0 ∧ vI (adB v n a b) = upd (vI v) n 0 ∧ vRa (adB v n a b) = vRa v ∧ vTa (adB v n a b) = vTa v := by
  simp only [adB, vu_S, vu_X, vu_Ro, vu_Da, vu_Ra, vu_Ta, vu_Bo, vu_H, vu_P, vu_T, vu_F, vu_I, vu_L, gs_S_X, gs_S_Ro, gs_S_Da, gs_S_Ra, gs_S_Ta, gs_S_Bo, gs_S_H, gs_S_P, gs_S_T, gs_S_F, gs_S_I, gs_S_L, gs_X_S, gs_X_Ro, gs_X_Da, gs_X_Ra, gs_X_Ta, gs_X_Bo, gs_X_H, gs_X_P, gs_X_T, gs_X_F, gs_X_I, gs_X_L, gs_Ro_S, gs_Ro_X, gs_Ro_Da, gs_Ro_Ra, gs_Ro_Ta, gs_Ro_Bo, gs_Ro_H, gs_Ro_P, gs_Ro_T, gs_Ro_F, gs_Ro_I, gs_Ro_L, gs_Da_S, gs_Da_X, gs_Da_Ro, gs_Da_Ra, gs_Da_Ta, gs_Da_Bo, gs_Da_H, gs_Da_P, gs_Da_T, gs_Da_F, gs_Da_I, gs_Da_L, gs_Ra_S, gs_Ra_X, gs_Ra_Ro, gs_Ra_Da, gs_Ra_Ta, gs_Ra_Bo, gs_Ra_H, gs_Ra_P, gs_Ra_T, gs_Ra_F, gs_Ra_I, gs_Ra_L, gs_Ta_S, gs_Ta_X, gs_Ta_Ro, gs_Ta_Da, gs_Ta_Ra, gs_Ta_Bo, gs_Ta_H, gs_Ta_P, gs_Ta_T, gs_Ta_F, gs_Ta_I, gs_Ta_L, gs_Bo_S, gs_Bo_X, gs_Bo_Ro, gs_Bo_Da, gs_Bo_Ra, gs_Bo_Ta, gs_Bo_H, gs_Bo_P, gs_Bo_T, gs_Bo_F, gs_Bo_I, gs_Bo_L, gs_H_S, gs_H_X, gs_H_Ro, gs_H_Da, gs_H_Ra, gs_H_Ta, gs_H_Bo, gs_H_P, gs_H_T, gs_H_F, gs_H_I, gs_H_L, gs_P_S, gs_P_X, gs_P_Ro, gs_P_Da, gs_P_Ra, gs_P_Ta, gs_P_Bo, gs_P_H, gs_P_T, gs_P_F, gs_P_I, gs_P_L, gs_T_S, gs_T_X, gs_T_Ro, gs_T_Da, gs_T_Ra, gs_T_Ta, gs_T_Bo, gs_T_H, gs_T_P, gs_T_F, gs_T_I, gs_T_L, gs_F_S, gs_F_X, gs_F_Ro, gs_F_Da, gs_F_Ra, gs_F_Ta, gs_F_Bo, gs_F_H, gs_F_P, gs_F_T, gs_F_I, gs_F_L, gs_I_S, gs_I_X, gs_I_Ro, gs_I_Da, gs_I_Ra, gs_I_Ta, gs_I_Bo, gs_I_H, gs_I_P, gs_I_T, gs_I_F, gs_I_L, gs_L_S, gs_L_X, gs_L_Ro, gs_L_Da, gs_L_Ra, gs_L_Ta, gs_L_Bo, gs_L_H, gs_L_P, gs_L_T, gs_L_F, gs_L_I, and_self]
theorem rm_1 (v : SV) (n j : Nat) : vS (rmB v n j) = vS v ∧ vX (rmB v n j) = vX v ∧ vDa (rmB v n j) = vDa v ∧ vRo (rmB v n j) = vRo v ∧ vBo (rmB v n j) = nI (n - 1) ∧ vH (rmB v n j) = clU (vH v) j ∧ vP (rmB v n j) = clU (vP v) j ∧ vL (rmB v n j) = rmL (vL v) j ∧ vT (rmB v n j) = clU (vT v) j ∧ vF (rmB v n j) = clU (vF v) j ∧ vI (rmB v n j) = clU (vI v) j ∧ vRa (rmB v n j) = vRa v ∧ vTa (rmB v n j) = vTa v := by
  simp only [rmB, rmA, vu_S, vu_X, vu_Ro, vu_Da, vu_Ra, vu_Ta, vu_Bo, vu_H, vu_P, vu_T, vu_F, vu_I, vu_L, gs_S_X, gs_S_Ro, gs_S_Da, gs_S_Ra, gs_S_Ta, gs_S_Bo, gs_S_H, gs_S_P, gs_S_T, gs_S_F, gs_S_I, gs_S_L, gs_X_S, gs_X_Ro, gs_X_Da, gs_X_Ra, gs_X_Ta, gs_X_Bo, gs_X_H, gs_X_P, gs_X_T, gs_X_F, gs_X_I, gs_X_L, gs_Ro_S, gs_Ro_X, gs_Ro_Da, gs_Ro_Ra, gs_Ro_Ta, gs_Ro_Bo, gs_Ro_H, gs_Ro_P, gs_Ro_T, gs_Ro_F, gs_Ro_I, gs_Ro_L, gs_Da_S, gs_Da_X, gs_Da_Ro, gs_Da_Ra, gs_Da_Ta, gs_Da_Bo, gs_Da_H, gs_Da_P, gs_Da_T, gs_Da_F, gs_Da_I, gs_Da_L, gs_Ra_S, gs_Ra_X, gs_Ra_Ro, gs_Ra_Da, gs_Ra_Ta, gs_Ra_Bo, gs_Ra_H, gs_Ra_P, gs_Ra_T, gs_Ra_F, gs_Ra_I, gs_Ra_L, gs_Ta_S, gs_Ta_X, gs_Ta_Ro, gs_Ta_Da, gs_Ta_Ra, gs_Ta_Bo, gs_Ta_H, gs_Ta_P, gs_Ta_T, gs_Ta_F, gs_Ta_I, gs_Ta_L, gs_Bo_S, gs_Bo_X, gs_Bo_Ro, gs_Bo_Da, gs_Bo_Ra, gs_Bo_Ta, gs_Bo_H, gs_Bo_P, gs_Bo_T, gs_Bo_F, gs_Bo_I, gs_Bo_L, gs_H_S, gs_H_X, gs_H_Ro, gs_H_Da, gs_H_Ra, gs_H_Ta, gs_H_Bo, gs_H_P, gs_H_T, gs_H_F, gs_H_I, gs_H_L, gs_P_S, gs_P_X, gs_P_Ro, gs_P_Da, gs_P_Ra, gs_P_Ta, gs_P_Bo, gs_P_H, gs_P_T, gs_P_F, gs_P_I, gs_P_L, gs_T_S, gs_T_X, gs_T_Ro, gs_T_Da, gs_T_Ra, gs_T_Ta, gs_T_Bo, gs_T_H, gs_T_P, gs_T_F, gs_T_I, gs_T_L, gs_F_S, gs_F_X, gs_F_Ro, gs_F_Da, gs_F_Ra, gs_F_Ta, gs_F_Bo, gs_F_H, gs_F_P, gs_F_T, gs_F_I, gs_F_L, gs_I_S, gs_I_X, gs_I_Ro, gs_I_Da, gs_I_Ra, gs_I_Ta, gs_I_Bo, gs_I_H, gs_I_P, gs_I_T, gs_I_F, gs_I_L, gs_L_S, gs_L_X, gs_L_Ro, gs_L_Da, gs_L_Ra, gs_L_Ta, gs_L_Bo, gs_L_H, gs_L_P, gs_L_T, gs_L_F, gs_L_I, and_self]
theorem ok_set {v : SV} {n k : Nat} {a : Int32} (K : ok_D v n) (hk : k < 6) (h0 : 0 ≤ a.toInt) (h1 : a.toInt ≤ (if k < 2 then 999 else if k = 4 then 5 else 100)) : ok_D (uS v (upd (vS v) k a)) n := by
  obtain ⟨b1, ⟨v1, v2, v3, v4, v5, v6⟩, b3, b4, b5, b6, b7⟩ := K
  have S : se_D (uS v (upd (vS v) k a)) := fun i hi => by
    show 0 ≤ (upd (vS v) k a i).toInt ∧ (upd (vS v) k a i).toInt ≤ _
    by_cases e : i = k
    · subst e; rw [pk_us]; exact ⟨h0, h1⟩
    · rw [pk_un e]; exact b4 i hi
  exact ⟨b1, ⟨v1, v2, v3, v4, v5, by rw [Int32.le_iff_toInt_le, ti_0]; exact (S 4 (by omega)).1⟩, b3, S, b5, b6, b7⟩
theorem bit_N : ∀ p, p < 12 → (1 : Int32) <<< (nI p &&& 31) = nI (2 ^ p) := by decide +kernel
theorem xor_N {a b : Nat} (ha : a < 4096) (hb : b < 4096) : nI a ^^^ nI b = nI (a ^^^ b) := by
  refine Int32.toBitVec_inj.mp ?_
  show BitVec.ofNat 32 a ^^^ BitVec.ofNat 32 b = BitVec.ofNat 32 (a ^^^ b)
  refine BitVec.eq_of_toNat_eq ?_
  rw [BitVec.toNat_xor, BitVec.toNat_ofNat, BitVec.toNat_ofNat, BitVec.toNat_ofNat, Nat.mod_eq_of_lt (by omega), Nat.mod_eq_of_lt (by omega), Nat.mod_eq_of_lt]
  have := Nat.xor_lt_two_pow (n := 12) (x := a) (y := b) (by omega) (by omega)
  omega
theorem ro_x {ro : Int32} (h : 0 ≤ ro.toInt ∧ ro.toInt < 4096) {p : Nat} (hp : p < 12) : 0 ≤ (ro ^^^ (1 <<< (nI p &&& 31))).toInt ∧ (ro ^^^ (1 <<< (nI p &&& 31))).toInt < 4096 := by
  have e : ro = nI (ix ro) := ix_eq h.1
  have l : ix ro < 4096 := by unfold ix; omega
  have l2 : 2 ^ p < 4096 := by
    have := Nat.pow_le_pow_right (n := 2) (by omega) (show p ≤ 11 by omega)
    omega
  rw [bit_N p hp, e, xor_N l l2]
  have := Nat.xor_lt_two_pow (n := 12) (x := ix ro) (y := 2 ^ p) (by omega) (by omega)
  rw [nI_toInt (by omega)]
  omega
theorem ok_roof {v : SV} {n p : Nat} (K : ok_D v n) (hp : p < 12) : ok_D (uRo v (vRo v ^^^ (1 <<< (nI p &&& 31)))) n := by
  obtain ⟨b1, b2, b3, b4, b5, b6, b7⟩ := K
  exact ⟨b1, b2, b3, b4, ro_x b5 hp, b6, b7⟩
theorem ok_add {v : SV} {n : Nat} {a b : Int32} (K : ok_D v n) (h8 : n < 8) (ha : 1 ≤ a.toInt ∧ a.toInt ≤ 9) (hb : b = -6 ∨ (inP b ∧ ∀ k, k < n → vP v k ≠ b)) : ok_D (adB v n a b) (n + 1) := by
  obtain ⟨g1, g2, g3, g4, g5, eH, eP, eL, -⟩ := ad_1 v n a b
  have K0 := K
  obtain ⟨b1, ⟨v1, v2, v3, v4, v5, v6⟩, b3, b4, b5, b6, b7⟩ := K
  have hb2 : b = -6 ∨ inP b := hb.imp_right fun z => z.1
  refine ok_of K0 g1 g2 g3 g4 g5 (by omega) (fun k hk => ?_) (fun i k hi hk => ?_) (fun k hk => ?_) (fun k hk => ?_) (fun k hk => ?_)
  · rw [eH]
    by_cases e : k = n
    · subst e; rw [pk_us]; exact ha
    · rw [pk_un e]; exact v3 k (by omega)
  · rw [eP]
    by_cases e1 : i = n
    · by_cases e2 : k = n
      · intro _ _; omega
      · subst e1
        rw [pk_us, pk_un e2]
        intro h1 h2
        rcases hb with z | z
        · exact absurd z h1
        · exact absurd h2.symm (z.2 k (by omega))
    · by_cases e2 : k = n
      · subst e2
        rw [pk_us, pk_un e1]
        intro h1 h2
        rcases hb with z | z
        · exact absurd (h2.trans z) h1
        · exact absurd h2 (z.2 i (by omega))
      · rw [pk_un e1, pk_un e2]
        exact v4 i k (by omega) (by omega)
  · rw [eP]
    by_cases e : k = n
    · subst e; rw [pk_us]; exact hb2
    · rw [pk_un e]; exact v5 k (by omega)
  · rw [eL]
    rcases b6 k hk with h | ⟨c, hc, h⟩
    · exact Or.inl h
    · exact Or.inr ⟨c, by omega, h⟩
  · rw [eP]
    by_cases e : k = n
    · subst e; rw [pk_us]; exact hb2
    · rw [pk_un e]; exact b7 k hk
def sh_N (j k : Nat) : Nat := if j ≤ k ∧ k < 7 then k + 1 else k
theorem cl_sh (f : Nat → Int32) (j k : Nat) : clU f j k = f (sh_N j k) := by
  unfold clU clF sh_N
  split <;> rfl
theorem sh_lt {n j k : Nat} (h8 : n ≤ 8) (hj : j < n) (hk : k < n - 1) : sh_N j k < n := by
  unfold sh_N
  split <;> omega
theorem sh_inj {n j i k : Nat} (h8 : n ≤ 8) (hi : i < n - 1) (hk : k < n - 1) (h : sh_N j i = sh_N j k) : i = k := by
  unfold sh_N at h
  by_cases c1 : j ≤ i ∧ i < 7 <;> by_cases c2 : j ≤ k ∧ k < 7
  · rw [if_pos c1, if_pos c2] at h; omega
  · rw [if_pos c1, if_neg c2] at h; omega
  · rw [if_neg c1, if_pos c2] at h; omega
  · rw [if_neg c1, if_neg c2] at h; omega
theorem rm_L6 {L : Nat → Int32} {j k : Nat} (hj : j < 8) (h : L k = -6) : rmL L j k = -6 := by
  unfold rmL
  rw [h, if_neg (fun z => nI_m6 (q := j) (by omega) z.symm), if_neg]
  intro z
  rw [Int32.lt_iff_toInt_lt, ti_m6, nI_toInt (by omega)] at z
  omega
theorem rm_Lb {L : Nat → Int32} {j k b : Nat} (hj : j < 8) (hb : b < 8) (h : L k = nI b) : rmL L j k = if b = j then -6 else if j < b then nI (b - 1) else nI b := by
  unfold rmL
  rw [h]
  by_cases e : b = j
  · subst e; rw [if_pos rfl, if_pos rfl]
  · rw [if_neg e, if_neg (fun z => e ((nI_eq (by omega) (by omega)).mp z))]
    by_cases e2 : j < b
    · rw [if_pos e2, if_pos ((nI_ltI (by omega) (by omega)).mpr e2)]
      obtain ⟨c, rfl⟩ : ∃ c, b = c + 1 := ⟨b - 1, by omega⟩
      exact nI_pred c
    · rw [if_neg e2, if_neg (fun z => e2 ((nI_ltI (by omega) (by omega)).mp z))]
theorem ok_go {v : SV} {n j : Nat} (K : ok_D v n) (hj : j < n) : ok_D (rmB v n j) (n - 1) := by
  obtain ⟨g1, g2, g3, g4, g5, eH, eP, eL, -⟩ := rm_1 v n j
  have K0 := K
  obtain ⟨b1, ⟨v1, v2, v3, v4, v5, v6⟩, b3, b4, b5, b6, b7⟩ := K
  refine ok_of K0 g1 g2 g3 g4 g5 (by omega) (fun k hk => ?_) (fun i k hi hk => ?_) (fun k hk => ?_) (fun k hk => ?_) (fun k hk => ?_)
  · rw [eH, cl_sh]
    exact v3 _ (sh_lt v1 hj hk)
  · rw [eP, cl_sh, cl_sh]
    intro h1 h2
    exact sh_inj v1 hi hk (v4 _ _ (sh_lt v1 hj hi) (sh_lt v1 hj hk) h1 h2)
  · rw [eP, cl_sh]
    exact v5 _ (sh_lt v1 hj hk)
  · rw [eL]
    rcases b6 k hk with h | ⟨c, hc, h⟩
    · exact Or.inl (rm_L6 (by omega) h)
    · rw [rm_Lb (by omega) (by omega) h]
      by_cases e : c = j
      · rw [if_pos e]; exact Or.inl rfl
      · rw [if_neg e]
        by_cases e2 : j < c
        · rw [if_pos e2]; exact Or.inr ⟨c - 1, by omega, rfl⟩
        · rw [if_neg e2]; exact Or.inr ⟨c, by omega, rfl⟩
  · rw [eP, cl_sh]
    exact b7 _ (by unfold sh_N; split <;> omega)
theorem ok_height {v : SV} {n j : Nat} {a : Int32} (K : ok_D v n) (ha : 1 ≤ a.toInt ∧ a.toInt ≤ 9) : ok_D (uH v (upd (vH v) j a)) n := by
  obtain ⟨b1, ⟨v1, v2, v3, v4, v5, v6⟩, b3, b4, b5, b6, b7⟩ := K
  refine ⟨b1, ⟨v1, v2, fun k hk => ?_, v4, v5, v6⟩, b3, b4, b5, b6, b7⟩
  show 1 ≤ (upd (vH v) j a k).toInt ∧ (upd (vH v) j a k).toInt ≤ 9
  by_cases e : k = j
  · subst e; rw [pk_us]; exact ha
  · rw [pk_un e]; exact v3 k hk
theorem not_tk {v : SV} {n j : Nat} {q : Int32} (D : di_D v n) (h8 : n ≤ 8) (hq : inP q) (ht : ¬ tkP v n q j) {k : Nat} (hk : k < n) (hkj : k ≠ j) : vP v k ≠ q := by
  intro e
  have eq : q = nI (ix q) := ix_eq hq.1
  refine ht ⟨k, ?_, hkj⟩
  rw [eq]
  exact tp_some D h8 (by have := hq; unfold ix; omega) hk (e.trans eq)
theorem ok_stand {v : SV} {n j : Nat} {q : Int32} (K : ok_D v n) (hq : q = -6 ∨ inP q) (ht : ¬ tkP v n q j) : ok_D (uP v (upd (vP v) j q)) n := by
  obtain ⟨b1, ⟨v1, v2, v3, v4, v5, v6⟩, b3, b4, b5, b6, b7⟩ := K
  have eP : vP (uP v (upd (vP v) j q)) = upd (vP v) j q := rfl
  refine ⟨b1, ⟨v1, v2, v3, fun i k hi hk => ?_, fun k hk => ?_, v6⟩, b3, b4, b5, b6, fun k hk => ?_⟩
  · rw [eP]
    by_cases e1 : i = j
    · by_cases e2 : k = j
      · intro _ _; omega
      · subst e1
        rw [pk_us, pk_un e2]
        intro h1 h2
        exact absurd h2.symm (not_tk v4 v1 (hq.resolve_left h1) ht hk e2)
    · by_cases e2 : k = j
      · subst e2
        rw [pk_us, pk_un e1]
        intro h1 h2
        exact absurd h2 (not_tk v4 v1 (hq.resolve_left (fun z => h1 (h2.trans z))) ht hi e1)
      · rw [pk_un e1, pk_un e2]
        exact v4 i k hi hk
  · rw [eP]
    by_cases e : k = j
    · subst e; rw [pk_us]; exact hq
    · rw [pk_un e]; exact v5 k hk
  · rw [eP]
    by_cases e : k = j
    · subst e; rw [pk_us]; exact hq
    · rw [pk_un e]; exact b7 k hk
theorem x_of {a : Int32} (ha : 0 ≤ a.toInt) : ∃ k, k < 2147483648 ∧ a = nI k ∧ a.toInt64 = lN k ∧ a.toInt64.toInt32 = a := by
  have h2 := Int32.toInt_lt a
  have e : a = nI (ix a) := ix_eq ha
  have l : ix a < 2147483648 := by unfold ix; omega
  refine ⟨ix a, l, e, ?_, ?_⟩
  · rw [e, ix_nI l, nI_l (by omega)]
  · rw [e, nI_l (by omega), lN_i]
theorem ok_shuffle {v : SV} {n : Nat} {a : Int32} (K : ok_D v n) (ha : 0 ≤ a.toInt) : ok_D (uX v a.toInt64) n := by
  obtain ⟨b1, ⟨v1, v2, v3, v4, v5, v6⟩, b3, b4, b5, b6, b7⟩ := K
  obtain ⟨k, hk, -, e, -⟩ := x_of ha
  exact ⟨b1, ⟨v1, ⟨k, hk, e⟩, v3, v4, v5, v6⟩, b3, b4, b5, b6, b7⟩
theorem ph_1 (q : SV) (n : Nat) (tp : Nat → Int32) (r : Int32) : vS (phV q n tp r) = vS q ∧ vX (phV q n tp r) = vX q ∧ vRo (phV q n tp r) = vRo q ∧ vDa (phV q n tp r) = vDa q ∧ vH (phV q n tp r) = vH q ∧ vP (phV q n tp r) = vP q ∧ vL (phV q n tp r) = vL q := ⟨rfl, rfl, rfl, rfl, rfl, rfl, rfl⟩
theorem dy_1 (v : SV) (n : Nat) : vS (dyV v n) = vS v ∧ vX (dyV v n) = lcg (vX (puV v n)) ∧ vRo (dyV v n) = vRo v ∧ vDa (dyV v n) = vDa v + 1 ∧ vH (dyV v n) = vH v ∧ vP (dyV v n) = (chs (dlV v n) n 8).2 ∧ vL (dyV v n) = (dlots (n - 1) (vX v) (filI n)).2 := by
  obtain ⟨p1, p2, p3, p4, p5, p6, p7⟩ := ph_1 (pqV v n) n (ptV v n) (rnV (puV v n))
  obtain ⟨d1, d2, d3, d4, d5, d6, d7, d8, d9, d10, d11, d12⟩ := da_1 (puV v n) (lcg (vX (puV v n))) (rnV (puV v n))
  obtain ⟨f1, f2, f3, f4, f5, f6, f7, f8, f9, f10⟩ := fi_1 n v (dlots (n - 1) (vX v) (filI n)).1 (dlots (n - 1) (vX v) (filI n)).2 (chs (dlV v n) n 8).2
  rw [← pu_e] at f1 f2 f3 f4 f5 f6 f7 f8 f9 f10
  rw [dyV]
  refine ⟨p1.trans ?_, p2.trans ?_, p3.trans ?_, p4.trans ?_, p5.trans ?_, p6.trans ?_, p7.trans ?_⟩
  · exact d1.trans (pu_S v n)
  · exact d2
  · exact d3.trans f1
  · exact d4.trans (by rw [f2])
  · exact d7.trans f5
  · exact d8.trans f6
  · exact d12.trans f9
theorem di_cg {v w : SV} {n : Nat} (h : ∀ b, b < n → vP w b = vP v b) (D : di_D w n) : di_D v n := fun i k hi hk => by
  rw [← h i hi, ← h k hk]
  exact D i k hi hk
theorem pl_cg {v w : SV} {n : Nat} (h : ∀ b, b < n → vP w b = vP v b) (D : pl_D w n) : pl_D v n := fun k hk => by
  rw [← h k hk]
  exact D k hk
theorem vv_dy {v : SV} {n : Nat} (V : vv_D v n) : vv_D (dyV v n) n := by
  obtain ⟨h8, hx, he, D, pl, hg⟩ := V
  obtain ⟨d1, d2, d3, d4, d5, d6, d7⟩ := dy_1 v n
  have I := kw_day h8 hx he hg n (Nat.le_refl n)
  have L : pe_D n (vL (dlV v n)) := by rw [dl_L]; exact (pe_dl0 h8 hx).1
  have K := (kw_end h8 L I).1
  have hP : ∀ b, b < n → vP (kw_W (dlV v n) n (w0_W v n) n) b = vP (dyV v n) b := fun b hb => by rw [d6]; exact (K b hb).1
  refine ⟨h8, ?_, ?_, di_cg hP I.2.2.2.1, pl_cg hP I.2.2.2.2.1, by rw [d1]; exact hg⟩
  · rw [d2]
    refine xr_l ?_
    rw [pu_X]
    exact (pe_dl0 h8 hx).2
  · intro k hk
    rw [d5]
    exact he k hk
theorem ok_play {v : SV} {n : Nat} (K : ok_D v n) (hd : (vDa v).toInt < 9999) : ok_D (dyV v n) n := by
  obtain ⟨b1, b2, b3, b4, b5, b6, b7⟩ := K
  obtain ⟨d1, d2, d3, d4, d5, d6, d7⟩ := dy_1 v n
  refine ⟨(vBo_dyV v n).trans b1, vv_dy b2, ?_, fun k hk => by rw [d1]; exact b4 k hk, by rw [d3]; exact b5, fun k hk => ?_, dyV_in v n b7⟩
  · rw [d4, Int32.toInt_add, ti_1]
    have h1 := Int32.le_toInt (vDa v)
    rw [Int.bmod_eq_of_le (by omega) (by omega)]
    omega
  · rw [d7]
    have L := (pe_dl0 b2.1 b2.2.1).1
    by_cases c : k < n
    · exact Or.inr (L.1 k c)
    · exact Or.inl (L.2.2.1 k (by omega) hk)
