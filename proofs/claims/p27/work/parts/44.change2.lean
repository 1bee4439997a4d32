set_option maxHeartbeats 4000000 in
set_option maxRecDepth 100000 in
theorem sX6_undo_z (w0 : Bool) (ff : Nat → Int32) (w1 : Bool) (gg : Nat → Int32) (z : PV) (hk : (pY z).2.2 = 0) : am_Sp mX6_undo [.ref 2] (ppH w0 ff w1 gg z) (am_rp (-5) (ppH w0 ff w1 gg z)) := by
  refine am_intro (by decide) (Nat.le_of_ble_eq_true rfl) ?_
  refine ar_aload_n (i := 0) (pc := 0) dX6_undo_0 rfl rfl ?_
  refine ar_getf (pc := 1) dX6_undo_1 fX6_36 rfl rfl ?_
  refine ar_getf (pc := 4) dX6_undo_4 fX6_192 rfl rfl ?_
  refine ar_if_ne (pc := 7) (tgt := 13) dX6_undo_7 (by decide) (fun c7 => absurd (by rw [hk, nI_0]) c7) (fun c7 => ?_)
  refine ar_bipush (pc := 10) dX6_undo_10 q_bipush_m5 ?_
  exact ar_iret (pc := 12) dX6_undo_12 rfl rfl rfl ⟨rfl, rfl⟩

set_option maxHeartbeats 4000000 in
set_option maxRecDepth 100000 in
theorem sX6_undo_s (w0 : Bool) (ff : Nat → Int32) (w1 : Bool) (gg : Nat → Int32) (z : PV) (hk : 1 ≤ (pY z).2.2) (u : SV) (hu : (pY z).1 (lat (pY z).2.1) = some u) (hyn : (pY z).2.1 < 6) (hyk : (pY z).2.2 ≤ 6) : am_Sp mX6_undo [.ref 2] (ppH w0 ff w1 gg z) (am_rp (nI ((pY z).2.2 - 1)) (ppH w0 ff w1 gg (tbZ z u))) := by
  refine am_intro (by decide) (Nat.le_of_ble_eq_true rfl) ?_
  refine ar_aload_n (i := 0) (pc := 0) dX6_undo_0 rfl rfl ?_
  refine ar_getf (pc := 1) dX6_undo_1 fX6_36 rfl rfl ?_
  refine ar_getf (pc := 4) dX6_undo_4 fX6_192 rfl rfl ?_
  refine ar_if_ne (pc := 7) (tgt := 13) dX6_undo_7 (by decide) (fun c7 => ?_) (fun c7 => False.elim (by (simp (disch := omega) only [Int32.lt_iff_toInt_lt, Int32.le_iff_toInt_le, ← Int32.toInt_inj, ti_m6, ti_m1, ti_0, ti_1, ti_2, ti_3, ti_4, ti_5, ti_6, ti_7, ti_8, ti_9, ti_12, ti_100, ti_9999, ti_60, nI_toInt] at c7); omega))
  refine ar_aload_n (i := 0) (pc := 13) dX6_undo_13 rfl rfl ?_
  refine ar_getf (pc := 14) dX6_undo_14 fX6_36 rfl rfl ?_
  refine ar_aload_n (i := 0) (pc := 17) dX6_undo_17 rfl rfl ?_
  refine ar_getf (pc := 18) dX6_undo_18 fX6_10 rfl rfl ?_
  refine ar_tb (pc := 21) dX6_undo_21 kX6_212 rfl rfl rfl rfl rfl hyn hyk hk u hu ?_
  refine ar_aload_n (i := 0) (pc := 24) dX6_undo_24 rfl rfl ?_
  refine ar_getf (pc := 25) dX6_undo_25 fX6_36 rfl rfl ?_
  refine ar_getf (pc := 28) dX6_undo_28 fX6_192 rfl rfl ?_
  exact ar_iret (pc := 31) dX6_undo_31 rfl rfl rfl ⟨rfl, rfl⟩
