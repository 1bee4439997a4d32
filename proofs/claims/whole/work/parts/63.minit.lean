/-! the reference as it is made -/
def sI_m : Nat → Int32 := upd (upd (upd (upd (upd (upd (upd (upd zF 0 200) 1 100) 2 40) 3 25) 4 1) 5 20) 6 1) 8 48
def q0_m : RV := (sI_m, zF, 0, zF, zF, zF, 0, zF)
def f0_D (ff : Nat → Int32) : Prop := ff 0 = 200 ∧ ff 1 = 100 ∧ ff 2 = 40 ∧ ff 3 = 25 ∧ ff 4 = 1 ∧ ff 5 = 20
theorem sI_ro {ff : Nat → Int32} (F : f0_D ff) : ro_R 0 0 (uL (v0 ff) zF) sI_m := by
  obtain ⟨a0, a1, a2, a3, a4, a5⟩ := F
  refine ⟨fun k hk => ?_, ?_, ?_, ?_, ?_, ?_, ?_, ?_, fun k hk => absurd hk (Nat.not_lt_zero _)⟩
  · show sI_m (0 + k) = ff k
    rcases (show k = 0 ∨ k = 1 ∨ k = 2 ∨ k = 3 ∨ k = 4 ∨ k = 5 by omega) with rfl | rfl | rfl | rfl | rfl | rfl
    · rw [a0]; rfl
    · rw [a1]; rfl
    · rw [a2]; rfl
    · rw [a3]; rfl
    · rw [a4]; rfl
    · rw [a5]; rfl
  · exact (by decide +kernel : sI_m 6 = (1 : Int64).toInt32)
  · exact (by decide +kernel : sI_m 7 = nI 0)
  · exact (by decide +kernel : sI_m 8 = (48 : Int32))
  · exact (by decide +kernel : sI_m 9 = (0 : Int32))
  · exact (by decide +kernel : sI_m 10 = (0 : Int32))
  · exact (by decide +kernel : sI_m 11 = (0 : Int32))
  · exact (by decide +kernel : ∀ k, k < 8 → sI_m (0 + 12 + k) = pm_ (zF k))
theorem ok_v0 {ff : Nat → Int32} (F : f0_D ff) : ok_D (v0 ff) 0 := by
  obtain ⟨a0, a1, a2, a3, a4, a5⟩ := F
  refine ⟨nI_0.symm, ⟨by omega, ⟨1, by omega, (by decide +kernel : (1 : Int64) = lN 1)⟩, fun k hk => absurd hk (Nat.not_lt_zero _), fun j k hk => absurd hk (Nat.not_lt_zero _), fun k hk => absurd hk (Nat.not_lt_zero _), ?_⟩, (by decide +kernel : (0 : Int32).toInt ≤ 9999), fun k hk => ?_, (by decide +kernel : 0 ≤ (48 : Int32).toInt ∧ (48 : Int32).toInt < 4096), fun k _ => Or.inl rfl, fun k _ => Or.inr ?_⟩
  · show (0 : Int32) ≤ ff 4
    rw [a4]; decide +kernel
  · show 0 ≤ (ff k).toInt ∧ (ff k).toInt ≤ _
    rcases (show k = 0 ∨ k = 1 ∨ k = 2 ∨ k = 3 ∨ k = 4 ∨ k = 5 by omega) with rfl | rfl | rfl | rfl | rfl | rfl
    · rw [a0]; decide +kernel
    · rw [a1]; decide +kernel
    · rw [a2]; decide +kernel
    · rw [a3]; decide +kernel
    · rw [a4]; decide +kernel
    · rw [a5]; decide +kernel
  · exact (by decide +kernel : 0 ≤ (0 : Int32).toInt ∧ (0 : Int32).toInt < 12)
theorem mr_0 {ff : Nat → Int32} (F : f0_D ff) {s : Nat → Int32} (R : ro_R 0 0 (v0 ff) s) : mr_R (z0 ff) (ru_S q0_m s) :=
  ⟨⟨0, ok_v0 F, R⟩, ⟨(by omega : 0 < 6), Nat.zero_le _, nI_0.symm, fun i hi => absurd hi (Nat.not_lt_zero _)⟩, ⟨rfl, rfl⟩, ⟨0, by omega, nI_0.symm, nI_0.symm, fun i hi => absurd hi (Nat.not_lt_zero _)⟩⟩
set_option maxHeartbeats 4000000 in
set_option maxRecDepth 100000 in
theorem sX7_init {ff : Nat → Int32} (F : f0_D ff) : am_Sp mX7_init [.ref 2] (none :: none :: some (am_oj 6 [.null, .null, .int 0, .null, .null, .null, .int 0, .null]) :: nn 6) (fun r h1 => r = none ∧ ∃ q, h1 = md_H q ∧ mr_R (z0 ff) q) := by
  refine am_intro (by decide) (Nat.le_of_ble_eq_true rfl) ?_
  refine ar_aload_n (i := 0) (pc := 0) dX7_init_0 rfl rfl ?_
  refine ar_obj (pc := 1) dX7_init_1 oX7_1 (Nat.le_of_ble_eq_true rfl) (Nat.le_of_ble_eq_true rfl) ?_
  refine ar_aload_n (i := 0) (pc := 4) dX7_init_4 rfl rfl ?_
  refine ar_bipush (pc := 5) dX7_init_5 q_bipush_120 ?_
  refine ar_newa (pc := 7) (k := 3) (N := 120) dX7_init_7 rfl rfl wt_int (by decide +kernel) (by decide) (by decide) rfl (by decide) rfl (Nat.le_of_ble_eq_true rfl) (Nat.le_of_ble_eq_true rfl) ?_
  refine ar_putF (pc := 9) dX7_init_9 fX7_7 rfl rfl rfl (Nat.le_of_ble_eq_true rfl) (fun _ => ⟨rfl, rfl⟩) ?_
  refine ar_aload_n (i := 0) (pc := 12) dX7_init_12 rfl rfl ?_
  refine ar_sipush (pc := 13) dX7_init_13 q_sipush_360 ?_
  refine ar_newa (pc := 16) (k := 4) (N := 360) dX7_init_16 rfl rfl wt_int (by decide +kernel) (by decide) (by decide) rfl (by decide) rfl (Nat.le_of_ble_eq_true rfl) (Nat.le_of_ble_eq_true rfl) ?_
  refine ar_putF (pc := 18) dX7_init_18 fX7_13 rfl rfl rfl (Nat.le_of_ble_eq_true rfl) (fun _ => ⟨rfl, rfl⟩) ?_
  refine ar_aload_n (i := 0) (pc := 21) dX7_init_21 rfl rfl ?_
  refine ar_bipush (pc := 22) dX7_init_22 q_bipush_120 ?_
  refine ar_newa (pc := 24) (k := 5) (N := 120) dX7_init_24 rfl rfl wt_int (by decide +kernel) (by decide) (by decide) rfl (by decide) rfl (Nat.le_of_ble_eq_true rfl) (Nat.le_of_ble_eq_true rfl) ?_
  refine ar_putF (pc := 26) dX7_init_26 fX7_16 rfl rfl rfl (Nat.le_of_ble_eq_true rfl) (fun _ => ⟨rfl, rfl⟩) ?_
  refine ar_aload_n (i := 0) (pc := 29) dX7_init_29 rfl rfl ?_
  refine ar_iconst (pc := 30) dX7_init_30 q_iconst_2 ?_
  refine ar_newa (pc := 31) (k := 6) (N := 2) dX7_init_31 rfl rfl wt_boolean (by decide +kernel) (by decide) (by decide) rfl (by decide) rfl (Nat.le_of_ble_eq_true rfl) (Nat.le_of_ble_eq_true rfl) ?_
  refine ar_putF (pc := 33) dX7_init_33 fX7_19 rfl rfl rfl (Nat.le_of_ble_eq_true rfl) (fun _ => ⟨rfl, rfl⟩) ?_
  refine ar_aload_n (i := 0) (pc := 36) dX7_init_36 rfl rfl ?_
  refine ar_bipush (pc := 37) dX7_init_37 q_bipush_60 ?_
  refine ar_newa (pc := 39) (k := 7) (N := 60) dX7_init_39 rfl rfl wt_int (by decide +kernel) (by decide) (by decide) rfl (by decide) rfl (Nat.le_of_ble_eq_true rfl) (Nat.le_of_ble_eq_true rfl) ?_
  refine ar_putF (pc := 41) dX7_init_41 fX7_23 rfl rfl rfl (Nat.le_of_ble_eq_true rfl) (fun _ => ⟨rfl, rfl⟩) ?_
  refine ar_aload_n (i := 0) (pc := 44) dX7_init_44 rfl rfl ?_
  refine ar_bipush (pc := 45) dX7_init_45 q_bipush_16 ?_
  refine ar_newa (pc := 47) (k := 8) (N := 16) dX7_init_47 rfl rfl wt_int (by decide +kernel) (by decide) (by decide) rfl (by decide) rfl (Nat.le_of_ble_eq_true rfl) (Nat.le_of_ble_eq_true rfl) ?_
  refine ar_putF (pc := 49) dX7_init_49 fX7_26 rfl rfl rfl (Nat.le_of_ble_eq_true rfl) (fun _ => ⟨rfl, rfl⟩) ?_
  refine ar_aload_n (i := 0) (pc := 52) dX7_init_52 rfl rfl ?_
  refine ar_getf (pc := 53) dX7_init_53 fX7_7 rfl rfl ?_
  refine ar_iconst (pc := 56) dX7_init_56 q_iconst_0 ?_
  refine ar_sipush (pc := 57) dX7_init_57 q_sipush_200 ?_
  refine ar_iast (pc := 60) dX7_init_60 rfl (show 0 < 120 by decide) (by decide +kernel) ?_
  refine ar_aload_n (i := 0) (pc := 61) dX7_init_61 rfl rfl ?_
  refine ar_getf (pc := 62) dX7_init_62 fX7_7 rfl rfl ?_
  refine ar_iconst (pc := 65) dX7_init_65 q_iconst_1 ?_
  refine ar_bipush (pc := 66) dX7_init_66 q_bipush_100 ?_
  refine ar_iast (pc := 68) dX7_init_68 rfl (show 1 < 120 by decide) (by decide +kernel) ?_
  refine ar_aload_n (i := 0) (pc := 69) dX7_init_69 rfl rfl ?_
  refine ar_getf (pc := 70) dX7_init_70 fX7_7 rfl rfl ?_
  refine ar_iconst (pc := 73) dX7_init_73 q_iconst_2 ?_
  refine ar_bipush (pc := 74) dX7_init_74 q_bipush_40 ?_
  refine ar_iast (pc := 76) dX7_init_76 rfl (show 2 < 120 by decide) (by decide +kernel) ?_
  refine ar_aload_n (i := 0) (pc := 77) dX7_init_77 rfl rfl ?_
  refine ar_getf (pc := 78) dX7_init_78 fX7_7 rfl rfl ?_
  refine ar_iconst (pc := 81) dX7_init_81 q_iconst_3 ?_
  refine ar_bipush (pc := 82) dX7_init_82 q_bipush_25 ?_
  refine ar_iast (pc := 84) dX7_init_84 rfl (show 3 < 120 by decide) (by decide +kernel) ?_
  refine ar_aload_n (i := 0) (pc := 85) dX7_init_85 rfl rfl ?_
  refine ar_getf (pc := 86) dX7_init_86 fX7_7 rfl rfl ?_
  refine ar_iconst (pc := 89) dX7_init_89 q_iconst_4 ?_
  refine ar_iconst (pc := 90) dX7_init_90 q_iconst_1 ?_
  refine ar_iast (pc := 91) dX7_init_91 rfl (show 4 < 120 by decide) (by decide +kernel) ?_
  refine ar_aload_n (i := 0) (pc := 92) dX7_init_92 rfl rfl ?_
  refine ar_getf (pc := 93) dX7_init_93 fX7_7 rfl rfl ?_
  refine ar_iconst (pc := 96) dX7_init_96 q_iconst_5 ?_
  refine ar_bipush (pc := 97) dX7_init_97 q_bipush_20 ?_
  refine ar_iast (pc := 99) dX7_init_99 rfl (show 5 < 120 by decide) (by decide +kernel) ?_
  refine ar_aload_n (i := 0) (pc := 100) dX7_init_100 rfl rfl ?_
  refine ar_getf (pc := 101) dX7_init_101 fX7_7 rfl rfl ?_
  refine ar_bipush (pc := 104) dX7_init_104 q_bipush_6 ?_
  refine ar_iconst (pc := 106) dX7_init_106 q_iconst_1 ?_
  refine ar_iast (pc := 107) dX7_init_107 rfl (show 6 < 120 by decide) (by decide +kernel) ?_
  refine ar_aload_n (i := 0) (pc := 108) dX7_init_108 rfl rfl ?_
  refine ar_getf (pc := 109) dX7_init_109 fX7_7 rfl rfl ?_
  refine ar_bipush (pc := 112) dX7_init_112 q_bipush_8 ?_
  refine ar_bipush (pc := 114) dX7_init_114 q_bipush_48 ?_
  refine ar_iast (pc := 116) dX7_init_116 rfl (show 8 < 120 by decide) (by decide +kernel) ?_
  refine ar_hp (h' := md_H q0_m) rfl ?_
  refine ar_aload_n (i := 0) (pc := 117) dX7_init_117 rfl rfl ?_
  refine ar_idV (pc := 118) dX7_init_118 cal_X7_forgets kX7_29 rfl (sX7_forgets q0_m 0 (uL (v0 ff) zF) (sI_ro F)) rfl rfl rfl rfl rfl rfl rfl (fun r h1 hp => ?_)
  obtain ⟨s, rfl, rfl, hs⟩ := hp
  refine ⟨pat_md _ _, ?_⟩
  exact ar_vret (pc := 121) dX7_init_121 rfl rfl rfl ⟨rfl, _, rfl, mr_0 F hs⟩

