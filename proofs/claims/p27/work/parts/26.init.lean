/-! constructors -/
abbrev zF : Nat → Int32 := fun _ => 0
/-- a State as it is made -/
def v0 (ff : Nat → Int32) : SV := (ff, 1, 48, 0, 0, 0, 0, zF, zF, zF, zF, zF, fun _ => -6)
abbrev fsC (w : Bool) (ff : Nat → Int32) : am_C := .inr (.inl (.int, w, 6, ff))
def inS (w : Bool) (ff : Nat → Int32) : am_H := [some (fsC w ff), none, some (am_oj 2 [.null, .long 0, .int 0, .int 0, .int 0, .int 0, .int 0, .null, .null, .null, .null, .null, .null]), none, none, none, none, none, none, none]
def okS (w : Bool) (ff : Nat → Int32) (v : SV) : am_H := some (fsC w ff) :: none :: stB 2 v
theorem ar_hp {M : am_M} {h0 : am_H} {P : Option Value → am_H → Prop} {kc ks pc : Nat} {L : List (Option Value)} {S : List Value} {h h' : am_H} (e : h = h') (k : am_RW M h0 P kc ks pc L S h') : am_RW M h0 P kc ks pc L S h := e ▸ k
theorem okc2 (w : Bool) : am_okmu [0, 1, 0, 3] [none, none, some w, some true] = true := by cases w <;> decide +kernel
theorem oki9 : am_okmu [0, 1, 2, 3, 4, 5, 6, 7, 8, 9] [none, none, some true, some true, some true, some true, some true, some true, some true, some true] = true := by decide +kernel
set_option maxHeartbeats 4000000 in
set_option maxRecDepth 100000 in
theorem sX3_init (w : Bool) (ff : Nat → Int32) : am_Sp mX3_init [.ref 2] (inS w ff) (am_vp (okS w ff (v0 ff))) := by
  refine am_intro (by decide) (Nat.le_of_ble_eq_true rfl) ?_
  refine ar_aload_n (i := 0) (pc := 0) dX3_init_0 rfl rfl ?_
  refine ar_obj (pc := 1) dX3_init_1 oX3_3 (Nat.le_of_ble_eq_true rfl) (Nat.le_of_ble_eq_true rfl) ?_
  refine ar_aload_n (i := 0) (pc := 4) dX3_init_4 rfl rfl ?_
  refine ar_gets0N (pc := 5) dX3_init_5 sX3_9 ?_
  refine ar_alen (pc := 8) dX3_init_8 rfl ?_
  refine ar_newa (pc := 9) (k := 3) (N := 6) dX3_init_9 rfl rfl wt_int rfl (by decide) (by decide) rfl (by decide) rfl (Nat.le_of_ble_eq_true rfl) (Nat.le_of_ble_eq_true rfl) ?_
  refine ar_putF (pc := 11) dX3_init_11 fX3_13 rfl rfl rfl (Nat.le_of_ble_eq_true rfl) (fun _ => ⟨rfl, rfl⟩) ?_
  refine ar_hp (h' := [some (fsC w ff), none, some (am_oj 2 [.ref 3, .long 0, .int 0, .int 0, .int 0, .int 0, .int 0, .null, .null, .null, .null, .null, .null]), some (am_ia 6 zF), none, none, none, none, none, none]) rfl ?_
  refine ar_aload_n (i := 0) (pc := 14) dX3_init_14 rfl rfl ?_
  refine ar_lconst (pc := 15) dX3_init_15 q_lconst_1 ?_
  refine ar_putf (pc := 16) dX3_init_16 fX3_18 rfl (Nat.le_of_ble_eq_true rfl) (fun _ => ⟨rfl, rfl⟩) ?_
  refine ar_hp (h' := [some (fsC w ff), none, some (am_oj 2 [.ref 3, .long 1, .int 0, .int 0, .int 0, .int 0, .int 0, .null, .null, .null, .null, .null, .null]), some (am_ia 6 zF), none, none, none, none, none, none]) rfl ?_
  refine ar_aload_n (i := 0) (pc := 19) dX3_init_19 rfl rfl ?_
  refine ar_bipush (pc := 20) dX3_init_20 q_bipush_48 ?_
  refine ar_putf (pc := 22) dX3_init_22 fX3_22 rfl (Nat.le_of_ble_eq_true rfl) (fun _ => ⟨rfl, rfl⟩) ?_
  refine ar_hp (h' := [some (fsC w ff), none, some (am_oj 2 [.ref 3, .long 1, .int 48, .int 0, .int 0, .int 0, .int 0, .null, .null, .null, .null, .null, .null]), some (am_ia 6 zF), none, none, none, none, none, none]) rfl ?_
  refine ar_aload_n (i := 0) (pc := 25) dX3_init_25 rfl rfl ?_
  refine ar_bipush (pc := 26) dX3_init_26 q_bipush_8 ?_
  refine ar_newa (pc := 28) (k := 4) (N := 8) dX3_init_28 rfl rfl wt_int (by decide +kernel) (by decide) (by decide) rfl (by decide) rfl (Nat.le_of_ble_eq_true rfl) (Nat.le_of_ble_eq_true rfl) ?_
  refine ar_putF (pc := 30) dX3_init_30 fX3_26 rfl rfl rfl (Nat.le_of_ble_eq_true rfl) (fun _ => ⟨rfl, rfl⟩) ?_
  refine ar_hp (h' := [some (fsC w ff), none, some (am_oj 2 [.ref 3, .long 1, .int 48, .int 0, .int 0, .int 0, .int 0, .ref 4, .null, .null, .null, .null, .null]), some (am_ia 6 zF), some (am_ia 8 zF), none, none, none, none, none]) rfl ?_
  refine ar_aload_n (i := 0) (pc := 33) dX3_init_33 rfl rfl ?_
  refine ar_bipush (pc := 34) dX3_init_34 q_bipush_8 ?_
  refine ar_newa (pc := 36) (k := 5) (N := 8) dX3_init_36 rfl rfl wt_int (by decide +kernel) (by decide) (by decide) rfl (by decide) rfl (Nat.le_of_ble_eq_true rfl) (Nat.le_of_ble_eq_true rfl) ?_
  refine ar_putF (pc := 38) dX3_init_38 fX3_29 rfl rfl rfl (Nat.le_of_ble_eq_true rfl) (fun _ => ⟨rfl, rfl⟩) ?_
  refine ar_hp (h' := [some (fsC w ff), none, some (am_oj 2 [.ref 3, .long 1, .int 48, .int 0, .int 0, .int 0, .int 0, .ref 4, .ref 5, .null, .null, .null, .null]), some (am_ia 6 zF), some (am_ia 8 zF), some (am_ia 8 zF), none, none, none, none]) rfl ?_
  refine ar_aload_n (i := 0) (pc := 41) dX3_init_41 rfl rfl ?_
  refine ar_bipush (pc := 42) dX3_init_42 q_bipush_8 ?_
  refine ar_newa (pc := 44) (k := 6) (N := 8) dX3_init_44 rfl rfl wt_int (by decide +kernel) (by decide) (by decide) rfl (by decide) rfl (Nat.le_of_ble_eq_true rfl) (Nat.le_of_ble_eq_true rfl) ?_
  refine ar_putF (pc := 46) dX3_init_46 fX3_32 rfl rfl rfl (Nat.le_of_ble_eq_true rfl) (fun _ => ⟨rfl, rfl⟩) ?_
  refine ar_hp (h' := [some (fsC w ff), none, some (am_oj 2 [.ref 3, .long 1, .int 48, .int 0, .int 0, .int 0, .int 0, .ref 4, .ref 5, .ref 6, .null, .null, .null]), some (am_ia 6 zF), some (am_ia 8 zF), some (am_ia 8 zF), some (am_ia 8 zF), none, none, none]) rfl ?_
  refine ar_aload_n (i := 0) (pc := 49) dX3_init_49 rfl rfl ?_
  refine ar_bipush (pc := 50) dX3_init_50 q_bipush_8 ?_
  refine ar_newa (pc := 52) (k := 7) (N := 8) dX3_init_52 rfl rfl wt_int (by decide +kernel) (by decide) (by decide) rfl (by decide) rfl (Nat.le_of_ble_eq_true rfl) (Nat.le_of_ble_eq_true rfl) ?_
  refine ar_putF (pc := 54) dX3_init_54 fX3_35 rfl rfl rfl (Nat.le_of_ble_eq_true rfl) (fun _ => ⟨rfl, rfl⟩) ?_
  refine ar_hp (h' := [some (fsC w ff), none, some (am_oj 2 [.ref 3, .long 1, .int 48, .int 0, .int 0, .int 0, .int 0, .ref 4, .ref 5, .ref 6, .ref 7, .null, .null]), some (am_ia 6 zF), some (am_ia 8 zF), some (am_ia 8 zF), some (am_ia 8 zF), some (am_ia 8 zF), none, none]) rfl ?_
  refine ar_aload_n (i := 0) (pc := 57) dX3_init_57 rfl rfl ?_
  refine ar_bipush (pc := 58) dX3_init_58 q_bipush_8 ?_
  refine ar_newa (pc := 60) (k := 8) (N := 8) dX3_init_60 rfl rfl wt_int (by decide +kernel) (by decide) (by decide) rfl (by decide) rfl (Nat.le_of_ble_eq_true rfl) (Nat.le_of_ble_eq_true rfl) ?_
  refine ar_putF (pc := 62) dX3_init_62 fX3_38 rfl rfl rfl (Nat.le_of_ble_eq_true rfl) (fun _ => ⟨rfl, rfl⟩) ?_
  refine ar_hp (h' := [some (fsC w ff), none, some (am_oj 2 [.ref 3, .long 1, .int 48, .int 0, .int 0, .int 0, .int 0, .ref 4, .ref 5, .ref 6, .ref 7, .ref 8, .null]), some (am_ia 6 zF), some (am_ia 8 zF), some (am_ia 8 zF), some (am_ia 8 zF), some (am_ia 8 zF), some (am_ia 8 zF), none]) rfl ?_
  refine ar_aload_n (i := 0) (pc := 65) dX3_init_65 rfl rfl ?_
  refine ar_bipush (pc := 66) dX3_init_66 q_bipush_8 ?_
  refine ar_newa (pc := 68) (k := 9) (N := 8) dX3_init_68 rfl rfl wt_int (by decide +kernel) (by decide) (by decide) rfl (by decide) rfl (Nat.le_of_ble_eq_true rfl) (Nat.le_of_ble_eq_true rfl) ?_
  refine ar_putF (pc := 70) dX3_init_70 fX3_41 rfl rfl rfl (Nat.le_of_ble_eq_true rfl) (fun _ => ⟨rfl, rfl⟩) ?_
  refine ar_hp (h' := [some (fsC w ff), none, some (am_oj 2 [.ref 3, .long 1, .int 48, .int 0, .int 0, .int 0, .int 0, .ref 4, .ref 5, .ref 6, .ref 7, .ref 8, .ref 9]), some (am_ia 6 zF), some (am_ia 8 zF), some (am_ia 8 zF), some (am_ia 8 zF), some (am_ia 8 zF), some (am_ia 8 zF), some (am_ia 8 zF)]) rfl ?_
  refine ar_gets0N (pc := 73) dX3_init_73 sX3_9 ?_
  refine ar_aload_n (i := 0) (pc := 76) dX3_init_76 rfl rfl ?_
  refine ar_getf (pc := 77) dX3_init_77 fX3_13 rfl rfl ?_
  refine ar_mc (pc := 80) (l := [0, 1, 0, 3]) (ar_rSN dX3_init_80 cal_X6_copyRow kX3_44 rfl (sX6_copyRow w 6 (by decide) ff zF) rfl rfl rfl (okc2 w) rfl rfl) (okc2 w) rfl rfl rfl rfl (fun r h1 hp => ?_)
  obtain ⟨rfl, rfl⟩ := hp
  refine ⟨rfl, ?_⟩
  refine ar_hp (h' := [some (fsC w ff), none, some (am_oj 2 [.ref 3, .long 1, .int 48, .int 0, .int 0, .int 0, .int 0, .ref 4, .ref 5, .ref 6, .ref 7, .ref 8, .ref 9]), some (am_ia 6 ff), some (am_ia 8 zF), some (am_ia 8 zF), some (am_ia 8 zF), some (am_ia 8 zF), some (am_ia 8 zF), some (am_ia 8 zF)]) rfl ?_
  refine ar_aload_n (i := 0) (pc := 83) dX3_init_83 rfl rfl ?_
  refine ar_mc (pc := 84) (l := [0, 1, 2, 3, 4, 5, 6, 7, 8, 9]) (ar_rV dX3_init_84 cal_X3_forgetLots kX3_48 rfl (sX3_forgetLots (ff, 1, 48, 0, 0, 0, 0, zF, zF, zF, zF, zF, zF)) rfl rfl rfl rfl rfl oki9 rfl rfl) oki9 rfl rfl rfl rfl (fun r h1 hp => ?_)
  obtain ⟨rfl, rfl⟩ := hp
  refine ⟨rfl, ?_⟩
  exact ar_vret (pc := 87) dX3_init_87 rfl rfl rfl ⟨rfl, rfl⟩

set_option maxHeartbeats 4000000 in
set_option maxRecDepth 100000 in
theorem sX4_init1  : am_Sp mX4_init [.ref 2, .int 1] ([none, none, some (am_oj 3 [.int 0, .null, .null, .int 0, .int 0]), none, none]) (am_vp (smH 1 zF zF 0 0)) := by
  refine am_intro (by decide) (Nat.le_of_ble_eq_true rfl) ?_
  refine ar_aload_n (i := 0) (pc := 0) dX4_init_0 rfl rfl ?_
  refine ar_obj (pc := 1) dX4_init_1 oX4_3 (Nat.le_of_ble_eq_true rfl) (Nat.le_of_ble_eq_true rfl) ?_
  refine ar_aload_n (i := 0) (pc := 4) dX4_init_4 rfl rfl ?_
  refine ar_bipush (pc := 5) dX4_init_5 q_bipush_12 ?_
  refine ar_newa (pc := 7) (k := 3) (N := 12) dX4_init_7 rfl rfl wt_int (by decide +kernel) (by decide) (by decide) rfl (by decide) rfl (Nat.le_of_ble_eq_true rfl) (Nat.le_of_ble_eq_true rfl) ?_
  refine ar_putF (pc := 9) dX4_init_9 fX4_9 rfl rfl rfl (Nat.le_of_ble_eq_true rfl) (fun _ => ⟨rfl, rfl⟩) ?_
  refine ar_aload_n (i := 0) (pc := 12) dX4_init_12 rfl rfl ?_
  refine ar_bipush (pc := 13) dX4_init_13 q_bipush_12 ?_
  refine ar_newa (pc := 15) (k := 4) (N := 12) dX4_init_15 rfl rfl wt_int (by decide +kernel) (by decide) (by decide) rfl (by decide) rfl (Nat.le_of_ble_eq_true rfl) (Nat.le_of_ble_eq_true rfl) ?_
  refine ar_putF (pc := 17) dX4_init_17 fX4_15 rfl rfl rfl (Nat.le_of_ble_eq_true rfl) (fun _ => ⟨rfl, rfl⟩) ?_
  refine ar_aload_n (i := 0) (pc := 20) dX4_init_20 rfl rfl ?_
  refine ar_iload_n (i := 1) (pc := 21) dX4_init_21 rfl rfl ?_
  refine ar_putF (pc := 22) dX4_init_22 fX4_18 rfl rfl rfl (Nat.le_of_ble_eq_true rfl) (fun _ => ⟨rfl, rfl⟩) ?_
  exact ar_vret (pc := 25) dX4_init_25 rfl rfl rfl ⟨rfl, rfl⟩

set_option maxHeartbeats 4000000 in
set_option maxRecDepth 100000 in
theorem sX4_init0  : am_Sp mX4_init [.ref 2, .int 0] ([none, none, some (am_oj 3 [.int 0, .null, .null, .int 0, .int 0]), none, none]) (am_vp (smH 0 zF zF 0 0)) := by
  refine am_intro (by decide) (Nat.le_of_ble_eq_true rfl) ?_
  refine ar_aload_n (i := 0) (pc := 0) dX4_init_0 rfl rfl ?_
  refine ar_obj (pc := 1) dX4_init_1 oX4_3 (Nat.le_of_ble_eq_true rfl) (Nat.le_of_ble_eq_true rfl) ?_
  refine ar_aload_n (i := 0) (pc := 4) dX4_init_4 rfl rfl ?_
  refine ar_bipush (pc := 5) dX4_init_5 q_bipush_12 ?_
  refine ar_newa (pc := 7) (k := 3) (N := 12) dX4_init_7 rfl rfl wt_int (by decide +kernel) (by decide) (by decide) rfl (by decide) rfl (Nat.le_of_ble_eq_true rfl) (Nat.le_of_ble_eq_true rfl) ?_
  refine ar_putF (pc := 9) dX4_init_9 fX4_9 rfl rfl rfl (Nat.le_of_ble_eq_true rfl) (fun _ => ⟨rfl, rfl⟩) ?_
  refine ar_aload_n (i := 0) (pc := 12) dX4_init_12 rfl rfl ?_
  refine ar_bipush (pc := 13) dX4_init_13 q_bipush_12 ?_
  refine ar_newa (pc := 15) (k := 4) (N := 12) dX4_init_15 rfl rfl wt_int (by decide +kernel) (by decide) (by decide) rfl (by decide) rfl (Nat.le_of_ble_eq_true rfl) (Nat.le_of_ble_eq_true rfl) ?_
  refine ar_putF (pc := 17) dX4_init_17 fX4_15 rfl rfl rfl (Nat.le_of_ble_eq_true rfl) (fun _ => ⟨rfl, rfl⟩) ?_
  refine ar_aload_n (i := 0) (pc := 20) dX4_init_20 rfl rfl ?_
  refine ar_iload_n (i := 1) (pc := 21) dX4_init_21 rfl rfl ?_
  refine ar_putF (pc := 22) dX4_init_22 fX4_18 rfl rfl rfl (Nat.le_of_ble_eq_true rfl) (fun _ => ⟨rfl, rfl⟩) ?_
  exact ar_vret (pc := 25) dX4_init_25 rfl rfl rfl ⟨rfl, rfl⟩

set_option maxHeartbeats 4000000 in
set_option maxRecDepth 100000 in
theorem sX5_init  : am_Sp mX5_init [.ref 2] ([none, none, some (am_oj 4 [.null, .null, .null]), none, none, none, none, none, none, none]) (am_vp (vwH zF zF zF 0 0 zF zF 0 0)) := by
  refine am_intro (by decide) (Nat.le_of_ble_eq_true rfl) ?_
  refine ar_aload_n (i := 0) (pc := 0) dX5_init_0 rfl rfl ?_
  refine ar_obj (pc := 1) dX5_init_1 oX5_3 (Nat.le_of_ble_eq_true rfl) (Nat.le_of_ble_eq_true rfl) ?_
  refine ar_aload_n (i := 0) (pc := 4) dX5_init_4 rfl rfl ?_
  refine ar_bipush (pc := 5) dX5_init_5 q_bipush_12 ?_
  refine ar_newa (pc := 7) (k := 3) (N := 12) dX5_init_7 rfl rfl wt_int (by decide +kernel) (by decide) (by decide) rfl (by decide) rfl (Nat.le_of_ble_eq_true rfl) (Nat.le_of_ble_eq_true rfl) ?_
  refine ar_putF (pc := 9) dX5_init_9 fX5_9 rfl rfl rfl (Nat.le_of_ble_eq_true rfl) (fun _ => ⟨rfl, rfl⟩) ?_
  refine ar_aload_n (i := 0) (pc := 12) dX5_init_12 rfl rfl ?_
  refine ar_new (pc := 13) (k := 4) dX5_init_13 wX5_15 rfl (by decide) rfl (Nat.le_of_ble_eq_true rfl) (Nat.le_of_ble_eq_true rfl) ?_
  refine ar_dup (pc := 16) dX5_init_16 rfl ?_
  refine ar_iconst (pc := 17) dX5_init_17 q_iconst_1 ?_
  refine ar_nc (pc := 18) (l := [0, 1, 4, 5, 6]) (p0 := [none, none, some true, none, none]) (p1 := [none, none, some true, some true, some true]) (ar_rI dX5_init_18 cal_X4_init rfl rfl kX5_17 rfl (sX4_init1) rfl rfl rfl rfl rfl rfl) rfl rfl rfl rfl rfl rfl rfl rfl (fun r h1 hp => ?_)
  obtain ⟨rfl, rfl⟩ := hp
  refine ⟨⟨rfl, rfl⟩, ?_⟩
  refine ar_putF (pc := 21) dX5_init_21 fX5_20 rfl rfl rfl (Nat.le_of_ble_eq_true rfl) (fun _ => ⟨rfl, rfl⟩) ?_
  refine ar_aload_n (i := 0) (pc := 24) dX5_init_24 rfl rfl ?_
  refine ar_new (pc := 25) (k := 7) dX5_init_25 wX5_15 rfl (by decide) rfl (Nat.le_of_ble_eq_true rfl) (Nat.le_of_ble_eq_true rfl) ?_
  refine ar_dup (pc := 28) dX5_init_28 rfl ?_
  refine ar_iconst (pc := 29) dX5_init_29 q_iconst_0 ?_
  refine ar_nc (pc := 30) (l := [0, 1, 7, 8, 9]) (p0 := [none, none, some true, none, none]) (p1 := [none, none, some true, some true, some true]) (ar_rI dX5_init_30 cal_X4_init rfl rfl kX5_17 rfl (sX4_init0) rfl rfl rfl rfl rfl rfl) rfl rfl rfl rfl rfl rfl rfl rfl (fun r h1 hp => ?_)
  obtain ⟨rfl, rfl⟩ := hp
  refine ⟨⟨rfl, rfl⟩, ?_⟩
  refine ar_putF (pc := 33) dX5_init_33 fX5_24 rfl rfl rfl (Nat.le_of_ble_eq_true rfl) (fun _ => ⟨rfl, rfl⟩) ?_
  exact ar_vret (pc := 36) dX5_init_36 rfl rfl rfl ⟨rfl, rfl⟩

set_option maxHeartbeats 4000000 in
set_option maxRecDepth 100000 in
theorem sX2_init  : am_Sp mX2_init [.ref 2] ([none, none, some (am_oj 1 [.null, .int 0, .int 0, .null, .null]), none, none, none]) (am_vp (pdH 0 zF (0, zF, zF))) := by
  refine am_intro (by decide) (Nat.le_of_ble_eq_true rfl) ?_
  refine ar_aload_n (i := 0) (pc := 0) dX2_init_0 rfl rfl ?_
  refine ar_obj (pc := 1) dX2_init_1 oX2_3 (Nat.le_of_ble_eq_true rfl) (Nat.le_of_ble_eq_true rfl) ?_
  refine ar_aload_n (i := 0) (pc := 4) dX2_init_4 rfl rfl ?_
  refine ar_bipush (pc := 5) dX2_init_5 q_bipush_60 ?_
  refine ar_newa (pc := 7) (k := 3) (N := 60) dX2_init_7 rfl rfl wt_char (by decide +kernel) (by decide) (by decide) rfl (by decide) rfl (Nat.le_of_ble_eq_true rfl) (Nat.le_of_ble_eq_true rfl) ?_
  refine ar_putF (pc := 9) dX2_init_9 fX2_9 rfl rfl rfl (Nat.le_of_ble_eq_true rfl) (fun _ => ⟨rfl, rfl⟩) ?_
  refine ar_aload_n (i := 0) (pc := 12) dX2_init_12 rfl rfl ?_
  refine ar_bipush (pc := 13) dX2_init_13 q_bipush_8 ?_
  refine ar_newa (pc := 15) (k := 4) (N := 8) dX2_init_15 rfl rfl wt_int (by decide +kernel) (by decide) (by decide) rfl (by decide) rfl (Nat.le_of_ble_eq_true rfl) (Nat.le_of_ble_eq_true rfl) ?_
  refine ar_putF (pc := 17) dX2_init_17 fX2_15 rfl rfl rfl (Nat.le_of_ble_eq_true rfl) (fun _ => ⟨rfl, rfl⟩) ?_
  refine ar_aload_n (i := 0) (pc := 20) dX2_init_20 rfl rfl ?_
  refine ar_bipush (pc := 21) dX2_init_21 q_bipush_8 ?_
  refine ar_newa (pc := 23) (k := 5) (N := 8) dX2_init_23 rfl rfl wt_int (by decide +kernel) (by decide) (by decide) rfl (by decide) rfl (Nat.le_of_ble_eq_true rfl) (Nat.le_of_ble_eq_true rfl) ?_
  refine ar_putF (pc := 25) dX2_init_25 fX2_19 rfl rfl rfl (Nat.le_of_ble_eq_true rfl) (fun _ => ⟨rfl, rfl⟩) ?_
  exact ar_vret (pc := 28) dX2_init_28 rfl rfl rfl ⟨rfl, by rw [pdH, pdB, show nI ((0, zF, zF) : PQ).1 = 0 from nI_0]; rfl⟩

set_option maxHeartbeats 4000000 in
set_option maxRecDepth 100000 in
theorem sX1_init  : am_Sp mX1_init [.ref 2] ([none, none, some (am_oj 0 [.null, .int 0, .int 0]), none]) (am_vp [none, none, some (am_oj 0 [.ref 3, .int 0, .int 0]), some (.inr (.inr (2, [none, none, none, none, none, none])))]) := by
  refine am_intro (by decide) (Nat.le_of_ble_eq_true rfl) ?_
  refine ar_aload_n (i := 0) (pc := 0) dX1_init_0 rfl rfl ?_
  refine ar_obj (pc := 1) dX1_init_1 oX1_3 (Nat.le_of_ble_eq_true rfl) (Nat.le_of_ble_eq_true rfl) ?_
  refine ar_aload_n (i := 0) (pc := 4) dX1_init_4 rfl rfl ?_
  refine ar_bipush (pc := 5) dX1_init_5 q_bipush_6 ?_
  refine ar_anew (pc := 7) (k := 3) (N := 6) (ci := 2) dX1_init_7 rfl waX1_9.1 waX1_9.2 (by decide +kernel) (by decide) rfl (by decide) rfl (Nat.le_of_ble_eq_true rfl) (Nat.le_of_ble_eq_true rfl) ?_
  refine ar_putF (pc := 10) dX1_init_10 fX1_11 rfl rfl rfl (Nat.le_of_ble_eq_true rfl) (fun _ => ⟨rfl, rfl⟩) ?_
  exact ar_vret (pc := 13) dX1_init_13 rfl rfl rfl ⟨rfl, rfl⟩
