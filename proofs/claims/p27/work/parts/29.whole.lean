/-! a PuppetPitches whole, as it is made -/
/-- the values of a View; of a Pad; of a History; of the two slots; of all -/
abbrev VWt : Type := (Nat → Int32) × (Nat → Int32) × (Nat → Int32) × Int32 × Int32 × (Nat → Int32) × (Nat → Int32) × Int32 × Int32
abbrev PDt : Type := Int32 × (Nat → Int32) × PQ
abbrev HYt : Type := (Nat → Option SV) × Nat × Nat
abbrev SLt : Type := Option SV × Option SV
abbrev PV : Type := SV × SV × VWt × PDt × HYt × SLt
def pN (z : PV) : SV := z.1
def pU (z : PV) : SV := z.2.1
def pW (z : PV) : VWt := z.2.2.1
def pD (z : PV) : PDt := z.2.2.2.1
def pY (z : PV) : HYt := z.2.2.2.2.1
def pL (z : PV) : SLt := z.2.2.2.2.2
def sN (z : PV) (a : SV) : PV := (a, z.2)
def sU (z : PV) (a : SV) : PV := (z.1, a, z.2.2)
def sW (z : PV) (a : VWt) : PV := (z.1, z.2.1, a, z.2.2.2)
def sD (z : PV) (a : PDt) : PV := (z.1, z.2.1, z.2.2.1, a, z.2.2.2.2)
def sY (z : PV) (a : HYt) : PV := (z.1, z.2.1, z.2.2.1, z.2.2.2.1, a, z.2.2.2.2.2)
def sL (z : PV) (a : SLt) : PV := (z.1, z.2.1, z.2.2.1, z.2.2.2.1, z.2.2.2.2.1, a)
def vwT (p : Nat) (x : VWt) : am_H := vwB p x.1 x.2.1 x.2.2.1 x.2.2.2.1 x.2.2.2.2.1 x.2.2.2.2.2.1 x.2.2.2.2.2.2.1 x.2.2.2.2.2.2.2.1 x.2.2.2.2.2.2.2.2
def hyA (y : HYt) : am_H := [some (am_oj 0 [.ref 32, .int (nI y.2.1), .int (nI y.2.2)]), some (.inr (.inr (2, [(y.1 0).map (fun _ => 34), (y.1 1).map (fun _ => 42), (y.1 2).map (fun _ => 50), (y.1 3).map (fun _ => 58), (y.1 4).map (fun _ => 66), (y.1 5).map (fun _ => 74)])))]
def slA (x : SLt) : am_H := [some (.inr (.inr (2, [x.1.map (fun _ => 82), x.2.map (fun _ => 90)])))]
def ppH (w0 : Bool) (ff : Nat → Int32) (w1 : Bool) (gg : Nat → Int32) (z : PV) : am_H :=
  some (fsC w0 ff) :: some (fsC w1 gg) :: some (am_oj 5 [.ref 3, .ref 11, .ref 19, .ref 27, .ref 31, .ref 33]) ::
  (stB 3 (pN z) ++ (stB 11 (pU z) ++ (vwT 19 (pW z) ++ (pdB 27 (pD z).1 (pD z).2.1 (pD z).2.2 ++ (hyA (pY z) ++ (slA (pL z) ++
  (slB 34 ((pY z).1 0) ++ (slB 42 ((pY z).1 1) ++ (slB 50 ((pY z).1 2) ++ (slB 58 ((pY z).1 3) ++ (slB 66 ((pY z).1 4) ++ (slB 74 ((pY z).1 5) ++ (slB 82 (pL z).1 ++ slB 90 (pL z).2)))))))))))))
def z0 (ff : Nat → Int32) : PV := (v0 ff, v0 ff, (zF, zF, zF, 0, 0, zF, zF, 0, 0), (0, zF, (0, zF, zF)), ((fun _ => none), 0, 0), (none, none))
def nn : Nat → am_H := fun n => List.replicate n none
theorem oknw_3 (w0 : Bool) : am_okmu [0, 1, 3, 4, 5, 6, 7, 8, 9, 10] [some w0, none, some true, none, none, none, none, none, none, none] = true := by cases w0 <;> decide +kernel
theorem oknv_3 (w0 : Bool) : am_okmu [0, 1, 3, 4, 5, 6, 7, 8, 9, 10] [some w0, none, some true, some true, some true, some true, some true, some true, some true, some true] = true := by cases w0 <;> decide +kernel
theorem oknw_11 (w0 : Bool) : am_okmu [0, 1, 11, 12, 13, 14, 15, 16, 17, 18] [some w0, none, some true, none, none, none, none, none, none, none] = true := by cases w0 <;> decide +kernel
theorem oknv_11 (w0 : Bool) : am_okmu [0, 1, 11, 12, 13, 14, 15, 16, 17, 18] [some w0, none, some true, some true, some true, some true, some true, some true, some true, some true] = true := by cases w0 <;> decide +kernel
theorem ppH_0 (w0 : Bool) (ff : Nat → Int32) (w1 : Bool) (gg : Nat → Int32) : (some (fsC w0 ff) :: some (fsC w1 gg) :: some (am_oj 5 [.ref 3, .ref 11, .ref 19, .ref 27, .ref 31, .ref 33]) :: (stB 3 (v0 ff) ++ (stB 11 (v0 ff) ++ (vwB 19 zF zF zF 0 0 zF zF 0 0 ++ (pdB 27 0 zF (0, zF, zF) ++ ([some (am_oj 0 [.ref 32, .int 0, .int 0]), some (.inr (.inr (2, [none, none, none, none, none, none])))] ++ ([some (.inr (.inr (2, [none, none])))] ++ nn 64)))))) : am_H) = ppH w0 ff w1 gg (z0 ff) := by
  rw [ppH, z0]
  simp only [pY, hyA, nI_0]
  rfl
set_option maxHeartbeats 4000000 in
set_option maxRecDepth 100000 in
theorem sX6_init (w0 : Bool) (ff : Nat → Int32) (w1 : Bool) (gg : Nat → Int32) : am_Sp mX6_init [.ref 2] (some (fsC w0 ff) :: some (fsC w1 gg) :: some (am_oj 5 [.null, .null, .null, .null, .null, .null]) :: nn 95) (am_vp (ppH w0 ff w1 gg (z0 ff))) := by
  refine am_intro (by decide) (Nat.le_of_ble_eq_true rfl) ?_
  refine ar_aload_n (i := 0) (pc := 0) dX6_init_0 rfl rfl ?_
  refine ar_obj (pc := 1) dX6_init_1 oX6_1 (Nat.le_of_ble_eq_true rfl) (Nat.le_of_ble_eq_true rfl) ?_
  refine ar_aload_n (i := 0) (pc := 4) dX6_init_4 rfl rfl ?_
  refine ar_new (pc := 5) (k := 3) dX6_init_5 wX6_7 rfl (by decide) rfl (Nat.le_of_ble_eq_true rfl) (Nat.le_of_ble_eq_true rfl) ?_
  refine ar_dup (pc := 8) dX6_init_8 rfl ?_
  refine ar_nc (pc := 9) (l := [0, 1, 3, 4, 5, 6, 7, 8, 9, 10]) (p0 := [some w0, none, some true, none, none, none, none, none, none, none]) (p1 := [some w0, none, some true, some true, some true, some true, some true, some true, some true, some true]) (ar_rI dX6_init_9 cal_X3_init rfl rfl kX6_9 rfl (sX3_init w0 ff) rfl rfl rfl (oknw_3 w0) rfl rfl) (oknv_3 w0) (by cases w0 <;> rfl) rfl rfl rfl rfl rfl rfl (fun r h1 hp => ?_)
  obtain ⟨rfl, rfl⟩ := hp
  refine ⟨⟨rfl, rfl⟩, ?_⟩
  refine ar_putF (pc := 12) dX6_init_12 fX6_10 rfl rfl rfl (Nat.le_of_ble_eq_true rfl) (fun _ => ⟨rfl, rfl⟩) ?_
  refine ar_hp (h' := some (fsC w0 ff) :: some (fsC w1 gg) :: some (am_oj 5 [.ref 3, .null, .null, .null, .null, .null]) :: (stB 3 (v0 ff) ++ nn 87)) rfl ?_
  refine ar_aload_n (i := 0) (pc := 15) dX6_init_15 rfl rfl ?_
  refine ar_new (pc := 16) (k := 11) dX6_init_16 wX6_7 rfl (by decide) rfl (Nat.le_of_ble_eq_true rfl) (Nat.le_of_ble_eq_true rfl) ?_
  refine ar_dup (pc := 19) dX6_init_19 rfl ?_
  refine ar_nc (pc := 20) (l := [0, 1, 11, 12, 13, 14, 15, 16, 17, 18]) (p0 := [some w0, none, some true, none, none, none, none, none, none, none]) (p1 := [some w0, none, some true, some true, some true, some true, some true, some true, some true, some true]) (ar_rI dX6_init_20 cal_X3_init rfl rfl kX6_9 rfl (sX3_init w0 ff) rfl rfl rfl (oknw_11 w0) rfl rfl) (oknv_11 w0) (by cases w0 <;> rfl) rfl rfl rfl rfl rfl rfl (fun r h1 hp => ?_)
  obtain ⟨rfl, rfl⟩ := hp
  refine ⟨⟨rfl, rfl⟩, ?_⟩
  refine ar_putF (pc := 23) dX6_init_23 fX6_16 rfl rfl rfl (Nat.le_of_ble_eq_true rfl) (fun _ => ⟨rfl, rfl⟩) ?_
  refine ar_hp (h' := some (fsC w0 ff) :: some (fsC w1 gg) :: some (am_oj 5 [.ref 3, .ref 11, .null, .null, .null, .null]) :: (stB 3 (v0 ff) ++ (stB 11 (v0 ff) ++ nn 79))) rfl ?_
  refine ar_aload_n (i := 0) (pc := 26) dX6_init_26 rfl rfl ?_
  refine ar_new (pc := 27) (k := 19) dX6_init_27 wX6_19 rfl (by decide) rfl (Nat.le_of_ble_eq_true rfl) (Nat.le_of_ble_eq_true rfl) ?_
  refine ar_dup (pc := 30) dX6_init_30 rfl ?_
  refine ar_nc (pc := 31) (l := [0, 1, 19, 20, 21, 22, 23, 24, 25, 26]) (p0 := [none, none, some true, none, none, none, none, none, none, none]) (p1 := [none, none, some true, some true, some true, some true, some true, some true, some true, some true]) (ar_rIN dX6_init_31 cal_X5_init rfl rfl kX6_21 rfl (sX5_init) rfl rfl rfl rfl rfl rfl) rfl rfl rfl rfl rfl rfl rfl rfl (fun r h1 hp => ?_)
  obtain ⟨rfl, rfl⟩ := hp
  refine ⟨⟨rfl, rfl⟩, ?_⟩
  refine ar_putF (pc := 34) dX6_init_34 fX6_22 rfl rfl rfl (Nat.le_of_ble_eq_true rfl) (fun _ => ⟨rfl, rfl⟩) ?_
  refine ar_hp (h' := some (fsC w0 ff) :: some (fsC w1 gg) :: some (am_oj 5 [.ref 3, .ref 11, .ref 19, .null, .null, .null]) :: (stB 3 (v0 ff) ++ (stB 11 (v0 ff) ++ (vwB 19 zF zF zF 0 0 zF zF 0 0 ++ nn 71)))) rfl ?_
  refine ar_aload_n (i := 0) (pc := 37) dX6_init_37 rfl rfl ?_
  refine ar_new (pc := 38) (k := 27) dX6_init_38 wX6_26 rfl (by decide) rfl (Nat.le_of_ble_eq_true rfl) (Nat.le_of_ble_eq_true rfl) ?_
  refine ar_dup (pc := 41) dX6_init_41 rfl ?_
  refine ar_nc (pc := 42) (l := [0, 1, 27, 28, 29, 30]) (p0 := [none, none, some true, none, none, none]) (p1 := [none, none, some true, some true, some true, some true]) (ar_rIN dX6_init_42 cal_X2_init rfl rfl kX6_28 rfl (sX2_init) rfl rfl rfl rfl rfl rfl) rfl rfl rfl rfl rfl rfl rfl rfl (fun r h1 hp => ?_)
  obtain ⟨rfl, rfl⟩ := hp
  refine ⟨⟨rfl, rfl⟩, ?_⟩
  refine ar_putF (pc := 45) dX6_init_45 fX6_29 rfl rfl rfl (Nat.le_of_ble_eq_true rfl) (fun _ => ⟨rfl, rfl⟩) ?_
  refine ar_hp (h' := some (fsC w0 ff) :: some (fsC w1 gg) :: some (am_oj 5 [.ref 3, .ref 11, .ref 19, .ref 27, .null, .null]) :: (stB 3 (v0 ff) ++ (stB 11 (v0 ff) ++ (vwB 19 zF zF zF 0 0 zF zF 0 0 ++ (pdB 27 0 zF (0, zF, zF) ++ nn 67))))) rfl ?_
  refine ar_aload_n (i := 0) (pc := 48) dX6_init_48 rfl rfl ?_
  refine ar_new (pc := 49) (k := 31) dX6_init_49 wX6_33 rfl (by decide) rfl (Nat.le_of_ble_eq_true rfl) (Nat.le_of_ble_eq_true rfl) ?_
  refine ar_dup (pc := 52) dX6_init_52 rfl ?_
  refine ar_nc (pc := 53) (l := [0, 1, 31, 32]) (p0 := [none, none, some true, none]) (p1 := [none, none, some true, some true]) (ar_rIN dX6_init_53 cal_X1_init rfl rfl kX6_35 rfl (sX1_init) rfl rfl rfl rfl rfl rfl) rfl rfl rfl rfl rfl rfl rfl rfl (fun r h1 hp => ?_)
  obtain ⟨rfl, rfl⟩ := hp
  refine ⟨⟨rfl, rfl⟩, ?_⟩
  refine ar_putF (pc := 56) dX6_init_56 fX6_36 rfl rfl rfl (Nat.le_of_ble_eq_true rfl) (fun _ => ⟨rfl, rfl⟩) ?_
  refine ar_hp (h' := some (fsC w0 ff) :: some (fsC w1 gg) :: some (am_oj 5 [.ref 3, .ref 11, .ref 19, .ref 27, .ref 31, .null]) :: (stB 3 (v0 ff) ++ (stB 11 (v0 ff) ++ (vwB 19 zF zF zF 0 0 zF zF 0 0 ++ (pdB 27 0 zF (0, zF, zF) ++ ([some (am_oj 0 [.ref 32, .int 0, .int 0]), some (.inr (.inr (2, [none, none, none, none, none, none])))] ++ nn 65)))))) rfl ?_
  refine ar_aload_n (i := 0) (pc := 59) dX6_init_59 rfl rfl ?_
  refine ar_iconst (pc := 60) dX6_init_60 q_iconst_2 ?_
  refine ar_anew (pc := 61) (k := 33) (N := 2) (ci := 2) dX6_init_61 rfl waX6_7.1 waX6_7.2 (by decide +kernel) (by decide) rfl (by decide) rfl (Nat.le_of_ble_eq_true rfl) (Nat.le_of_ble_eq_true rfl) ?_
  refine ar_putF (pc := 64) dX6_init_64 fX6_40 rfl rfl rfl (Nat.le_of_ble_eq_true rfl) (fun _ => ⟨rfl, rfl⟩) ?_
  refine ar_hp (h' := some (fsC w0 ff) :: some (fsC w1 gg) :: some (am_oj 5 [.ref 3, .ref 11, .ref 19, .ref 27, .ref 31, .ref 33]) :: (stB 3 (v0 ff) ++ (stB 11 (v0 ff) ++ (vwB 19 zF zF zF 0 0 zF zF 0 0 ++ (pdB 27 0 zF (0, zF, zF) ++ ([some (am_oj 0 [.ref 32, .int 0, .int 0]), some (.inr (.inr (2, [none, none, none, none, none, none])))] ++ ([some (.inr (.inr (2, [none, none])))] ++ nn 64))))))) rfl ?_
  exact ar_vret (pc := 67) dX6_init_67 rfl rfl rfl ⟨rfl, ppH_0 w0 ff w1 gg⟩
