/-! THE JUDGEMENT of a method's body: from pc, locals L, stack S, cells h it comes to a return that satisfies P; kc, ks: cells and slots made so far -/
def am_St (h0 : am_H) (D : va_G) (s : State) (ad0 ad : Nat → Nat) (h : am_H) (H : Heap) (locs : List Loc) : Prop :=
  am_HR D s ad h H ∧ (∀ (k : Nat) (c : am_C), h0[k]? = some (some c) → ∃ c' : am_C, h[k]? = some (some c')) ∧ (∀ k : Nat, ¬ am_new h0 h k → ad k = ad0 k) ∧ (∀ k : Nat, am_new h0 h k → s.heap.size ≤ ad k) ∧
  (∀ (k : Nat) (c : am_C), h[k]? = some (some c) → am_wr c = true → am_FP ad0 h0 s.heap.size (ad k)) ∧ va_S (am_FP ad0 h0 s.heap.size) s.heap H locs ∧ am_E D (am_FP ad0 h0 s.heap.size) ad0 s s.heap ∧ ad 0 = ad0 0 ∧ ad 1 = ad0 1
def am_Cx (M : am_M) (p : Program) (R : Room) (s : State) (m : MethodId) (args : Array Value) (meth : Method) (c : Code) : Prop :=
  p.tables.exec = Jvm.exec ∧ c.code = am_b M ∧ c.maxLocals = am_n M ∧ s.vm.findClass (am_y M).cls = some m.cls ∧ (∀ w ∈ am_W M, w.before args s = true) ∧ meth.name = (am_y M).name ∧ (am_lv M ≤ R.frames ∧ 41 * am_lv M ≤ R.locals ∧ am_nc M ≤ R.cells ∧ am_ns M ≤ R.slots)
def am_ri (M : am_M) (pc : Nat) (r : Option Value) : Prop := match r with
  | none => am_r M = none ∧ decode (am_b M) pc = .ok (.return_, 1)
  | some (.int v) => (∃ ty : FieldType, am_r M = some ty ∧ narrow ty (.int v) = .int v) ∧ decode (am_b M) pc = .ok (.ireturn, 1)
  | some (.ref _) => (∃ n : String, am_r M = some (.object n)) ∧ decode (am_b M) pc = .ok (.areturn, 1)
  | _ => False
def am_Fin (M : am_M) (h0 : am_H) (P : Option Value → am_H → Prop) (p : Program) (l : Launch) (e : Env) (R : Room) (s : State) (m : MethodId) (args : Array Value) (below : List Frame) (meth : Method) (c : Code) (D : va_G) (ad0 : Nat → Nat) (Q : State → Prop) : Prop :=
  ∀ (r : Option Value) (h1 : am_H) (ad : Nat → Nat) (H : Heap) (locs : List Loc) (kc ks : Nat) (ls : Array Slot) (pc : Nat), kc ≤ am_nc M → ks ≤ am_ns M → P r h1 → am_St h0 D s ad0 ad h1 H locs → am_ri M pc r → W p l e R s m args below meth c H locs kc ks Q (F0 m pc ls (r.toList.map (am_v ad)))
def am_RW (M : am_M) (h0 : am_H) (P : Option Value → am_H → Prop) (kc ks pc : Nat) (L : List (Option Value)) (S : List Value) (h : am_H) : Prop :=
  ∀ (p : Program) (l : Launch) (e : Env) (R : Room) (s : State) (m : MethodId) (args : Array Value) (below : List Frame) (meth : Method) (c : Code) (D : va_G) (ad0 : Nat → Nat) (Q : State → Prop), am_Cx M p R s m args meth c → am_Fin M h0 P p l e R s m args below meth c D ad0 Q →
  ∀ (ad : Nat → Nat) (H : Heap) (locs : List Loc) (ls : Array Slot), am_St h0 D s ad0 ad h H locs → am_L (am_n M) ad ls L → W p l e R s m args below meth c H locs kc ks Q (F0 m pc ls (S.map (am_v ad)))
section
variable {M : am_M} {h0 : am_H} {P : Option Value → am_H → Prop} {kc ks pc : Nat} {L : List (Option Value)} {S : List Value} {h : am_H}
theorem ar_iconst {n : Int} {v : Int32} (d : decode (am_b M) pc = .ok (.iconst n, 1)) (hv : Int32.ofInt n = v) (k : am_RW M h0 P kc ks (pc + 1) L (.int v :: S) h) : am_RW M h0 P kc ks pc L S h := by
  intro p l e R s m args below meth c D ad0 Q C F ad H locs ls T Ll
  exact lv_iconst C.1 C.2.1 d hv (k p l e R s m args below meth c D ad0 Q C F ad H locs ls T Ll)
theorem ar_bipush {n : Int} {v : Int32} (d : decode (am_b M) pc = .ok (.bipush n, 2)) (hv : (Int8.ofInt n).toInt32 = v) (k : am_RW M h0 P kc ks (pc + 2) L (.int v :: S) h) : am_RW M h0 P kc ks pc L S h := by
  intro p l e R s m args below meth c D ad0 Q C F ad H locs ls T Ll
  exact lv_bipush C.1 C.2.1 d hv (k p l e R s m args below meth c D ad0 Q C F ad H locs ls T Ll)
theorem ar_sipush {n : Int} {v : Int32} (d : decode (am_b M) pc = .ok (.sipush n, 3)) (hv : (Int16.ofInt n).toInt32 = v) (k : am_RW M h0 P kc ks (pc + 3) L (.int v :: S) h) : am_RW M h0 P kc ks pc L S h := by
  intro p l e R s m args below meth c D ad0 Q C F ad H locs ls T Ll
  exact lv_sipush C.1 C.2.1 d hv (k p l e R s m args below meth c D ad0 Q C F ad H locs ls T Ll)
theorem ar_lconst {n : Fin 2} {v : Int64} (d : decode (am_b M) pc = .ok (.lconst n, 1)) (hv : Int64.ofNat (n : Nat) = v) (k : am_RW M h0 P kc ks (pc + 1) L (.long v :: S) h) : am_RW M h0 P kc ks pc L S h := by
  intro p l e R s m args below meth c D ad0 Q C F ad H locs ls T Ll
  exact lv_lconst C.1 C.2.1 d hv (k p l e R s m args below meth c D ad0 Q C F ad H locs ls T Ll)
theorem ar_iload_n {k0 : Fin 4} {i : Nat} {x : Int32} (d : decode (am_b M) pc = .ok (.iload_n k0, 1)) (hi : (k0 : Nat) = i) (hl : L[i]? = some (some (.int x))) (k : am_RW M h0 P kc ks (pc + 1) L (.int x :: S) h) : am_RW M h0 P kc ks pc L S h := by
  intro p l e R s m args below meth c D ad0 Q C F ad H locs ls T Ll
  exact lv_iload_n C.1 C.2.1 d hi (Ll.at hl) (k p l e R s m args below meth c D ad0 Q C F ad H locs ls T Ll)
theorem ar_iload {i : Nat} {x : Int32} (d : decode (am_b M) pc = .ok (.iload i, 2)) (hl : L[i]? = some (some (.int x))) (k : am_RW M h0 P kc ks (pc + 2) L (.int x :: S) h) : am_RW M h0 P kc ks pc L S h := by
  intro p l e R s m args below meth c D ad0 Q C F ad H locs ls T Ll
  exact lv_iload C.1 C.2.1 d (Ll.at hl) (k p l e R s m args below meth c D ad0 Q C F ad H locs ls T Ll)
theorem ar_lload_n {k0 : Fin 4} {i : Nat} {x : Int64} (d : decode (am_b M) pc = .ok (.lload_n k0, 1)) (hi : (k0 : Nat) = i) (hl : L[i]? = some (some (.long x))) (k : am_RW M h0 P kc ks (pc + 1) L (.long x :: S) h) : am_RW M h0 P kc ks pc L S h := by
  intro p l e R s m args below meth c D ad0 Q C F ad H locs ls T Ll
  exact lv_lload_n C.1 C.2.1 d hi (Ll.at hl) (k p l e R s m args below meth c D ad0 Q C F ad H locs ls T Ll)
theorem ar_lload {i : Nat} {x : Int64} (d : decode (am_b M) pc = .ok (.lload i, 2)) (hl : L[i]? = some (some (.long x))) (k : am_RW M h0 P kc ks (pc + 2) L (.long x :: S) h) : am_RW M h0 P kc ks pc L S h := by
  intro p l e R s m args below meth c D ad0 Q C F ad H locs ls T Ll
  exact lv_lload C.1 C.2.1 d (Ll.at hl) (k p l e R s m args below meth c D ad0 Q C F ad H locs ls T Ll)
theorem ar_aload_n {k0 : Fin 4} {i : Nat} {x : Nat} (d : decode (am_b M) pc = .ok (.aload_n k0, 1)) (hi : (k0 : Nat) = i) (hl : L[i]? = some (some (.ref x))) (k : am_RW M h0 P kc ks (pc + 1) L (.ref x :: S) h) : am_RW M h0 P kc ks pc L S h := by
  intro p l e R s m args below meth c D ad0 Q C F ad H locs ls T Ll
  exact lv_aload_n C.1 C.2.1 d hi (Ll.at hl) (k p l e R s m args below meth c D ad0 Q C F ad H locs ls T Ll)
theorem ar_aload {i : Nat} {x : Nat} (d : decode (am_b M) pc = .ok (.aload i, 2)) (hl : L[i]? = some (some (.ref x))) (k : am_RW M h0 P kc ks (pc + 2) L (.ref x :: S) h) : am_RW M h0 P kc ks pc L S h := by
  intro p l e R s m args below meth c D ad0 Q C F ad H locs ls T Ll
  exact lv_aload C.1 C.2.1 d (Ll.at hl) (k p l e R s m args below meth c D ad0 Q C F ad H locs ls T Ll)
theorem ar_aload_nN {k0 : Fin 4} {i : Nat} (d : decode (am_b M) pc = .ok (.aload_n k0, 1)) (hi : (k0 : Nat) = i) (hl : L[i]? = some (some .null)) (k : am_RW M h0 P kc ks (pc + 1) L (.null :: S) h) : am_RW M h0 P kc ks pc L S h := by
  intro p l e R s m args below meth c D ad0 Q C F ad H locs ls T Ll
  exact lv_aload_nN C.1 C.2.1 d hi (Ll.at hl) (k p l e R s m args below meth c D ad0 Q C F ad H locs ls T Ll)
theorem ar_iadd {x y : Int32} (d : decode (am_b M) pc = .ok (.iadd, 1)) (k : am_RW M h0 P kc ks (pc + 1) L (.int (x + y) :: S) h) : am_RW M h0 P kc ks pc L (.int y :: .int x :: S) h := by
  intro p l e R s m args below meth c D ad0 Q C F ad H locs ls T Ll
  exact lv_iadd C.1 C.2.1 d (k p l e R s m args below meth c D ad0 Q C F ad H locs ls T Ll)
theorem ar_isub {x y : Int32} (d : decode (am_b M) pc = .ok (.isub, 1)) (k : am_RW M h0 P kc ks (pc + 1) L (.int (x - y) :: S) h) : am_RW M h0 P kc ks pc L (.int y :: .int x :: S) h := by
  intro p l e R s m args below meth c D ad0 Q C F ad H locs ls T Ll
  exact lv_isub C.1 C.2.1 d (k p l e R s m args below meth c D ad0 Q C F ad H locs ls T Ll)
theorem ar_imul {x y : Int32} (d : decode (am_b M) pc = .ok (.imul, 1)) (k : am_RW M h0 P kc ks (pc + 1) L (.int (x * y) :: S) h) : am_RW M h0 P kc ks pc L (.int y :: .int x :: S) h := by
  intro p l e R s m args below meth c D ad0 Q C F ad H locs ls T Ll
  exact lv_imul C.1 C.2.1 d (k p l e R s m args below meth c D ad0 Q C F ad H locs ls T Ll)
theorem ar_iand {x y : Int32} (d : decode (am_b M) pc = .ok (.iand, 1)) (k : am_RW M h0 P kc ks (pc + 1) L (.int (x &&& y) :: S) h) : am_RW M h0 P kc ks pc L (.int y :: .int x :: S) h := by
  intro p l e R s m args below meth c D ad0 Q C F ad H locs ls T Ll
  exact lv_iand C.1 C.2.1 d (k p l e R s m args below meth c D ad0 Q C F ad H locs ls T Ll)
theorem ar_ior {x y : Int32} (d : decode (am_b M) pc = .ok (.ior, 1)) (k : am_RW M h0 P kc ks (pc + 1) L (.int (x ||| y) :: S) h) : am_RW M h0 P kc ks pc L (.int y :: .int x :: S) h := by
  intro p l e R s m args below meth c D ad0 Q C F ad H locs ls T Ll
  exact lv_ior C.1 C.2.1 d (k p l e R s m args below meth c D ad0 Q C F ad H locs ls T Ll)
theorem ar_ixor {x y : Int32} (d : decode (am_b M) pc = .ok (.ixor, 1)) (k : am_RW M h0 P kc ks (pc + 1) L (.int (x ^^^ y) :: S) h) : am_RW M h0 P kc ks pc L (.int y :: .int x :: S) h := by
  intro p l e R s m args below meth c D ad0 Q C F ad H locs ls T Ll
  exact lv_ixor C.1 C.2.1 d (k p l e R s m args below meth c D ad0 Q C F ad H locs ls T Ll)
theorem ar_ishl {x y : Int32} (d : decode (am_b M) pc = .ok (.ishl, 1)) (k : am_RW M h0 P kc ks (pc + 1) L (.int (x <<< (y &&& 31)) :: S) h) : am_RW M h0 P kc ks pc L (.int y :: .int x :: S) h := by
  intro p l e R s m args below meth c D ad0 Q C F ad H locs ls T Ll
  exact lv_ishl C.1 C.2.1 d (k p l e R s m args below meth c D ad0 Q C F ad H locs ls T Ll)
theorem ar_ishr {x y : Int32} (d : decode (am_b M) pc = .ok (.ishr, 1)) (k : am_RW M h0 P kc ks (pc + 1) L (.int (x >>> (y &&& 31)) :: S) h) : am_RW M h0 P kc ks pc L (.int y :: .int x :: S) h := by
  intro p l e R s m args below meth c D ad0 Q C F ad H locs ls T Ll
  exact lv_ishr C.1 C.2.1 d (k p l e R s m args below meth c D ad0 Q C F ad H locs ls T Ll)
theorem ar_idiv {x y : Int32} (d : decode (am_b M) pc = .ok (.idiv, 1)) (hne : ¬ y = 0) (k : am_RW M h0 P kc ks (pc + 1) L (.int (x / y) :: S) h) : am_RW M h0 P kc ks pc L (.int y :: .int x :: S) h := by
  intro p l e R s m args below meth c D ad0 Q C F ad H locs ls T Ll
  exact lv_idiv C.1 C.2.1 d hne (k p l e R s m args below meth c D ad0 Q C F ad H locs ls T Ll)
theorem ar_irem {x y : Int32} (d : decode (am_b M) pc = .ok (.irem, 1)) (hne : ¬ y = 0) (k : am_RW M h0 P kc ks (pc + 1) L (.int (x - x / y * y) :: S) h) : am_RW M h0 P kc ks pc L (.int y :: .int x :: S) h := by
  intro p l e R s m args below meth c D ad0 Q C F ad H locs ls T Ll
  exact lv_irem C.1 C.2.1 d hne (k p l e R s m args below meth c D ad0 Q C F ad H locs ls T Ll)
theorem ar_ineg {x : Int32} (d : decode (am_b M) pc = .ok (.ineg, 1)) (k : am_RW M h0 P kc ks (pc + 1) L (.int (-x) :: S) h) : am_RW M h0 P kc ks pc L (.int x :: S) h := by
  intro p l e R s m args below meth c D ad0 Q C F ad H locs ls T Ll
  exact lv_ineg C.1 C.2.1 d (k p l e R s m args below meth c D ad0 Q C F ad H locs ls T Ll)
theorem ar_ladd {x y : Int64} (d : decode (am_b M) pc = .ok (.ladd, 1)) (k : am_RW M h0 P kc ks (pc + 1) L (.long (x + y) :: S) h) : am_RW M h0 P kc ks pc L (.long y :: .long x :: S) h := by
  intro p l e R s m args below meth c D ad0 Q C F ad H locs ls T Ll
  exact lv_ladd C.1 C.2.1 d (k p l e R s m args below meth c D ad0 Q C F ad H locs ls T Ll)
theorem ar_lsub {x y : Int64} (d : decode (am_b M) pc = .ok (.lsub, 1)) (k : am_RW M h0 P kc ks (pc + 1) L (.long (x - y) :: S) h) : am_RW M h0 P kc ks pc L (.long y :: .long x :: S) h := by
  intro p l e R s m args below meth c D ad0 Q C F ad H locs ls T Ll
  exact lv_lsub C.1 C.2.1 d (k p l e R s m args below meth c D ad0 Q C F ad H locs ls T Ll)
theorem ar_lmul {x y : Int64} (d : decode (am_b M) pc = .ok (.lmul, 1)) (k : am_RW M h0 P kc ks (pc + 1) L (.long (x * y) :: S) h) : am_RW M h0 P kc ks pc L (.long y :: .long x :: S) h := by
  intro p l e R s m args below meth c D ad0 Q C F ad H locs ls T Ll
  exact lv_lmul C.1 C.2.1 d (k p l e R s m args below meth c D ad0 Q C F ad H locs ls T Ll)
theorem ar_land {x y : Int64} (d : decode (am_b M) pc = .ok (.land, 1)) (k : am_RW M h0 P kc ks (pc + 1) L (.long (x &&& y) :: S) h) : am_RW M h0 P kc ks pc L (.long y :: .long x :: S) h := by
  intro p l e R s m args below meth c D ad0 Q C F ad H locs ls T Ll
  exact lv_land C.1 C.2.1 d (k p l e R s m args below meth c D ad0 Q C F ad H locs ls T Ll)
theorem ar_lor {x y : Int64} (d : decode (am_b M) pc = .ok (.lor, 1)) (k : am_RW M h0 P kc ks (pc + 1) L (.long (x ||| y) :: S) h) : am_RW M h0 P kc ks pc L (.long y :: .long x :: S) h := by
  intro p l e R s m args below meth c D ad0 Q C F ad H locs ls T Ll
  exact lv_lor C.1 C.2.1 d (k p l e R s m args below meth c D ad0 Q C F ad H locs ls T Ll)
theorem ar_lxor {x y : Int64} (d : decode (am_b M) pc = .ok (.lxor, 1)) (k : am_RW M h0 P kc ks (pc + 1) L (.long (x ^^^ y) :: S) h) : am_RW M h0 P kc ks pc L (.long y :: .long x :: S) h := by
  intro p l e R s m args below meth c D ad0 Q C F ad H locs ls T Ll
  exact lv_lxor C.1 C.2.1 d (k p l e R s m args below meth c D ad0 Q C F ad H locs ls T Ll)
theorem ar_ldiv {x y : Int64} (d : decode (am_b M) pc = .ok (.ldiv, 1)) (hne : ¬ y = 0) (k : am_RW M h0 P kc ks (pc + 1) L (.long (x / y) :: S) h) : am_RW M h0 P kc ks pc L (.long y :: .long x :: S) h := by
  intro p l e R s m args below meth c D ad0 Q C F ad H locs ls T Ll
  exact lv_ldiv C.1 C.2.1 d hne (k p l e R s m args below meth c D ad0 Q C F ad H locs ls T Ll)
theorem ar_lrem {x y : Int64} (d : decode (am_b M) pc = .ok (.lrem, 1)) (hne : ¬ y = 0) (k : am_RW M h0 P kc ks (pc + 1) L (.long (x - x / y * y) :: S) h) : am_RW M h0 P kc ks pc L (.long y :: .long x :: S) h := by
  intro p l e R s m args below meth c D ad0 Q C F ad H locs ls T Ll
  exact lv_lrem C.1 C.2.1 d hne (k p l e R s m args below meth c D ad0 Q C F ad H locs ls T Ll)
theorem ar_iushr {x y : Int32} (d : decode (am_b M) pc = .ok (.iushr, 1)) (k : am_RW M h0 P kc ks (pc + 1) L (.int (x.toUInt32 >>> (y.toUInt32 &&& Int32.toUInt32 31)).toInt32 :: S) h) : am_RW M h0 P kc ks pc L (.int y :: .int x :: S) h := by
  intro p l e R s m args below meth c D ad0 Q C F ad H locs ls T Ll
  exact lv_iushr C.1 C.2.1 d rfl (k p l e R s m args below meth c D ad0 Q C F ad H locs ls T Ll)
theorem ar_lushr {x : Int64} {y : Int32} (d : decode (am_b M) pc = .ok (.lushr, 1)) (k : am_RW M h0 P kc ks (pc + 1) L (.long (x.toUInt64 >>> (y.toInt64.toUInt64 &&& Int64.toUInt64 63)).toInt64 :: S) h) : am_RW M h0 P kc ks pc L (.int y :: .long x :: S) h := by
  intro p l e R s m args below meth c D ad0 Q C F ad H locs ls T Ll
  exact lv_lushr C.1 C.2.1 d rfl (k p l e R s m args below meth c D ad0 Q C F ad H locs ls T Ll)
theorem ar_lshl {x : Int64} {y : Int32} (d : decode (am_b M) pc = .ok (.lshl, 1)) (k : am_RW M h0 P kc ks (pc + 1) L (.long (x <<< (y.toInt64 &&& 63)) :: S) h) : am_RW M h0 P kc ks pc L (.int y :: .long x :: S) h := by
  intro p l e R s m args below meth c D ad0 Q C F ad H locs ls T Ll
  exact lv_lshl C.1 C.2.1 d rfl (k p l e R s m args below meth c D ad0 Q C F ad H locs ls T Ll)
theorem ar_lshr {x : Int64} {y : Int32} (d : decode (am_b M) pc = .ok (.lshr, 1)) (k : am_RW M h0 P kc ks (pc + 1) L (.long (x >>> (y.toInt64 &&& 63)) :: S) h) : am_RW M h0 P kc ks pc L (.int y :: .long x :: S) h := by
  intro p l e R s m args below meth c D ad0 Q C F ad H locs ls T Ll
  exact lv_lshr C.1 C.2.1 d rfl (k p l e R s m args below meth c D ad0 Q C F ad H locs ls T Ll)
theorem ar_i2l {x : Int32} (d : decode (am_b M) pc = .ok (.i2l, 1)) (k : am_RW M h0 P kc ks (pc + 1) L (.long x.toInt64 :: S) h) : am_RW M h0 P kc ks pc L (.int x :: S) h := by
  intro p l e R s m args below meth c D ad0 Q C F ad H locs ls T Ll
  exact lv_i2l C.1 C.2.1 d rfl (k p l e R s m args below meth c D ad0 Q C F ad H locs ls T Ll)
theorem ar_l2i {x : Int64} (d : decode (am_b M) pc = .ok (.l2i, 1)) (k : am_RW M h0 P kc ks (pc + 1) L (.int x.toInt32 :: S) h) : am_RW M h0 P kc ks pc L (.long x :: S) h := by
  intro p l e R s m args below meth c D ad0 Q C F ad H locs ls T Ll
  exact lv_l2i C.1 C.2.1 d rfl (k p l e R s m args below meth c D ad0 Q C F ad H locs ls T Ll)
theorem ar_i2c {x : Int32} (d : decode (am_b M) pc = .ok (.i2c, 1)) (k : am_RW M h0 P kc ks (pc + 1) L (.int (x.toUInt32 % 65536).toInt32 :: S) h) : am_RW M h0 P kc ks pc L (.int x :: S) h := by
  intro p l e R s m args below meth c D ad0 Q C F ad H locs ls T Ll
  exact lv_i2c C.1 C.2.1 d rfl (k p l e R s m args below meth c D ad0 Q C F ad H locs ls T Ll)
theorem ar_dup {v : Value} (d : decode (am_b M) pc = .ok (.dup, 1)) (hc : v.category = 1) (k : am_RW M h0 P kc ks (pc + 1) L (v :: v :: S) h) : am_RW M h0 P kc ks pc L (v :: S) h := by
  intro p l e R s m args below meth c D ad0 Q C F ad H locs ls T Ll
  exact lv_dup C.1 C.2.1 d ((am_vc ad v).trans hc) (k p l e R s m args below meth c D ad0 Q C F ad H locs ls T Ll)
theorem ar_pop {v : Value} (d : decode (am_b M) pc = .ok (.pop, 1)) (hc : v.category = 1) (k : am_RW M h0 P kc ks (pc + 1) L S h) : am_RW M h0 P kc ks pc L (v :: S) h := by
  intro p l e R s m args below meth c D ad0 Q C F ad H locs ls T Ll
  exact lv_pop C.1 C.2.1 d ((am_vc ad v).trans hc) (k p l e R s m args below meth c D ad0 Q C F ad H locs ls T Ll)
theorem ar_dup2 {v w : Value} (d : decode (am_b M) pc = .ok (.dup2, 1)) (hc : v.category = 1) (hd : w.category = 1) (k : am_RW M h0 P kc ks (pc + 1) L (v :: w :: v :: w :: S) h) : am_RW M h0 P kc ks pc L (v :: w :: S) h := by
  intro p l e R s m args below meth c D ad0 Q C F ad H locs ls T Ll
  exact lv_dup2_11 C.1 C.2.1 d ((am_vc ad v).trans hc) ((am_vc ad w).trans hd) (k p l e R s m args below meth c D ad0 Q C F ad H locs ls T Ll)
theorem ar_lcmp {x y : Int64} (d : decode (am_b M) pc = .ok (.lcmp, 1)) (k : am_RW M h0 P kc ks (pc + 1) L (.int (lg_cmp x y) :: S) h) : am_RW M h0 P kc ks pc L (.long y :: .long x :: S) h := by
  intro p l e R s m args below meth c D ad0 Q C F ad H locs ls T Ll
  exact W.lcmp C.1 C.2.1 d (k p l e R s m args below meth c D ad0 Q C F ad H locs ls T Ll)
theorem ar_istore_n {k0 : Fin 4} {i : Nat} {x : Int32} (d : decode (am_b M) pc = .ok (.istore_n k0, 1)) (hi : (k0 : Nat) = i) (hn : i < am_n M) (ho : am_ok1 L i = true) (k : am_RW M h0 P kc ks (pc + 1) (L.set i (some (.int x))) S h) : am_RW M h0 P kc ks pc L (.int x :: S) h := by
  intro p l e R s m args below meth c D ad0 Q C F ad H locs ls T Ll
  exact lv_istore_n C.1 C.2.1 d hi Ll hn rfl (fun ls hl => k p l e R s m args below meth c D ad0 Q C F ad H locs ls T (am_L.set (v := .int x) ho hl))
theorem ar_istore {i : Nat} {x : Int32} (d : decode (am_b M) pc = .ok (.istore i, 2)) (hn : i < am_n M) (ho : am_ok1 L i = true) (k : am_RW M h0 P kc ks (pc + 2) (L.set i (some (.int x))) S h) : am_RW M h0 P kc ks pc L (.int x :: S) h := by
  intro p l e R s m args below meth c D ad0 Q C F ad H locs ls T Ll
  exact lv_istore C.1 C.2.1 d Ll hn rfl (fun ls hl => k p l e R s m args below meth c D ad0 Q C F ad H locs ls T (am_L.set (v := .int x) ho hl))
theorem ar_astore_n {k0 : Fin 4} {i : Nat} {x : Nat} (d : decode (am_b M) pc = .ok (.astore_n k0, 1)) (hi : (k0 : Nat) = i) (hn : i < am_n M) (ho : am_ok1 L i = true) (k : am_RW M h0 P kc ks (pc + 1) (L.set i (some (.ref x))) S h) : am_RW M h0 P kc ks pc L (.ref x :: S) h := by
  intro p l e R s m args below meth c D ad0 Q C F ad H locs ls T Ll
  exact lv_astore_n C.1 C.2.1 d hi Ll hn rfl (fun ls hl => k p l e R s m args below meth c D ad0 Q C F ad H locs ls T (am_L.set (v := .ref x) ho hl))
theorem ar_astore {i : Nat} {x : Nat} (d : decode (am_b M) pc = .ok (.astore i, 2)) (hn : i < am_n M) (ho : am_ok1 L i = true) (k : am_RW M h0 P kc ks (pc + 2) (L.set i (some (.ref x))) S h) : am_RW M h0 P kc ks pc L (.ref x :: S) h := by
  intro p l e R s m args below meth c D ad0 Q C F ad H locs ls T Ll
  exact lv_astore C.1 C.2.1 d Ll hn rfl (fun ls hl => k p l e R s m args below meth c D ad0 Q C F ad H locs ls T (am_L.set (v := .ref x) ho hl))
theorem ar_astore_nN {k0 : Fin 4} {i : Nat} (d : decode (am_b M) pc = .ok (.astore_n k0, 1)) (hi : (k0 : Nat) = i) (hn : i < am_n M) (ho : am_ok1 L i = true) (k : am_RW M h0 P kc ks (pc + 1) (L.set i (some .null)) S h) : am_RW M h0 P kc ks pc L (.null :: S) h := by
  intro p l e R s m args below meth c D ad0 Q C F ad H locs ls T Ll
  exact lv_astore_nN C.1 C.2.1 d hi Ll hn rfl (fun ls hl => k p l e R s m args below meth c D ad0 Q C F ad H locs ls T (am_L.set (v := .null) ho hl))
theorem ar_lstore_n {k0 : Fin 4} {i : Nat} {x : Int64} (d : decode (am_b M) pc = .ok (.lstore_n k0, 1)) (hi : (k0 : Nat) = i) (hn : i + 1 < am_n M) (ho : am_ok1 L i = true) (k : am_RW M h0 P kc ks (pc + 1) ((L.set i (some (.long x))).set (i + 1) none) S h) : am_RW M h0 P kc ks pc L (.long x :: S) h := by
  intro p l e R s m args below meth c D ad0 Q C F ad H locs ls T Ll
  exact lv_lstore_n C.1 C.2.1 d hi Ll hn rfl (fun ls hl => k p l e R s m args below meth c D ad0 Q C F ad H locs ls T (am_L.set2 (v := .long x) ho hl))
theorem ar_lstore {i : Nat} {x : Int64} (d : decode (am_b M) pc = .ok (.lstore i, 2)) (hn : i + 1 < am_n M) (ho : am_ok1 L i = true) (k : am_RW M h0 P kc ks (pc + 2) ((L.set i (some (.long x))).set (i + 1) none) S h) : am_RW M h0 P kc ks pc L (.long x :: S) h := by
  intro p l e R s m args below meth c D ad0 Q C F ad H locs ls T Ll
  exact lv_lstore C.1 C.2.1 d Ll hn rfl (fun ls hl => k p l e R s m args below meth c D ad0 Q C F ad H locs ls T (am_L.set2 (v := .long x) ho hl))
theorem ar_iinc {i : Nat} {n : Int} {x v : Int32} (d : decode (am_b M) pc = .ok (.iinc i n, 3)) (hl : L[i]? = some (some (.int x))) (hv : x + Int32.ofInt n = v) (hn : i < am_n M) (ho : am_ok1 L i = true) (k : am_RW M h0 P kc ks (pc + 3) (L.set i (some (.int v))) S h) : am_RW M h0 P kc ks pc L S h := by
  intro p l e R s m args below meth c D ad0 Q C F ad H locs ls T Ll
  obtain ⟨j, hj⟩ := List.getElem?_of_mem (am_mem (ad := ad) (q := (i, .int x)).mpr ⟨.int x, hl, rfl⟩)
  exact lv_iinc C.1 C.2.1 d Ll hj hv hn rfl (fun ls hl => k p l e R s m args below meth c D ad0 Q C F ad H locs ls T (am_L.set (v := .int v) ho hl))
theorem ar_if_eq {x : Int32} {off : Int} {tgt : Nat} (d : decode (am_b M) pc = .ok (.ifCond .eq off, 3)) (ht : (pc : Int) + off = (tgt : Int)) (kt : x = 0 → am_RW M h0 P kc ks tgt L S h) (kf : ¬ x = 0 → am_RW M h0 P kc ks (pc + 3) L S h) : am_RW M h0 P kc ks pc L (.int x :: S) h := by
  intro p l e R s m args below meth c D ad0 Q C F ad H locs ls T Ll
  exact lv_if_eq C.1 C.2.1 d ht (fun hc => kt hc p l e R s m args below meth c D ad0 Q C F ad H locs ls T Ll) (fun hc => kf hc p l e R s m args below meth c D ad0 Q C F ad H locs ls T Ll)
theorem ar_if_ne {x : Int32} {off : Int} {tgt : Nat} (d : decode (am_b M) pc = .ok (.ifCond .ne off, 3)) (ht : (pc : Int) + off = (tgt : Int)) (kt : ¬ x = 0 → am_RW M h0 P kc ks tgt L S h) (kf : x = 0 → am_RW M h0 P kc ks (pc + 3) L S h) : am_RW M h0 P kc ks pc L (.int x :: S) h := by
  intro p l e R s m args below meth c D ad0 Q C F ad H locs ls T Ll
  exact lv_if_ne C.1 C.2.1 d ht (fun hc => kt hc p l e R s m args below meth c D ad0 Q C F ad H locs ls T Ll) (fun hc => kf hc p l e R s m args below meth c D ad0 Q C F ad H locs ls T Ll)
theorem ar_if_lt {x : Int32} {off : Int} {tgt : Nat} (d : decode (am_b M) pc = .ok (.ifCond .lt off, 3)) (ht : (pc : Int) + off = (tgt : Int)) (kt : x < 0 → am_RW M h0 P kc ks tgt L S h) (kf : ¬ x < 0 → am_RW M h0 P kc ks (pc + 3) L S h) : am_RW M h0 P kc ks pc L (.int x :: S) h := by
  intro p l e R s m args below meth c D ad0 Q C F ad H locs ls T Ll
  exact lv_if_lt C.1 C.2.1 d ht (fun hc => kt hc p l e R s m args below meth c D ad0 Q C F ad H locs ls T Ll) (fun hc => kf hc p l e R s m args below meth c D ad0 Q C F ad H locs ls T Ll)
theorem ar_if_ge {x : Int32} {off : Int} {tgt : Nat} (d : decode (am_b M) pc = .ok (.ifCond .ge off, 3)) (ht : (pc : Int) + off = (tgt : Int)) (kt : 0 ≤ x → am_RW M h0 P kc ks tgt L S h) (kf : ¬ 0 ≤ x → am_RW M h0 P kc ks (pc + 3) L S h) : am_RW M h0 P kc ks pc L (.int x :: S) h := by
  intro p l e R s m args below meth c D ad0 Q C F ad H locs ls T Ll
  exact lv_if_ge C.1 C.2.1 d ht (fun hc => kt hc p l e R s m args below meth c D ad0 Q C F ad H locs ls T Ll) (fun hc => kf hc p l e R s m args below meth c D ad0 Q C F ad H locs ls T Ll)
theorem ar_if_gt {x : Int32} {off : Int} {tgt : Nat} (d : decode (am_b M) pc = .ok (.ifCond .gt off, 3)) (ht : (pc : Int) + off = (tgt : Int)) (kt : 0 < x → am_RW M h0 P kc ks tgt L S h) (kf : ¬ 0 < x → am_RW M h0 P kc ks (pc + 3) L S h) : am_RW M h0 P kc ks pc L (.int x :: S) h := by
  intro p l e R s m args below meth c D ad0 Q C F ad H locs ls T Ll
  exact lv_if_gt C.1 C.2.1 d ht (fun hc => kt hc p l e R s m args below meth c D ad0 Q C F ad H locs ls T Ll) (fun hc => kf hc p l e R s m args below meth c D ad0 Q C F ad H locs ls T Ll)
theorem ar_if_le {x : Int32} {off : Int} {tgt : Nat} (d : decode (am_b M) pc = .ok (.ifCond .le off, 3)) (ht : (pc : Int) + off = (tgt : Int)) (kt : x ≤ 0 → am_RW M h0 P kc ks tgt L S h) (kf : ¬ x ≤ 0 → am_RW M h0 P kc ks (pc + 3) L S h) : am_RW M h0 P kc ks pc L (.int x :: S) h := by
  intro p l e R s m args below meth c D ad0 Q C F ad H locs ls T Ll
  exact lv_if_le C.1 C.2.1 d ht (fun hc => kt hc p l e R s m args below meth c D ad0 Q C F ad H locs ls T Ll) (fun hc => kf hc p l e R s m args below meth c D ad0 Q C F ad H locs ls T Ll)
theorem ar_icmp_eq {x y : Int32} {off : Int} {tgt : Nat} (d : decode (am_b M) pc = .ok (.if_icmp .eq off, 3)) (ht : (pc : Int) + off = (tgt : Int)) (kt : x = y → am_RW M h0 P kc ks tgt L S h) (kf : ¬ x = y → am_RW M h0 P kc ks (pc + 3) L S h) : am_RW M h0 P kc ks pc L (.int y :: .int x :: S) h := by
  intro p l e R s m args below meth c D ad0 Q C F ad H locs ls T Ll
  exact lv_icmp_eq C.1 C.2.1 d ht (fun hc => kt hc p l e R s m args below meth c D ad0 Q C F ad H locs ls T Ll) (fun hc => kf hc p l e R s m args below meth c D ad0 Q C F ad H locs ls T Ll)
theorem ar_icmp_ne {x y : Int32} {off : Int} {tgt : Nat} (d : decode (am_b M) pc = .ok (.if_icmp .ne off, 3)) (ht : (pc : Int) + off = (tgt : Int)) (kt : ¬ x = y → am_RW M h0 P kc ks tgt L S h) (kf : x = y → am_RW M h0 P kc ks (pc + 3) L S h) : am_RW M h0 P kc ks pc L (.int y :: .int x :: S) h := by
  intro p l e R s m args below meth c D ad0 Q C F ad H locs ls T Ll
  exact lv_icmp_ne C.1 C.2.1 d ht (fun hc => kt hc p l e R s m args below meth c D ad0 Q C F ad H locs ls T Ll) (fun hc => kf hc p l e R s m args below meth c D ad0 Q C F ad H locs ls T Ll)
theorem ar_icmp_lt {x y : Int32} {off : Int} {tgt : Nat} (d : decode (am_b M) pc = .ok (.if_icmp .lt off, 3)) (ht : (pc : Int) + off = (tgt : Int)) (kt : x < y → am_RW M h0 P kc ks tgt L S h) (kf : ¬ x < y → am_RW M h0 P kc ks (pc + 3) L S h) : am_RW M h0 P kc ks pc L (.int y :: .int x :: S) h := by
  intro p l e R s m args below meth c D ad0 Q C F ad H locs ls T Ll
  exact lv_icmp_lt C.1 C.2.1 d ht (fun hc => kt hc p l e R s m args below meth c D ad0 Q C F ad H locs ls T Ll) (fun hc => kf hc p l e R s m args below meth c D ad0 Q C F ad H locs ls T Ll)
theorem ar_icmp_ge {x y : Int32} {off : Int} {tgt : Nat} (d : decode (am_b M) pc = .ok (.if_icmp .ge off, 3)) (ht : (pc : Int) + off = (tgt : Int)) (kt : y ≤ x → am_RW M h0 P kc ks tgt L S h) (kf : ¬ y ≤ x → am_RW M h0 P kc ks (pc + 3) L S h) : am_RW M h0 P kc ks pc L (.int y :: .int x :: S) h := by
  intro p l e R s m args below meth c D ad0 Q C F ad H locs ls T Ll
  exact lv_icmp_ge C.1 C.2.1 d ht (fun hc => kt hc p l e R s m args below meth c D ad0 Q C F ad H locs ls T Ll) (fun hc => kf hc p l e R s m args below meth c D ad0 Q C F ad H locs ls T Ll)
theorem ar_icmp_gt {x y : Int32} {off : Int} {tgt : Nat} (d : decode (am_b M) pc = .ok (.if_icmp .gt off, 3)) (ht : (pc : Int) + off = (tgt : Int)) (kt : y < x → am_RW M h0 P kc ks tgt L S h) (kf : ¬ y < x → am_RW M h0 P kc ks (pc + 3) L S h) : am_RW M h0 P kc ks pc L (.int y :: .int x :: S) h := by
  intro p l e R s m args below meth c D ad0 Q C F ad H locs ls T Ll
  exact lv_icmp_gt C.1 C.2.1 d ht (fun hc => kt hc p l e R s m args below meth c D ad0 Q C F ad H locs ls T Ll) (fun hc => kf hc p l e R s m args below meth c D ad0 Q C F ad H locs ls T Ll)
theorem ar_icmp_le {x y : Int32} {off : Int} {tgt : Nat} (d : decode (am_b M) pc = .ok (.if_icmp .le off, 3)) (ht : (pc : Int) + off = (tgt : Int)) (kt : x ≤ y → am_RW M h0 P kc ks tgt L S h) (kf : ¬ x ≤ y → am_RW M h0 P kc ks (pc + 3) L S h) : am_RW M h0 P kc ks pc L (.int y :: .int x :: S) h := by
  intro p l e R s m args below meth c D ad0 Q C F ad H locs ls T Ll
  exact lv_icmp_le C.1 C.2.1 d ht (fun hc => kt hc p l e R s m args below meth c D ad0 Q C F ad H locs ls T Ll) (fun hc => kf hc p l e R s m args below meth c D ad0 Q C F ad H locs ls T Ll)
theorem ar_goto {off : Int} {tgt : Nat} (d : decode (am_b M) pc = .ok (.goto off, 3)) (ht : (pc : Int) + off = (tgt : Int)) (k : am_RW M h0 P kc ks tgt L S h) : am_RW M h0 P kc ks pc L S h := by
  intro p l e R s m args below meth c D ad0 Q C F ad H locs ls T Ll
  exact lv_goto C.1 C.2.1 d ht (k p l e R s m args below meth c D ad0 Q C F ad H locs ls T Ll)
theorem ar_ifnonnull {x : Nat} {off : Int} {tgt : Nat} (d : decode (am_b M) pc = .ok (.ifnonnull off, 3)) (ht : (pc : Int) + off = (tgt : Int)) (k : am_RW M h0 P kc ks tgt L S h) : am_RW M h0 P kc ks pc L (.ref x :: S) h := by
  intro p l e R s m args below meth c D ad0 Q C F ad H locs ls T Ll
  exact lv_ifnonnull C.1 C.2.1 d ht (k p l e R s m args below meth c D ad0 Q C F ad H locs ls T Ll)
theorem ar_ifnonnullN {off : Int} (d : decode (am_b M) pc = .ok (.ifnonnull off, 3)) (k : am_RW M h0 P kc ks (pc + 3) L S h) : am_RW M h0 P kc ks pc L (.null :: S) h := by
  intro p l e R s m args below meth c D ad0 Q C F ad H locs ls T Ll
  exact lv_ifnonnullN C.1 C.2.1 d (k p l e R s m args below meth c D ad0 Q C F ad H locs ls T Ll)
theorem ar_tsOut {dflt lo hi : Int} {offs : Array Int} {len : Nat} {x : Int32} {tgt : Nat} (d : decode (am_b M) pc = .ok (.tableswitch dflt lo hi offs, len)) (hh : x.toInt < lo ∨ hi < x.toInt) (ht : (pc : Int) + dflt = (tgt : Int)) (k : am_RW M h0 P kc ks tgt L S h) : am_RW M h0 P kc ks pc L (.int x :: S) h := by
  intro p l e R s m args below meth c D ad0 Q C F ad H locs ls T Ll
  exact lv_tableOut C.1 C.2.1 d hh ht (k p l e R s m args below meth c D ad0 Q C F ad H locs ls T Ll)
theorem ar_tsIn {dflt lo hi : Int} {offs : Array Int} {len : Nat} {x : Int32} {off : Int} {tgt : Nat} (d : decode (am_b M) pc = .ok (.tableswitch dflt lo hi offs, len)) (h1 : ¬ x.toInt < lo) (h2 : ¬ hi < x.toInt) (ho : offs[(x.toInt - lo).toNat]? = some off) (ht : (pc : Int) + off = (tgt : Int)) (k : am_RW M h0 P kc ks tgt L S h) : am_RW M h0 P kc ks pc L (.int x :: S) h := by
  intro p l e R s m args below meth c D ad0 Q C F ad H locs ls T Ll
  exact lv_tableIn C.1 C.2.1 d h1 h2 ho ht (k p l e R s m args below meth c D ad0 Q C F ad H locs ls T Ll)
theorem ar_ldc {idx : Nat} {v : Int32} (d : decode (am_b M) pc = .ok (.ldc idx, 2)) (hw : Cond.constant (am_y M).cls idx v ∈ am_ws) (k : am_RW M h0 P kc ks (pc + 2) L (.int v :: S) h) : am_RW M h0 P kc ks pc L S h := by
  intro p l e R s m args below meth c D ad0 Q C F ad H locs ls T Ll
  exact lv_ldc C.1 C.2.1 C.2.2.2.1 (C.2.2.2.2.1 _ (List.mem_cons_of_mem _ hw)) d (k p l e R s m args below meth c D ad0 Q C F ad H locs ls T Ll)
theorem ar_ldcw {idx : Nat} {v : Int32} (d : decode (am_b M) pc = .ok (.ldc_w idx, 3)) (hw : Cond.constant (am_y M).cls idx v ∈ am_ws) (k : am_RW M h0 P kc ks (pc + 3) L (.int v :: S) h) : am_RW M h0 P kc ks pc L S h := by
  intro p l e R s m args below meth c D ad0 Q C F ad H locs ls T Ll
  exact lv_ldcw C.1 C.2.1 C.2.2.2.1 (C.2.2.2.2.1 _ (List.mem_cons_of_mem _ hw)) d (k p l e R s m args below meth c D ad0 Q C F ad H locs ls T Ll)
theorem ar_ldc2 {idx : Nat} {v : Int64} (d : decode (am_b M) pc = .ok (.ldc2_w idx, 3)) (hw : Cond.constantLong (am_y M).cls idx v ∈ am_ws) (k : am_RW M h0 P kc ks (pc + 3) L (.long v :: S) h) : am_RW M h0 P kc ks pc L S h := by
  intro p l e R s m args below meth c D ad0 Q C F ad H locs ls T Ll
  exact lv_ldc2 C.1 C.2.1 C.2.2.2.1 (C.2.2.2.2.1 _ (List.mem_cons_of_mem _ hw)) d (k p l e R s m args below meth c D ad0 Q C F ad H locs ls T Ll)
theorem ar_ret {r : Option Value} (hS : S = r.toList) (hi : am_ri M pc r) (hc : kc ≤ am_nc M) (hs : ks ≤ am_ns M) (hp : P r h) : am_RW M h0 P kc ks pc L S h := by
  intro p l e R s m args below meth c D ad0 Q C F ad H locs ls T Ll
  subst hS
  exact F r h ad H locs kc ks ls pc hc hs hp T hi
end
