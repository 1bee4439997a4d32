theorem bt_B : ∀ a, a < 64 → ∀ b, b < 64 → ∀ p, p < 12 → ((nI (64 * a + b) >>> (nI p &&& 31)) &&& 1 = 1 ↔ ¬ nI (64 * a + b) &&& bt1 (nI p) = 0) := by decide +kernel
theorem bt_e {n p : Nat} (h : n < 4096) (hp : p < 12) : (nI n >>> (nI p &&& 31)) &&& 1 = 1 ↔ ¬ nI n &&& bt1 (nI p) = 0 := by
  have := bt_B (n / 64) (by omega) (n % 64) (by omega) p hp
  rw [show 64 * (n / 64) + n % 64 = n by omega] at this
  exact this
theorem or_B {n p : Nat} (h : n < 4096) (hp : p < 12) : ∃ k, k < 4096 ∧ nI n ||| bt1 (nI p) = nI k := by
  have l2 : 2 ^ p < 4096 := by
    have := Nat.pow_le_pow_right (n := 2) (by omega) (show p ≤ 11 by omega)
    omega
  refine ⟨n ||| 2 ^ p, Nat.or_lt_two_pow (n := 12) (by omega) (by omega), ?_⟩
  unfold bt1
  rw [bit_N p hp]
  refine Int32.toBitVec_inj.mp ?_
  show BitVec.ofNat 32 n ||| BitVec.ofNat 32 (2 ^ p) = BitVec.ofNat 32 (n ||| 2 ^ p)
  refine BitVec.eq_of_toNat_eq ?_
  have := Nat.or_lt_two_pow (n := 12) (x := n) (y := 2 ^ p) (by omega) (by omega)
  rw [BitVec.toNat_or, BitVec.toNat_ofNat, BitVec.toNat_ofNat, BitVec.toNat_ofNat, Nat.mod_eq_of_lt (by omega), Nat.mod_eq_of_lt (by omega), Nat.mod_eq_of_lt (by omega)]
theorem or_z {x y c : Int32} (h : (x ||| y) &&& c = 0) : x &&& c = 0 ∧ y &&& c = 0 := by
  have hb : ∀ i, ((x.toBitVec ||| y.toBitVec) &&& c.toBitVec).getLsbD i = (0#32).getLsbD i := fun i => by
    have := congrArg Int32.toBitVec h
    rw [show ((x ||| y) &&& c).toBitVec = (x.toBitVec ||| y.toBitVec) &&& c.toBitVec from rfl] at this
    rw [this]
    rfl
  constructor
  · refine Int32.toBitVec_inj.mp (BitVec.eq_of_getLsbD_eq fun i hi => ?_)
    show (x.toBitVec &&& c.toBitVec).getLsbD i = (0#32).getLsbD i
    have := hb i
    rw [BitVec.getLsbD_and, BitVec.getLsbD_or] at this
    rw [BitVec.getLsbD_and]
    simp at this ⊢
    exact fun a => this (Or.inl a)
  · refine Int32.toBitVec_inj.mp (BitVec.eq_of_getLsbD_eq fun i hi => ?_)
    show (y.toBitVec &&& c.toBitVec).getLsbD i = (0#32).getLsbD i
    have := hb i
    rw [BitVec.getLsbD_and, BitVec.getLsbD_or] at this
    rw [BitVec.getLsbD_and]
    simp at this ⊢
    exact fun a => this (Or.inr a)
theorem bt_self : ∀ p, p < 12 → ¬ bt1 (nI p) &&& bt1 (nI p) = 0 := by decide +kernel
theorem or_0' (x : Int32) : x ||| 0 = x := by
  refine Int32.toBitVec_inj.mp ?_
  show x.toBitVec ||| 0#32 = x.toBitVec
  exact BitVec.or_zero
