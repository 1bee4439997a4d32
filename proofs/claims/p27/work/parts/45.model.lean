theorem ffi_z {q : Nat → Bool} : ∀ (d k : Nat), (∀ i, k ≤ i → q i = false) → ffi q d k = none
  | 0, _, _ => rfl
  | d + 1, k, h => by
    rw [ffi, if_neg (by rw [h k (Nat.le_refl k)]; decide)]
    exact ffi_z d (k + 1) (fun i hi => h i (by omega))
