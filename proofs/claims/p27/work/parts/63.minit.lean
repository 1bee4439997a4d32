def f0_D (ff : Nat → Int32) : Prop := ff 0 = 200 ∧ ff 1 = 100 ∧ ff 2 = 40 ∧ ff 3 = 25 ∧ ff 4 = 1 ∧ ff 5 = 20
