/-! the class Pad -/
/-- the parts a Pad has read: how many, their heights, their pitches -/
abbrev PQ : Type := Nat × (Nat → Int32) × (Nat → Int32)
def pdB (b : Nat) (l : Int32) (t : Nat → Int32) (q : PQ) : am_H := [some (.inl (1, [.ref (b + 1), .int l, .int (nI q.1), .ref (b + 2), .ref (b + 3)])), some (.inr (.inl (.char, true, 60, t))), some (am_ia 8 q.2.1), some (am_ia 8 q.2.2)]
def pdH (l : Int32) (t : Nat → Int32) (q : PQ) : am_H := none :: none :: pdB 2 l t q
