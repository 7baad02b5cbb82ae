theorem pure_all : ∀ (xs : Nat → Int32) (Ls : Nat), ASKED xs Ls := by
  sorry
