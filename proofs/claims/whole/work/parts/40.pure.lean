theorem pure_all : ∃ REL : Nat → FX → FM → Prop, (∀ t : Nat, HALL (REL (t + 1)) (REL t)) ∧ HINIT (REL 512) := by
  sorry
