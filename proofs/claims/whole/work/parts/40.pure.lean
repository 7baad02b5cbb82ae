theorem pure_all : ∃ REL : FX → FM → Prop, HALL REL ∧ HINIT REL := by
  sorry
