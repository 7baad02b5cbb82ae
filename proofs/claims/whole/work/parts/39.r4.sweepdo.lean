/-! PURE: tickets swept, whole. -/
theorem sweep_do {tb mb : Nat} {tm tol seed made cot Rr : Int32} {R : Nat → Int32} {Ur : Int32} {U : Nat → Int32} {Vr : Int32} {V : Nat → Int32} {Tr : Int32} {T : Nat → Int32} {Er : Int32} {E : Nat → Int32} {g : Nat → Int32} (h : ST tb mb tm tol seed made cot Rr R Ur U Vr V Tr T Er E g) : ∃ a Tr' T' g', f_X7_removeDead Tr T tm = some (a, Tr', T') ∧ f_X12_sweeps g = some (a, g') ∧ 0 ≤ a.toInt ∧ ST tb mb tm tol seed made cot Rr R Ur U Vr V Tr' T' Er E g' := by
  have hST := h
  obtain ⟨r, u, s, k, e, ⟨y0, y1, y2, y7, y9⟩, ⟨hR, hR2, hR3⟩, ⟨hU, hU2⟩, ⟨hS, hS2⟩, hT, hE, ⟨z1, z2, z3, z4, z5, z6⟩, hRI, hUI, hSI, hTI, hEI⟩ := h
  obtain ⟨g3, g4, g5, g6, g8⟩ := ST_gs (tb := 0) (mb := 0) (tm := 0) (tol := 0) (seed := 0) (made := 0) (cot := 0) hR hU hS hT hE
  have hk24 := hT.2.1
  have e6 : g 6 = Tr := hT.2.2.1
  have hx : (Tr - 1).toInt = (k : Int) - 1 := ti_sub hT.1 ti_one (by omega) (by omega)
  obtain ⟨Tr', T', g', i1, i2, i3, i4⟩ := sweep_L Tr 5000 k (Tr - 1) Tr T g hST hx (by omega) (by omega)
  have h0 : 0 ≤ Tr'.toInt := by
    obtain ⟨_, _, _, k', _, _, _, _, _, hT', _⟩ := i4
    have := hT'.1
    omega
  refine ⟨Tr - Tr', Tr', T', g', ?_, ?_, ?_, i4⟩
  · simp only [f_X7_removeDead, f_X6_size, ob_some, i1]
  · simp only [f_X12_sweeps, zM6, ob_some, e6, i2]
  · have h1 := hT.1
    rw [ti_sub rfl rfl (by omega) (by omega)]
    omega
