/-! PURE: tickets swept. -/
theorem sweep_L {tb mb : Nat} {tm tol seed made cot Rr : Int32} {R : Nat → Int32} {Ur : Int32} {U : Nat → Int32} {Vr : Int32} {V : Nat → Int32} {Er : Int32} {E : Nat → Int32} (b : Int32) : ∀ (f j : Nat) (x Tr : Int32) (T g : Nat → Int32), ST tb mb tm tol seed made cot Rr R Ur U Vr V Tr T Er E g → x.toInt = (j : Int) - 1 → (j : Int) ≤ (g 6).toInt → j < f → ∃ Tr' T' g', f_X7_removeDead_L9 tm f Tr T x = some (Tr', T') ∧ f_X12_sweeps_L9 b f g x = some (b - Tr', g') ∧ Tr'.toInt ≤ Tr.toInt ∧ ST tb mb tm tol seed made cot Rr R Ur U Vr V Tr' T' Er E g' := by
  intro f
  induction f with
  | zero => intro j x Tr T g h hx hj hf; omega
  | succ f ih =>
    intro j x Tr T g h hx hj hf
    have hST := h
    obtain ⟨r, u, s, k, e, ⟨y0, y1, y2, y7, y9⟩, ⟨hR, hR2, hR3⟩, ⟨hU, hU2⟩, ⟨hS, hS2⟩, hT, hE, ⟨z1, z2, z3, z4, z5, z6⟩, hRI, hUI, hSI, hTI, hEI⟩ := h
    obtain ⟨g3, g4, g5, g6, g8⟩ := ST_gs (tb := 0) (mb := 0) (tm := 0) (tol := 0) (seed := 0) (made := 0) (cot := 0) hR hU hS hT hE
    have hk24 := hT.2.1
    have e6 : g 6 = Tr := hT.2.2.1
    rw [f_X7_removeDead_L9, f_X12_sweeps_L9]
    by_cases hq : x < 0
    · rw [if_pos hq, if_pos hq, zM6, ob_some, e6]
      exact ⟨Tr, T, g, rfl, rfl, Int.le_refl _, hST⟩
    · rw [if_neg hq, if_neg hq]
      obtain ⟨p, rfl⟩ : ∃ p, j = p + 1 := by
        rw [ti_lt hx ti_zero] at hq
        exact ⟨j - 1, by omega⟩
      have hxj : x.toInt = (p : Int) := by omega
      have hjk : p < k := by omega
      have hj24 : p < 24 := Nat.lt_of_lt_of_le hjk hk24
      obtain ⟨x2, hxe, hx2⟩ : ∃ x2, x + -1 = x2 ∧ x2.toInt = (p : Int) - 1 := ⟨_, rfl, ti_add hxj (b := -1) (by decide) (by omega) (by omega)⟩
      rw [hxe]
      have hl : f_X12_lives g x = some (alv (g (103 + 10 * p + 6)) tm) := by
        rw [← y0]
        exact lives_m hxj hj24
      have hpf : p < f := by omega
      simp only [alive_c hT hxj hjk, hl, ob_some]
      by_cases ha : alv (g (103 + 10 * p + 6)) tm = 0
      · rw [if_pos ha, if_pos ha]
        obtain ⟨Tr1, T1, g1, d1, d2, d3, d4, d5, d6⟩ := drop_do hST hxj (by omega)
        have h61 : (p : Int) ≤ (g1 6).toInt := by
          rw [d5, d4]
          omega
        simp only [d1, d2, ob_some]
        rw [if_pos (by rw [ti_le ti_zero rfl]; exact d3)]
        obtain ⟨Tr', T', g', i1, i2, i3, i4⟩ := ih p x2 Tr1 T1 g1 d6 hx2 h61 hpf
        refine ⟨Tr', T', g', i1, i2, ?_, i4⟩
        rw [e6] at d4
        omega
      · rw [if_neg ha, if_neg ha]
        exact ih p x2 Tr T g hST hx2 (by omega) hpf
