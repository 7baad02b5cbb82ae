/-! PURE: tickets dropped and swept. -/
theorem drop_do {tb mb : Nat} {tm tol seed made cot Rr : Int32} {R : Nat → Int32} {Ur : Int32} {U : Nat → Int32} {Vr : Int32} {V : Nat → Int32} {Tr : Int32} {T : Nat → Int32} {Er : Int32} {E : Nat → Int32} {g : Nat → Int32} {x : Int32} {i : Nat} (h : ST tb mb tm tol seed made cot Rr R Ur U Vr V Tr T Er E g) (hx : x.toInt = (i : Int)) (hx1 : (i : Int) < (g 6).toInt) : ∃ Tr' T' g', f_X6_removeRow 240 10 Tr T x = some (Tr', T') ∧ f_X12_drops g x = some (Tr', g') ∧ 0 ≤ Tr'.toInt ∧ Tr'.toInt = (g 6).toInt - 1 ∧ g' 6 = Tr' ∧ ST tb mb tm tol seed made cot Rr R Ur U Vr V Tr' T' Er E g' := by
  have hST := h
  obtain ⟨r, u, s, k, e, ⟨y0, y1, y2, y7, y9⟩, ⟨hR, hR2, hR3⟩, ⟨hU, hU2⟩, ⟨hS, hS2⟩, hT, hE, ⟨z1, z2, z3, z4, z5, z6⟩, hRI, hUI, hSI, hTI, hEI⟩ := h
  obtain ⟨g3, g4, g5, g6, g8⟩ := ST_gs (tb := 0) (mb := 0) (tm := 0) (tol := 0) (seed := 0) (made := 0) (cot := 0) hR hU hS hT hE
  have hk24 := hT.2.1
  have hi : i < k := by omega
  have e6 : g 6 = Tr := hT.2.2.1
  have hTr : (Tr - 1).toInt = ((k - 1 : Nat) : Int) := by rw [ti_sub hT.1 ti_one (by omega) (by omega)]; omega
  have hm := drops_m g6 hk24 hx hi
  refine ⟨Tr - 1, _, _, remove_at (W := 10) (by decide) (by decide) hT.1 hx hi (by omega) (by decide), by rw [hm, e6], by omega, by rw [hTr]; omega, ?_, ?_⟩
  · rw [shf_lo (by omega), upd_eq rfl, e6]
  · refine ST_tick hST (Nat.le_refl mb) (fun j h1 h2 h3 h4 => ?_) ?_ ?_ (by rw [← y7]; exact z5) (by rw [← y7]; exact z6) (fun r' u' s' k' x3 x4 x5 xT xTI => ⟨k - 1, ?_, ?_⟩)
    · rcases h4 with h4 | h4
      · rw [shf_lo (by omega), upd_ne h2]
      · rw [shf_hi (by omega), upd_ne h2]
    · rw [shf_lo (by omega), upd_ne (by decide)]; exact y2
    · rw [shf_lo (by omega), upd_ne (by decide)]; exact y7
    · refine ⟨hTr, by omega, by rw [shf_lo (by omega), upd_eq rfl, e6], fun q c hq hc => ?_⟩
      by_cases hqi : q < i
      · rw [shf_lo (by omega), shf_lo (by omega), upd_ne (by omega)]
        exact hT.2.2.2 q c (by omega) hc
      · rw [shf_in (by omega) (by omega), shf_in (by omega) (by omega), upd_ne (by omega), show q * 10 + c + 10 = (q + 1) * 10 + c by omega, show 103 + 10 * q + c + 10 = 103 + 10 * (q + 1) + c by omega]
        exact hT.2.2.2 (q + 1) c (by omega) hc
    · have hkk : k' = k := by
        have := xT.1
        have := hT.1
        omega
      subst hkk
      intro q hq
      by_cases hqi : q < i
      · exact TIR_of (xTI q (by omega)) (fun c hc => by rw [shf_lo (by omega), upd_ne (by omega)])
      · exact TIR_of (xTI (q + 1) (by omega)) (fun c hc => by rw [shf_in (by omega) (by omega), upd_ne (by omega), show 103 + 10 * q + c + 10 = 103 + 10 * (q + 1) + c by omega])
theorem sweep_L {tb mb : Nat} {tm tol seed made cot Rr : Int32} {R : Nat → Int32} {Ur : Int32} {U : Nat → Int32} {Vr : Int32} {V : Nat → Int32} {Er : Int32} {E : Nat → Int32} (b : Int32) : ∀ (f j : Nat) (x Tr : Int32) (T g : Nat → Int32), ST tb mb tm tol seed made cot Rr R Ur U Vr V Tr T Er E g → x.toInt = (j : Int) - 1 → (j : Int) ≤ (g 6).toInt → j < f → ∃ Tr' T' g', f_X7_removeDead_L9 tm f Tr T x = some (Tr', T') ∧ f_X12_sweeps_L9 b f g x = some (b - Tr', g') ∧ Tr'.toInt ≤ Tr.toInt ∧ ST tb mb tm tol seed made cot Rr R Ur U Vr V Tr' T' Er E g' := by
  intro f
  induction f with
  | zero => intro j x Tr T g h hx hj hf; omega
  | succ f ih =>
    intro j x Tr T g h hx hj hf
    have hST := h
    obtain ⟨r, u, s, k, e, ⟨y0, y1, y2, y7, y9⟩, ⟨hR, hR2, hR3⟩, ⟨hU, hU2⟩, ⟨hS, hS2⟩, hT, hE, ⟨z1, z2, z3, z4, z5, z6⟩, hRI, hUI, hSI, hTI, hEI⟩ := h
    obtain ⟨g3, g4, g5, g6, g8⟩ := ST_gs (tb := 0) (mb := 0) (tm := 0) (tol := 0) (seed := 0) (made := 0) (cot := 0) hR hU hS hT hE
    have hk24 := hT.2.1
    have e6 : g 6 = Tr := hT.2.2.1
    rw [f_X7_removeDead_L9, f_X12_sweeps_L9]
    by_cases hq : x < 0
    · rw [if_pos hq, if_pos hq, zM6, ob_some, e6]
      exact ⟨Tr, T, g, rfl, rfl, Int.le_refl _, hST⟩
    · rw [if_neg hq, if_neg hq]
      have hj1 : 1 ≤ j := by
        rw [ti_lt hx ti_zero] at hq
        omega
      have hxj : x.toInt = ((j - 1 : Nat) : Int) := by omega
      have hjk : j - 1 < k := by omega
      have hx2 : (x + -1).toInt = ((j - 1 : Nat) : Int) - 1 := by rw [ti_add hx (b := -1) (by decide) (by omega) (by omega)]; omega
      rw [alive_c hT hxj hjk, lives_m hxj (by omega), y0, ob_some, ob_some]
      by_cases ha : alv (g (103 + 10 * (j - 1) + 6)) tm = 0
      · rw [if_pos ha, if_pos ha]
        obtain ⟨Tr1, T1, g1, d1, d2, d3, d4, d5, d6⟩ := drop_do hST hxj (by omega)
        rw [d1, d2, ob_some, ob_some]
        show ∃ Tr' T' g', f_X7_removeDead_L9 tm f Tr1 T1 (x + -1) = some (Tr', T') ∧ (if 0 ≤ Tr1 then f_X12_sweeps_L9 b f g1 (x + -1) else some (-1, g1)) = some (b - Tr', g') ∧ _
        rw [if_pos (by rw [ti_le ti_zero rfl]; exact d3)]
        obtain ⟨Tr', T', g', i1, i2, i3, i4⟩ := ih (j - 1) (x + -1) Tr1 T1 g1 d6 hx2 (by rw [d5]; omega) (by omega)
        refine ⟨Tr', T', g', i1, i2, ?_, i4⟩
        rw [e6] at d4
        omega
      · rw [if_neg ha, if_neg ha]
        exact ih (j - 1) (x + -1) Tr T g hST hx2 (by omega) (by omega)
theorem sweep_do {tb mb : Nat} {tm tol seed made cot Rr : Int32} {R : Nat → Int32} {Ur : Int32} {U : Nat → Int32} {Vr : Int32} {V : Nat → Int32} {Tr : Int32} {T : Nat → Int32} {Er : Int32} {E : Nat → Int32} {g : Nat → Int32} (h : ST tb mb tm tol seed made cot Rr R Ur U Vr V Tr T Er E g) : ∃ a Tr' T' g', f_X7_removeDead Tr T tm = some (a, Tr', T') ∧ f_X12_sweeps g = some (a, g') ∧ 0 ≤ a.toInt ∧ ST tb mb tm tol seed made cot Rr R Ur U Vr V Tr' T' Er E g' := by
  have hST := h
  obtain ⟨r, u, s, k, e, ⟨y0, y1, y2, y7, y9⟩, ⟨hR, hR2, hR3⟩, ⟨hU, hU2⟩, ⟨hS, hS2⟩, hT, hE, ⟨z1, z2, z3, z4, z5, z6⟩, hRI, hUI, hSI, hTI, hEI⟩ := h
  obtain ⟨g3, g4, g5, g6, g8⟩ := ST_gs (tb := 0) (mb := 0) (tm := 0) (tol := 0) (seed := 0) (made := 0) (cot := 0) hR hU hS hT hE
  have hk24 := hT.2.1
  have e6 : g 6 = Tr := hT.2.2.1
  have hx : (Tr - 1).toInt = (k : Int) - 1 := ti_sub hT.1 ti_one (by omega) (by omega)
  obtain ⟨Tr', T', g', i1, i2, i3, i4⟩ := sweep_L Tr 5000 k (Tr - 1) Tr T g hST hx (by omega) (by omega)
  have h0 : 0 ≤ Tr'.toInt := by
    obtain ⟨_, _, _, k', _, _, _, _, _, hT', _⟩ := i4
    have := hT'.1
    omega
  refine ⟨Tr - Tr', Tr', T', g', ?_, ?_, ?_, i4⟩
  · simp only [f_X7_removeDead, f_X6_size, ob_some, i1]
  · simp only [f_X12_sweeps, zM6, ob_some, e6, i2]
  · have h1 := hT.1
    rw [ti_sub rfl rfl (by omega) (by omega)]
    omega
