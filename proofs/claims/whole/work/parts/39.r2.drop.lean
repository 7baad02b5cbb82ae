/-! PURE: tickets dropped and swept. -/
theorem drop_do {tb mb : Nat} {tm tol seed made cot Rr : Int32} {R : Nat → Int32} {Ur : Int32} {U : Nat → Int32} {Vr : Int32} {V : Nat → Int32} {Tr : Int32} {T : Nat → Int32} {Er : Int32} {E : Nat → Int32} {g : Nat → Int32} {x : Int32} {i : Nat} (h : ST tb mb tm tol seed made cot Rr R Ur U Vr V Tr T Er E g) (hx : x.toInt = (i : Int)) (hx1 : (i : Int) < (g 6).toInt) : ∃ Tr' T' g', f_X6_removeRow 240 10 Tr T x = some (Tr', T') ∧ f_X12_drops g x = some (Tr', g') ∧ 0 ≤ Tr'.toInt ∧ Tr'.toInt = (g 6).toInt - 1 ∧ g' 6 = Tr' ∧ ST tb mb tm tol seed made cot Rr R Ur U Vr V Tr' T' Er E g' := by
  have hST := h
  obtain ⟨r, u, s, k, e, ⟨y0, y1, y2, y7, y9⟩, ⟨hR, hR2, hR3⟩, ⟨hU, hU2⟩, ⟨hS, hS2⟩, hT, hE, ⟨z1, z2, z3, z4, z5, z6⟩, hRI, hUI, hSI, hTI, hEI⟩ := h
  obtain ⟨g3, g4, g5, g6, g8⟩ := ST_gs (tb := 0) (mb := 0) (tm := 0) (tol := 0) (seed := 0) (made := 0) (cot := 0) hR hU hS hT hE
  have hk24 := hT.2.1
  have hi : i < k := by omega
  have e6 : g 6 = Tr := hT.2.2.1
  have hTr : (Tr - 1).toInt = ((k - 1 : Nat) : Int) := by rw [ti_sub hT.1 ti_one (by omega) (by omega)]; omega
  have hm := drops_m g6 hk24 hx hi
  rw [e6] at hm
  refine ⟨Tr - 1, shf T (i * 10) ((k - 1) * 10) 10, shf (upd g 6 (Tr - 1)) (103 + 10 * i) (103 + 10 * (k - 1)) 10, remove_at (W := 10) (by decide) (by decide) hT.1 hx hi (by omega) (by decide), hm, by omega, by rw [hTr]; omega, ?_, ?_⟩
  · rw [shf_lo (by omega), upd_eq rfl]
  · refine ST_tick hST (Nat.le_refl mb) (fun j h1 h2 h3 h4 => ?_) ?_ ?_ (by rw [← y7]; exact z5) (by rw [← y7]; exact z6) (fun r' u' s' k' x3 x4 x5 xT xTI => ⟨k - 1, ?_, ?_⟩)
    · rcases h4 with h4 | h4
      · rw [shf_lo (by omega), upd_ne h2]
      · rw [shf_hi (by omega), upd_ne h2]
    · rw [shf_lo (by omega), upd_ne (by decide)]; exact y2
    · rw [shf_lo (by omega), upd_ne (by decide)]; exact y7
    · refine ⟨hTr, by omega, by rw [shf_lo (by omega), upd_eq rfl], fun q c hq hc => ?_⟩
      by_cases hqi : q < i
      · rw [shf_lo (by omega), shf_lo (by omega), upd_ne (by omega)]
        exact hT.2.2.2 q c (by omega) hc
      · rw [shf_in (by omega) (by omega), shf_in (by omega) (by omega), upd_ne (by omega), show q * 10 + c + 10 = (q + 1) * 10 + c by omega, show 103 + 10 * q + c + 10 = 103 + 10 * (q + 1) + c by omega]
        exact hT.2.2.2 (q + 1) c (by omega) hc
    · have hkk : k' = k := by
        have := xT.1
        have := hT.1
        omega
      subst hkk
      intro q hq
      by_cases hqi : q < i
      · exact TIR_of (xTI q (by omega)) (fun c hc => by rw [shf_lo (by omega), upd_ne (by omega)])
      · exact TIR_of (xTI (q + 1) (by omega)) (fun c hc => by rw [shf_in (by omega) (by omega), upd_ne (by omega), show 103 + 10 * q + c + 10 = 103 + 10 * (q + 1) + c by omega])
