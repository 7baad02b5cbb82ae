/-! PURE: users and services added on both sides. -/
theorem user_do {tb mb : Nat} {tm tol seed made cot Rr : Int32} {R : Nat → Int32} {Ur : Int32} {U : Nat → Int32} {Vr : Int32} {V : Nat → Int32} {Tr : Int32} {T : Nat → Int32} {Er : Int32} {E : Nat → Int32} {g : Nat → Int32} {nc nm ho pw off : Int32} (h : ST tb mb tm tol seed made cot Rr R Ur U Vr V Tr T Er E g) (hu5 : (g 4).toInt < 6) (hN : NAME nc nm) (hh0 : 0 ≤ ho.toInt) (hh1 : ho.toInt < (g 3).toInt) : ∃ Ur' U' g', f_X8_addUser Ur U nc ho pw off = some (Ur', U') ∧ (wr g 463 (55 + 5 * g 4 + 0) nm).bind (fun g12 => (wr g12 463 (55 + 5 * g 4 + 1) ho).bind fun g13 => (wr g13 463 (55 + 5 * g 4 + 2) pw).bind fun g14 => (wr g14 463 (55 + 5 * g 4 + 3) off).bind fun g15 => (rd g15 463 4).bind fun x16 => (wr g15 463 4 (x16 + 1)).bind fun g17 => some g17) = some g' ∧ ST tb mb tm tol seed made cot Rr R Ur' U' Vr V Tr T Er E g' := by
  obtain ⟨r, u, s, k, e, ⟨y0, y1, y2, y7, y9⟩, ⟨hR, hR2, hR3⟩, ⟨hU, hU2⟩, ⟨hS, hS2⟩, hT, hE, ⟨z1, z2, z3, z4, z5, z6⟩, hRI, hUI, hSI, hTI, hEI, hUZ⟩ := h
  obtain ⟨g3, g4, g5, g6, g8⟩ := ST_gs (tb := 0) (mb := 0) (tm := 0) (tol := 0) (seed := 0) (made := 0) (cot := 0) hR hU hS hT hE
  have hu6 : u < 6 := by omega
  have e4 : g 4 = Ur := hU.2.2.1
  have hu1 : (Ur + 1).toInt = ((u + 1 : Nat) : Int) := ti_inc hU.1 (by omega)
  have h6 : u + 1 ≤ 6 := by omega
  have huu : u < u + 1 := by omega
  have hfr : ∀ j, j ≠ 4 → (j < 55 + 5 * u ∨ 55 + 5 * u + 4 ≤ j) → upd (upd (upd (upd (upd g (55 + 5 * u + 0) nm) (55 + 5 * u + 1) ho) (55 + 5 * u + 2) pw) (55 + 5 * u + 3) off) 4 (g 4 + 1) j = g j := fun j h1 h2 => by simp (disch := omega) only [upd_ne]
  have n0 : upd (upd (upd (upd (upd g (55 + 5 * u + 0) nm) (55 + 5 * u + 1) ho) (55 + 5 * u + 2) pw) (55 + 5 * u + 3) off) 4 (g 4 + 1) (55 + 5 * u + 0) = nm := by simp (disch := omega) only [upd_ne, upd_eq]
  have n1 : upd (upd (upd (upd (upd g (55 + 5 * u + 0) nm) (55 + 5 * u + 1) ho) (55 + 5 * u + 2) pw) (55 + 5 * u + 3) off) 4 (g 4 + 1) (55 + 5 * u + 1) = ho := by simp (disch := omega) only [upd_ne, upd_eq]
  have n2 : upd (upd (upd (upd (upd g (55 + 5 * u + 0) nm) (55 + 5 * u + 1) ho) (55 + 5 * u + 2) pw) (55 + 5 * u + 3) off) 4 (g 4 + 1) (55 + 5 * u + 2) = pw := by simp (disch := omega) only [upd_ne, upd_eq]
  have n3 : upd (upd (upd (upd (upd g (55 + 5 * u + 0) nm) (55 + 5 * u + 1) ho) (55 + 5 * u + 2) pw) (55 + 5 * u + 3) off) 4 (g 4 + 1) (55 + 5 * u + 3) = off := by simp (disch := omega) only [upd_ne, upd_eq]
  have nz : upd (upd (upd (upd (upd g (55 + 5 * u + 0) nm) (55 + 5 * u + 1) ho) (55 + 5 * u + 2) pw) (55 + 5 * u + 3) off) 4 (g 4 + 1) 4 = g 4 + 1 := upd_eq rfl
  have n4 : upd (upd (upd (upd (upd g (55 + 5 * u + 0) nm) (55 + 5 * u + 1) ho) (55 + 5 * u + 2) pw) (55 + 5 * u + 3) off) 4 (g 4 + 1) (55 + 5 * u + 4) = 0 := by rw [hfr _ (by omega) (by omega)]; exact hUZ u (Nat.le_refl u) hu6
  refine ⟨Ur + 1, upd (upd (upd (upd (upd U (u * 5 + 0) nc) (u * 5 + 1) ho) (u * 5 + 2) pw) (u * 5 + 3) off) (u * 5 + 4) 0, upd (upd (upd (upd (upd g (55 + 5 * u + 0) nm) (55 + 5 * u + 1) ho) (55 + 5 * u + 2) pw) (55 + 5 * u + 3) off) 4 (g 4 + 1), ?_, ?_, ?_⟩
  · simp only [f_X8_addUser, addRow_in (tn := 30) (lim := 6) (L := 6) (by decide) hU.1 hu6, ob_some, uS0 hu1 h6 hU.1 huu, uS1 hu1 h6 hU.1 huu, uS2 hu1 h6 hU.1 huu, uS3 hu1 h6 hU.1 huu, uS4 hu1 h6 hU.1 huu]
  · simp only [uW0 g4 hu6, uW1 g4 hu6, uW2 g4 hu6, uW3 g4 hu6, zM4, zW4, ob_some]
    simp (disch := omega) only [upd_ne]
  · generalize upd (upd (upd (upd (upd g (55 + 5 * u + 0) nm) (55 + 5 * u + 1) ho) (55 + 5 * u + 2) pw) (55 + 5 * u + 3) off) 4 (g 4 + 1) = g' at hfr n0 n1 n2 n3 n4 nz
    have ag : ∀ a b, 85 ≤ a ∨ (10 ≤ a ∧ b ≤ 55) → AG a b g g' := fun a b h1 j h2 h3 => hfr j (by omega) (by omega)
    have fz : ∀ j, j ≠ 4 → j < 10 → g' j = g j := fun j h1 h2 => hfr j h1 (by omega)
    refine ⟨r, u + 1, s, k, e, ?_, ⟨RLM_fr hR (fz 3 (by decide) (by decide)) (ag _ _ (by decide)), NMr_fr hR2 hR.2.1 (ag _ _ (by decide)), TRU_fr hR3 (ag _ _ (by decide))⟩, ⟨⟨hu1, h6, by rw [nz, e4], fun q c hq h1 hc => ?_⟩, fun q hq => ?_⟩, ⟨SVC_fr hS (fz 5 (by decide) (by decide)) (ag _ _ (by decide)), NMs_fr hS2 hS.2.1 (ag _ _ (by decide))⟩, TKT_fr hT (fz 6 (by decide) (by decide)) (ag _ _ (by decide)), USE_fr hE (fz 8 (by decide) (by decide)) (ag _ _ (by decide)), ?_, RIN_fr hRI hR.2.1 (ag _ _ (by decide)), fun q hq => ?_, SIN_fr hSI hS.2.1 (ag _ _ (by decide)), TIN_upu (TIN_fr hTI hT.2.1 (ag _ _ (by decide))), EIN_fr hEI hE.2.1 (fz 0 (by decide) (by decide)) (fz 1 (by decide) (by decide)) (ag _ _ (by decide)), fun q hq1 hq2 => by rw [hfr _ (by omega) (by omega)]; exact hUZ q (by omega) hq2⟩
    · rw [fz 0 (by decide) (by decide), fz 1 (by decide) (by decide), fz 2 (by decide) (by decide), fz 7 (by decide) (by decide), fz 9 (by decide) (by decide)]
      exact ⟨y0, y1, y2, y7, y9⟩
    · by_cases hqr : q = u
      · subst hqr
        rcases (show c = 1 ∨ c = 2 ∨ c = 3 ∨ c = 4 by omega) with rfl | rfl | rfl | rfl
        · rw [n1]; simp (disch := omega) only [upd_ne, upd_eq]
        · rw [n2]; simp (disch := omega) only [upd_ne, upd_eq]
        · rw [n3]; simp (disch := omega) only [upd_ne, upd_eq]
        · rw [n4]; simp (disch := omega) only [upd_ne, upd_eq]
      · rw [hfr _ (by omega) (by omega)]
        simp (disch := omega) only [upd_ne]
        exact hU.2.2.2 q c (by omega) h1 hc
    · by_cases hqr : q = u
      · subst hqr
        rw [n0]
        simp (disch := omega) only [upd_ne, upd_eq]
        exact hN
      · rw [hfr _ (by omega) (by omega)]
        simp (disch := omega) only [upd_ne]
        exact hU2 q (by omega)
    · unfold ZIN
      rw [fz 0 (by decide) (by decide), fz 1 (by decide) (by decide), fz 7 (by decide) (by decide)]
      exact ⟨z1, z2, z3, z4, z5, z6⟩
    · by_cases hqr : q = u
      · subst hqr
        rw [n1, n4]
        exact ⟨hh0, by omega, by decide, by rw [ti_zero]; omega⟩
      · rw [hfr _ (by omega) (by omega), hfr _ (by omega) (by omega)]
        exact hUI q (by omega)
theorem service_do {tb mb : Nat} {tm tol seed made cot Rr : Int32} {R : Nat → Int32} {Ur : Int32} {U : Nat → Int32} {Vr : Int32} {V : Nat → Int32} {Tr : Int32} {T : Nat → Int32} {Er : Int32} {E : Nat → Int32} {g : Nat → Int32} {nc nm re ch : Int32} (h : ST tb mb tm tol seed made cot Rr R Ur U Vr V Tr T Er E g) (hs5 : (g 5).toInt < 6) (hN : NAME nc nm) (hh0 : 0 ≤ re.toInt) (hh1 : re.toInt < (g 3).toInt) : ∃ Vr' V' g', f_X3_addService Vr V nc re ch = some (Vr', V') ∧ (wr g 463 (85 + 3 * g 5 + 0) nm).bind (fun g12 => (wr g12 463 (85 + 3 * g 5 + 1) re).bind fun g13 => (wr g13 463 (85 + 3 * g 5 + 2) ch).bind fun g14 => (rd g14 463 9).bind fun x15 => (wr g14 463 9 (x15 + ch)).bind fun g16 => (rd g16 463 5).bind fun x17 => (wr g16 463 5 (x17 + 1)).bind fun g18 => some g18) = some g' ∧ ST tb mb tm tol seed made (cot + ch) Rr R Ur U Vr' V' Tr T Er E g' := by
  obtain ⟨r, u, s, k, e, ⟨y0, y1, y2, y7, y9⟩, ⟨hR, hR2, hR3⟩, ⟨hU, hU2⟩, ⟨hS, hS2⟩, hT, hE, ⟨z1, z2, z3, z4, z5, z6⟩, hRI, hUI, hSI, hTI, hEI, hUZ⟩ := h
  obtain ⟨g3, g4, g5, g6, g8⟩ := ST_gs (tb := 0) (mb := 0) (tm := 0) (tol := 0) (seed := 0) (made := 0) (cot := 0) hR hU hS hT hE
  have hs6 : s < 6 := by omega
  have e5 : g 5 = Vr := hS.2.2.1
  have hs1 : (Vr + 1).toInt = ((s + 1 : Nat) : Int) := ti_inc hS.1 (by omega)
  have h6 : s + 1 ≤ 6 := by omega
  have hss : s < s + 1 := by omega
  have hfr : ∀ j, j ≠ 5 → j ≠ 9 → (j < 85 + 3 * s ∨ 85 + 3 * s + 3 ≤ j) → upd (upd (upd (upd (upd g (85 + 3 * s + 0) nm) (85 + 3 * s + 1) re) (85 + 3 * s + 2) ch) 9 (g 9 + ch)) 5 (g 5 + 1) j = g j := fun j h1 h2 h3 => by simp (disch := omega) only [upd_ne]
  have n0 : upd (upd (upd (upd (upd g (85 + 3 * s + 0) nm) (85 + 3 * s + 1) re) (85 + 3 * s + 2) ch) 9 (g 9 + ch)) 5 (g 5 + 1) (85 + 3 * s + 0) = nm := by simp (disch := omega) only [upd_ne, upd_eq]
  have n1 : upd (upd (upd (upd (upd g (85 + 3 * s + 0) nm) (85 + 3 * s + 1) re) (85 + 3 * s + 2) ch) 9 (g 9 + ch)) 5 (g 5 + 1) (85 + 3 * s + 1) = re := by simp (disch := omega) only [upd_ne, upd_eq]
  have n2 : upd (upd (upd (upd (upd g (85 + 3 * s + 0) nm) (85 + 3 * s + 1) re) (85 + 3 * s + 2) ch) 9 (g 9 + ch)) 5 (g 5 + 1) (85 + 3 * s + 2) = ch := by simp (disch := omega) only [upd_ne, upd_eq]
  have nz : upd (upd (upd (upd (upd g (85 + 3 * s + 0) nm) (85 + 3 * s + 1) re) (85 + 3 * s + 2) ch) 9 (g 9 + ch)) 5 (g 5 + 1) 5 = g 5 + 1 := upd_eq rfl
  have n9 : upd (upd (upd (upd (upd g (85 + 3 * s + 0) nm) (85 + 3 * s + 1) re) (85 + 3 * s + 2) ch) 9 (g 9 + ch)) 5 (g 5 + 1) 9 = g 9 + ch := by simp (disch := omega) only [upd_ne, upd_eq]
  refine ⟨Vr + 1, upd (upd (upd V (s * 3 + 0) nc) (s * 3 + 1) re) (s * 3 + 2) ch, upd (upd (upd (upd (upd g (85 + 3 * s + 0) nm) (85 + 3 * s + 1) re) (85 + 3 * s + 2) ch) 9 (g 9 + ch)) 5 (g 5 + 1), ?_, ?_, ?_⟩
  · simp only [f_X3_addService, addRow_in (tn := 18) (lim := 6) (L := 6) (by decide) hS.1 hs6, ob_some, vS0 hs1 h6 hS.1 hss, vS1 hs1 h6 hS.1 hss, vS2 hs1 h6 hS.1 hss]
  · simp only [vW0 g5 hs6, vW1 g5 hs6, vW2 g5 hs6, zM5, zW5, zM9, zW9, ob_some]
    simp (disch := omega) only [upd_ne]
  · generalize upd (upd (upd (upd (upd g (85 + 3 * s + 0) nm) (85 + 3 * s + 1) re) (85 + 3 * s + 2) ch) 9 (g 9 + ch)) 5 (g 5 + 1) = g' at hfr n0 n1 n2 n9 nz
    have ag : ∀ a b, 103 ≤ a ∨ (10 ≤ a ∧ b ≤ 85) → AG a b g g' := fun a b h1 j h2 h3 => hfr j (by omega) (by omega) (by omega)
    have fz : ∀ j, j ≠ 5 → j < 9 → g' j = g j := fun j h1 h2 => hfr j h1 (by omega) (by omega)
    refine ⟨r, u, s + 1, k, e, ?_, ⟨RLM_fr hR (fz 3 (by decide) (by decide)) (ag _ _ (by decide)), NMr_fr hR2 hR.2.1 (ag _ _ (by decide)), TRU_fr hR3 (ag _ _ (by decide))⟩, ⟨USR_fr hU (fz 4 (by decide) (by decide)) (ag _ _ (by decide)), NMu_fr hU2 hU.2.1 (ag _ _ (by decide))⟩, ⟨⟨hs1, h6, by rw [nz, e5], fun q c hq h1 hc => ?_⟩, fun q hq => ?_⟩, TKT_fr hT (fz 6 (by decide) (by decide)) (ag _ _ (by decide)), USE_fr hE (fz 8 (by decide) (by decide)) (ag _ _ (by decide)), ?_, RIN_fr hRI hR.2.1 (ag _ _ (by decide)), UIN_fr hUI hU.2.1 (ag _ _ (by decide)), fun q hq => ?_, TIN_ups (TIN_fr hTI hT.2.1 (ag _ _ (by decide))), EIN_fr hEI hE.2.1 (fz 0 (by decide) (by decide)) (fz 1 (by decide) (by decide)) (ag _ _ (by decide)), UZ_fr hUZ (ag _ _ (by decide))⟩
    · rw [fz 0 (by decide) (by decide), fz 1 (by decide) (by decide), fz 2 (by decide) (by decide), fz 7 (by decide) (by decide), n9, y9]
      exact ⟨y0, y1, y2, y7, rfl⟩
    · by_cases hqr : q = s
      · subst hqr
        rcases (show c = 1 ∨ c = 2 by omega) with rfl | rfl
        · rw [n1]; simp (disch := omega) only [upd_ne, upd_eq]
        · rw [n2]; simp (disch := omega) only [upd_ne, upd_eq]
      · rw [hfr _ (by omega) (by omega) (by omega)]
        simp (disch := omega) only [upd_ne]
        exact hS.2.2.2 q c (by omega) h1 hc
    · by_cases hqr : q = s
      · subst hqr
        rw [n0]
        simp (disch := omega) only [upd_ne, upd_eq]
        exact hN
      · rw [hfr _ (by omega) (by omega) (by omega)]
        simp (disch := omega) only [upd_ne]
        exact hS2 q (by omega)
    · unfold ZIN
      rw [fz 0 (by decide) (by decide), fz 1 (by decide) (by decide), fz 7 (by decide) (by decide)]
      exact ⟨z1, z2, z3, z4, z5, z6⟩
    · by_cases hqr : q = s
      · subst hqr
        rw [n1]
        exact ⟨hh0, by omega⟩
      · rw [hfr _ (by omega) (by omega) (by omega)]
        exact hSI q (by omega)
