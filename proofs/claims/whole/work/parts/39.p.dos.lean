/-! PURE: what users do to the state, the same on both sides. -/
theorem imin_rng {x y : Int32} {a b c d : Int} (h1 : a ≤ x.toInt) (h2 : x.toInt ≤ b) (h3 : c ≤ y.toInt) (h4 : y.toInt ≤ d) : (a ≤ c → a ≤ (imin x y).toInt) ∧ (c ≤ a → c ≤ (imin x y).toInt) ∧ (imin x y).toInt ≤ b ∧ (imin x y).toInt ≤ d := by
  unfold imin
  by_cases h : y < x
  · rw [if_pos h]
    rw [Int32.lt_iff_toInt_lt] at h
    omega
  · rw [if_neg h]
    rw [Int32.lt_iff_toInt_lt] at h
    omega
theorem imax_rng {x y : Int32} {a b : Int} (h1 : a ≤ x.toInt) (h2 : x.toInt ≤ b) (h3 : a ≤ y.toInt) (h4 : y.toInt ≤ b) : a ≤ (imax x y).toInt ∧ (imax x y).toInt ≤ b := by
  unfold imax
  by_cases h : x < y
  · rw [if_pos h]; exact ⟨h3, h4⟩
  · rw [if_neg h]; exact ⟨h1, h2⟩
theorem TIN_new {tb mb : Nat} {g g' : Nat → Int32} {r u s k : Nat} {ow re sv en la rn : Int32} (h : TIN tb mb g r u s k) (hk : k < 24) (hn : NEWT g g' k ow re sv en la rn) (h70 : 0 ≤ (g 7).toInt) (h7 : (g 7).toInt ≤ (mb : Int)) (hsv : sv = -1 ∨ (0 ≤ sv.toInt ∧ sv.toInt < (s : Int))) (ho : 0 ≤ ow.toInt ∧ ow.toInt < (u : Int)) (hre : 0 ≤ re.toInt ∧ re.toInt < (r : Int)) (hen : 0 ≤ en.toInt ∧ en.toInt ≤ (tb : Int) + 9999) (hla : 0 ≤ la.toInt ∧ la.toInt ≤ (tb : Int) + 9999) (hrn : rn = 0 ∨ rn = 1) : TIN tb (mb + 1) g' r u s (k + 1) := by
  obtain ⟨n6, -, -, n0, n1, n2, n3, n4, n5, n66, n7, n8, n9, nf⟩ := hn
  intro i hi
  by_cases hik : i = k
  · subst hik
    rw [n0, n1, n2, n3, n4, n66, n7, n9]
    refine ⟨h70, by omega, ?_, ho.1, ho.2, hre.1, hre.2, hen.1, hen.2, ?_, ?_, hrn⟩
    · by_cases hs : sv = -1
      · rw [if_pos hs]
        exact Or.inl ⟨rfl, hs⟩
      · rw [if_neg hs]
        exact Or.inr ⟨rfl, hsv.resolve_left hs⟩
    · by_cases h1 : rn = 1
      · rw [if_pos h1]; exact (imax_rng hen.1 hen.2 hla.1 hla.2).1
      · rw [if_neg h1]; exact hen.1
    · by_cases h1 : rn = 1
      · rw [if_pos h1]; exact (imax_rng hen.1 hen.2 hla.1 hla.2).2
      · rw [if_neg h1]; exact hen.2
  · have h1 := TIR_of (h i (by omega)) (g' := g') (i' := i) (fun c hc => nf _ (by omega) (by omega) (by omega) (by omega))
    obtain ⟨b1, b2, b3⟩ := h1
    exact ⟨b1, by omega, b3⟩
theorem ST_new {tb mb : Nat} {tm tol seed made cot Rr : Int32} {R : Nat → Int32} {Ur : Int32} {U : Nat → Int32} {Vr : Int32} {V : Nat → Int32} {Tr : Int32} {T : Nat → Int32} {Er : Int32} {E : Nat → Int32} {g g' T' : Nat → Int32} {ow re sv en la la' rn : Int32} {k : Nat} (h : ST tb mb tm tol seed made cot Rr R Ur U Vr V Tr T Er E g) (hk : (g 6).toInt = (k : Int)) (hk24 : k < 24) (hmb : mb < 100000) (hn : NEWT g g' k ow re sv en la rn) (hc : NEWC T T' k (g 7) ow re sv (g 0) en la' (irm (21 * g 2 + 7) 1024) rn) (hl : la' = if rn = 1 then imax en la else en) (hsv : sv = -1 ∨ (0 ≤ sv.toInt ∧ sv.toInt < (g 5).toInt)) (ho : 0 ≤ ow.toInt ∧ ow.toInt < (g 4).toInt) (hre : 0 ≤ re.toInt ∧ re.toInt < (g 3).toInt) (hen : 0 ≤ en.toInt ∧ en.toInt ≤ (tb : Int) + 9999) (hla : 0 ≤ la.toInt ∧ la.toInt ≤ (tb : Int) + 9999) (hrn : rn = 0 ∨ rn = 1) : ST tb (mb + 1) tm tol (irm (21 * seed + 7) 1024) (made + 1) cot Rr R Ur U Vr V (Tr + 1) T' Er E g' := by
  obtain ⟨r, u, s, k2, e, hz, ⟨hR, hR2, hR3⟩, ⟨hU, hU2⟩, ⟨hS, hS2⟩, hT, hE, hZ, hRI, hUI, hSI, hTI, hEI, hUZ⟩ := h
  have hkk : k2 = k := by
    have h1 := hT.1
    rw [← hT.2.2.1, hk] at h1
    omega
  subst hkk
  have hT2 := TKT_new (ke := 0) hT hk24 hn hc hl
  have g3 : (g 3).toInt = (r : Int) := by rw [hR.2.2.1]; exact hR.1
  have g4 : (g 4).toInt = (u : Int) := by rw [hU.2.2.1]; exact hU.1
  have g5 : (g 5).toInt = (s : Int) := by rw [hS.2.2.1]; exact hS.1
  rw [g3] at hre
  rw [g4] at ho
  rw [g5] at hsv
  obtain ⟨z1, z2, z3, z4, z5, z6⟩ := hZ
  have hTI2 := TIN_new hTI hk24 hn z5 z6 hsv ho hre hen hla hrn
  obtain ⟨n6, n7, n2, -, -, -, -, -, -, -, -, -, -, nf⟩ := hn
  have f0 : ∀ j, j ≠ 2 → j ≠ 6 → j ≠ 7 → j < 103 → g' j = g j := fun j h1 h2 h3 h4 => nf j h1 h2 h3 (Or.inl (by omega))
  have ag : ∀ a b, 7 < a → b ≤ 103 → AG a b g g' := fun a b ha hb j h1 h2 => f0 j (by omega) (by omega) (by omega) (by omega)
  have ag2 : AG 343 463 g g' := fun j h1 h2 => nf j (by omega) (by omega) (by omega) (Or.inr (by omega))
  have e0 := f0 0 (by decide) (by decide) (by decide) (by decide)
  have e1 := f0 1 (by decide) (by decide) (by decide) (by decide)
  have e3 := f0 3 (by decide) (by decide) (by decide) (by decide)
  have e4 := f0 4 (by decide) (by decide) (by decide) (by decide)
  have e5 := f0 5 (by decide) (by decide) (by decide) (by decide)
  have e8 := f0 8 (by decide) (by decide) (by decide) (by decide)
  have e9 := f0 9 (by decide) (by decide) (by decide) (by decide)
  obtain ⟨y0, y1, y2, y7, y9⟩ := hz
  have hUI2 : UIN (mb + 1) g r u := fun i hi => by
    obtain ⟨w1, w2, w3, w4⟩ := hUI i hi
    exact ⟨w1, w2, w3, by omega⟩
  refine ⟨r, u, s, k2 + 1, e, ?_, ⟨RLM_fr hR e3 (ag _ _ (by decide) (by decide)), NMr_fr hR2 hR.2.1 (ag _ _ (by decide) (by decide)), TRU_fr hR3 (ag _ _ (by decide) (by decide))⟩, ⟨USR_fr hU e4 (ag _ _ (by decide) (by decide)), NMu_fr hU2 hU.2.1 (ag _ _ (by decide) (by decide))⟩, ⟨SVC_fr hS e5 (ag _ _ (by decide) (by decide)), NMs_fr hS2 hS.2.1 (ag _ _ (by decide) (by decide))⟩, hT2, USE_fr hE e8 ag2, ?_, RIN_fr hRI hR.2.1 (ag _ _ (by decide) (by decide)), UIN_fr hUI2 hU.2.1 (ag _ _ (by decide) (by decide)), SIN_fr hSI hS.2.1 (ag _ _ (by decide) (by decide)), hTI2, EIN_fr hEI hE.2.1 e0 e1 ag2, UZ_fr hUZ (ag _ _ (by decide) (by decide))⟩
  · rw [e0, e1, n2, n7, e9, y0, y1, y2, y7, y9]
    exact ⟨rfl, rfl, rfl, rfl, rfl⟩
  · unfold ZIN
    rw [e0, e1, n7]
    have e71 : (g 7 + 1).toInt = (g 7).toInt + 1 := ti_add rfl ti_one (by omega) (by omega)
    rw [e71]
    refine ⟨z1, z2, z3, z4, by omega, by omega⟩
theorem NEWC_life {T T1 T2 : Nat → Int32} {k : Nat} {nu ow re sv tm a b c ke : Int32} (h : NEWC T T1 k nu ow re sv tm a b ke c) (hf : ∀ j, j ≠ k * 10 + 6 → j ≠ k * 10 + 7 → j ≠ k * 10 + 9 → T2 j = T1 j) {en la rn : Int32} (h6 : T2 (k * 10 + 6) = en) (h7 : T2 (k * 10 + 7) = la) (h9 : T2 (k * 10 + 9) = rn) : NEWC T T2 k nu ow re sv tm en la ke rn := by
  obtain ⟨c0, c1, c2, c3, c4, c5, c6, c7, c8, c9, cf⟩ := h
  refine ⟨?_, ?_, ?_, ?_, ?_, ?_, h6, h7, ?_, h9, fun j hj => ?_⟩
  · rw [hf _ (by omega) (by omega) (by omega), c0]
  · rw [hf _ (by omega) (by omega) (by omega), c1]
  · rw [hf _ (by omega) (by omega) (by omega), c2]
  · rw [hf _ (by omega) (by omega) (by omega), c3]
  · rw [hf _ (by omega) (by omega) (by omega), c4]
  · rw [hf _ (by omega) (by omega) (by omega), c5]
  · rw [hf _ (by omega) (by omega) (by omega), c8]
  · rw [hf _ (by omega) (by omega) (by omega), cf j hj]
theorem login_do {tb mb : Nat} {tm tol seed made cot Rr : Int32} {R : Nat → Int32} {Ur : Int32} {U : Nat → Int32} {Vr : Int32} {V : Nat → Int32} {Tr : Int32} {T : Nat → Int32} {Er : Int32} {E : Nat → Int32} {g : Nat → Int32} {x rn : Int32} (h : ST tb mb tm tol seed made cot Rr R Ur U Vr V Tr T Er E g) (htb : tb ≤ 1200000) (hmb : mb ≤ 2000) (hx0 : 0 ≤ x.toInt) (hx1 : x.toInt < (g 4).toInt) (hf : ¬ g 6 = 24) (hrn : rn = 0 ∨ rn = 1) : ∃ nu seed' made' Tr' T' g', f_X5_makeLogin tm seed made Rr R Ur U Tr T x rn = some (nu, seed', made', Tr', T') ∧ f_X12_enters g x rn = some (nu, g') ∧ 0 ≤ nu.toInt ∧ ST tb (mb + 1) tm tol seed' made' cot Rr R Ur U Vr V Tr' T' Er E g' := by
  have hST := h
  obtain ⟨r, u, s, k, e, ⟨y0, y1, y2, y7, y9⟩, ⟨hR, hR2, hR3⟩, ⟨hU, hU2⟩, ⟨hS, hS2⟩, hT, hE, ⟨z1, z2, z3, z4, z5, z6⟩, hRI, hUI, hSI, hTI, hEI⟩ := h
  have g3 : (g 3).toInt = (r : Int) := by rw [hR.2.2.1]; exact hR.1
  have g4 : (g 4).toInt = (u : Int) := by rw [hU.2.2.1]; exact hU.1
  have g6 : (g 6).toInt = (k : Int) := by rw [hT.2.2.1]; exact hT.1
  have hr5 := hR.2.1
  have hu6 := hU.2.1
  have hk24 : k < 24 := by
    have h1 := hT.2.1
    have h2 : ¬ (k : Int) = 24 := fun z => hf ((ti_iff g6 (by decide)).mpr z)
    omega
  obtain ⟨i, hi, hx⟩ := nat_of hx0 (by rw [g4] at hx1; exact hx1)
  obtain ⟨b1, b2, -⟩ := hUI i hi
  obtain ⟨m, hm, hme⟩ := nat_of b1 b2
  have hi6 : i < 6 := by omega
  have hm5 : m < 5 := by omega
  obtain ⟨l1, l2, l3, l4⟩ := hRI m hm
  have hr1 : (Tr + 1).toInt = ((k + 1 : Nat) : Int) := ti_inc hT.1 (by omega)
  obtain ⟨T1, c1, c2⟩ := makeTicket_c (tm := tm) (seed := seed) (made := made) (ow := x) (re := g (55 + 5 * i + 1)) (sv := -1) (T := T) hT.1 hk24
  have c23 : T1 (k * 10 + 3) = g (55 + 5 * i + 1) := c2.2.2.2.1
  obtain ⟨T2, d1, d6, d7, d9, df⟩ := setLife_c (tm := tm) (R := R) (T := T1) (rn := rn) (me := 2147483647) (ml := 2147483647) hR.1 hr5 hr1 (by omega) hT.1 hm (by rw [c23]; exact hme)
  rw [imin_top, hR.2.2.2 m 1 hm (by decide) (by decide), ← y0] at d6
  rw [imin_top, imin_top, hR.2.2.2 m 1 hm (by decide) (by decide), hR.2.2.2 m 2 hm (by decide) (by decide), ← y0] at d7
  obtain ⟨g', m1, m2⟩ := make_m (g := g) (ow := x) (re := g (55 + 5 * i + 1)) (sv := -1) (en := g 0 + g (10 + 4 * m + 1)) (la := g 0 + g (10 + 4 * m + 2)) (rn := rn) g6 hk24
  have en1 : (g 0 + g (10 + 4 * m + 1)).toInt = (g 0).toInt + (g (10 + 4 * m + 1)).toInt := ti_add rfl rfl (by omega) (by omega)
  have en2 : (g 0 + g (10 + 4 * m + 2)).toInt = (g 0).toInt + (g (10 + 4 * m + 2)).toInt := ti_add rfl rfl (by omega) (by omega)
  refine ⟨g 7, irm (21 * seed + 7) 1024, made + 1, Tr + 1, T2, g', ?_, ?_, z5, ?_⟩
  · simp only [f_X5_makeLogin, uG1 hU hx hi, c1, d1, ob_some, tR0 hr1 (show k + 1 ≤ 24 by omega) hT.1 (show k < k + 1 by omega)]
    rw [df _ (by omega) (by omega) (by omega), c2.1, y7]
  · rcases hrn with rfl | rfl
    · simp only [f_X12_enters, f_X12_ofUser, f_X12_ofRealm, ob_some, uM1 hx hi6, zM0, rM1 hme hm5, rM2 hme hm5, if_true, m1]
    · simp only [f_X12_enters, f_X12_ofUser, f_X12_ofRealm, ob_some, uM1 hx hi6, zM0, rM1 hme hm5, rM2 hme hm5, i10, if_false, m1]
  · have c3 := NEWC_life c2 df d6 d7 d9
    rw [← y7, ← y2, ← y0] at c3
    rcases hrn with rfl | rfl
    · rw [if_pos rfl, if_pos rfl] at c3
      exact ST_new hST g6 hk24 (by omega) m2 c3 (by rw [if_neg (by decide)]) (Or.inl rfl) ⟨hx0, hx1⟩ (by rw [g3]; exact ⟨b1, b2⟩) (by rw [en1]; omega) (by rw [en2]; omega) (Or.inl rfl)
    · rw [if_neg (by decide), if_neg (by decide)] at c3
      exact ST_new hST g6 hk24 (by omega) m2 c3 (by rw [if_pos rfl]) (Or.inl rfl) ⟨hx0, hx1⟩ (by rw [g3]; exact ⟨b1, b2⟩) (by rw [en1]; omega) (by rw [en2]; omega) (Or.inr rfl)
