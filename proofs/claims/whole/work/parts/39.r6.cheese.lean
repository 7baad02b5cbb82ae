/-! PURE: cheeses: refused alike, given alike. -/
theorem cheese_why {tm tol Rr Ur Vr Tr Er x mn : Int32} {R U V T E g g' : Nat → Int32} {tb mb r u s k e e' i : Nat} (hR : RLM Rr R g r) (hU : USR Ur U g u) (hS : SVC Vr V g s) (hT : TKT Tr T g k) (hE : USE Er E g e) (hTI : TIN tb mb g r u s k) (h1 : g 1 = tol) (hx : x.toInt = (i : Int)) (hi : i < k) (hs : ∀ j, j ≠ 0 → j ≠ 8 → j < 343 → g' j = g j) (h0 : g' 0 = tm + mn) (h8 : (g' 8).toInt = (e' : Int)) (he : e' ≤ 30) (hUD : ∀ a b c, UD g' e' 0 a b c ↔ KN g e 0 a b c (tm + mn - tol)) : ∃ a, f_X5_whyNoCheese tm tol Rr R Ur U Vr V Tr T Er E x mn = some a ∧ f_X12_whyNotCheese g' x = some a := by
  obtain ⟨-, -, b1, b2, b3, b4, b5, -⟩ := hTI i hi
  obtain ⟨o, ho, hoe⟩ := nat_of b2 b3
  obtain ⟨m, hm, hme⟩ := nat_of b4 b5
  have hr := hR.2.1
  have hu := hU.2.1
  have hk := hT.2.1
  have hs6 := hS.2.1
  have hi24 : i < 24 := by omega
  have ho6 : o < 6 := by omega
  have hm5 : m < 5 := by omega
  have q1 : rd g' 463 (103 + 10 * x + 1) = some (g (103 + 10 * i + 1)) := by rw [tM1 hx hi24, hs _ (by omega) (by omega) (by omega)]
  rcases b1 with ⟨k0, k4⟩ | ⟨k1, s1, s2⟩
  · refine ⟨1, ?_, ?_⟩
    · simp only [f_X5_whyNoCheese, tG2 hT hx hi, tG4 hT hx hi, tG1 hT hx hi, k0, ob_some]
      rw [if_neg i01']
    · simp only [f_X12_whyNotCheese, f_X12_ofTicket, q1, k0, ob_some]
      rw [if_neg i01']
  · obtain ⟨c, hc, hce⟩ := nat_of s1 s2
    have hc6 : c < 6 := by omega
    have q2 : rd g' 463 (103 + 10 * x + 2) = some (g (103 + 10 * i + 2)) := by rw [tM2 hx hi24, hs _ (by omega) (by omega) (by omega)]
    have q3 : rd g' 463 (103 + 10 * x + 3) = some (g (103 + 10 * i + 3)) := by rw [tM3 hx hi24, hs _ (by omega) (by omega) (by omega)]
    have q4 : rd g' 463 (103 + 10 * x + 4) = some (g (103 + 10 * i + 4)) := by rw [tM4 hx hi24, hs _ (by omega) (by omega) (by omega)]
    have ql : f_X12_lives g' x = some (alv (g (103 + 10 * i + 6)) (tm + mn)) := by rw [lives_m hx hi24, hs _ (by omega) (by omega) (by omega), h0]
    have qs : f_X12_isSkewed g' (g (103 + 10 * i + 2)) (g (103 + 10 * i + 3)) = some (if iabs (g (55 + 5 * o + 3) - g (10 + 4 * m + 3)) ≤ g 1 then 0 else 1) := by rw [isSkewed_m hoe ho6 hme hm5, hs _ (by omega) (by omega) (by omega), hs _ (by omega) (by omega) (by omega), hs 1 (by omega) (by omega) (by omega)]
    have qc : rd g' 463 (85 + 3 * g (103 + 10 * i + 4) + 2) = some (g (85 + 3 * c + 2)) := by rw [vM2 hce hc6, hs _ (by omega) (by omega) (by omega)]
    obtain ⟨a1, d1, d2, d3⟩ := knows_c (v1 := g (103 + 10 * i + 2)) (v2 := g (103 + 10 * i + 4)) (v3 := tm + mn + g (55 + 5 * o + 3)) (v4 := tm + mn - tol) hE
    obtain ⟨a2, f1, f2, f3⟩ := isUsed_m (g := g') (x := g (103 + 10 * i + 2)) (v2 := g (103 + 10 * i + 4)) h8 he hoe ho6
    rw [h0, hs (55 + 5 * o + 3) (by omega) (by omega) (by omega), hUD, ← d3] at f3
    have ha : a1 = a2 := by
      rcases d2 with rfl | rfl <;> rcases f2 with rfl | rfl
      · rfl
      · exact absurd (f3.mp rfl) (by decide)
      · exact absurd (f3.mpr rfl) (by decide)
      · rfl
    subst ha
    refine both_of ?_ ?_
    · simp only [f_X5_whyNoCheese, f_X12_whyNotCheese, f_X12_ofTicket, f_X12_ofService, tG2 hT hx hi, tG4 hT hx hi, tG1 hT hx hi, q1, q2, q3, q4, ql, qs, qc, k1, ob_some, alive_c hT hx hi, isSkewed_c hR hU hT h1 hx hi hoe ho hme hm, uG3 hU hoe ho, d1, f1, vG2 hS hce hc, alv_zero]
      repeat' split
      all_goals first | rfl | contradiction
    · simp only [f_X12_whyNotCheese, f_X12_ofTicket, f_X12_ofService, q1, q2, q3, q4, ql, qs, qc, k1, ob_some, f1, alv_zero]
      repeat' split
      all_goals exact fun z => nomatch z
theorem KN_UD {g : Nat → Int32} {e : Nat} (hEI : EIN g e) (h0 : 0 ≤ (g 0).toInt) (h0m : (g 0).toInt ≤ 2000000) (h1 : 0 ≤ (g 1).toInt) (h1m : (g 1).toInt ≤ 9) : ∀ a b c, UD g e 0 a b c ↔ KN g e 0 a b c (g 0 + 0 - g 1) := by
  intro a b c
  have e1 : (g 0 + 0 - g 1).toInt = (g 0).toInt - (g 1).toInt := ti_sub (by rw [Int32.add_zero]) rfl (by omega) (by omega)
  constructor
  · rintro ⟨i, i1, i2, i3, i4, i5⟩
    refine ⟨i, i1, i2, i3, i4, i5, ?_⟩
    rw [ti_lt rfl e1]
    have := (hEI i i2).1
    omega
  · rintro ⟨i, i1, i2, i3, i4, i5, -⟩
    exact ⟨i, i1, i2, i3, i4, i5⟩
/-- now -/
theorem cheese_now {tb mb : Nat} {tm tol seed made cot Rr : Int32} {R : Nat → Int32} {Ur : Int32} {U : Nat → Int32} {Vr : Int32} {V : Nat → Int32} {Tr : Int32} {T : Nat → Int32} {Er : Int32} {E : Nat → Int32} {g : Nat → Int32} {x : Int32} {i : Nat} (h : ST tb mb tm tol seed made cot Rr R Ur U Vr V Tr T Er E g) (htb : tb ≤ 1200000) (hx : x.toInt = (i : Int)) (hx1 : (i : Int) < (g 6).toInt) : ∃ a, f_X5_whyNoCheese tm tol Rr R Ur U Vr V Tr T Er E x 0 = some a ∧ f_X12_whyNotCheese g x = some a := by
  obtain ⟨r, u, s, k, e, ⟨y0, y1, y2, y7, y9⟩, ⟨hR, hR2, hR3⟩, ⟨hU, hU2⟩, ⟨hS, hS2⟩, hT, hE, ⟨z1, z2, z3, z4, z5, z6⟩, hRI, hUI, hSI, hTI, hEI, hUZ⟩ := h
  obtain ⟨g3, g4, g5, g6, g8⟩ := ST_gs (tb := 0) (mb := 0) (tm := 0) (tol := 0) (seed := 0) (made := 0) (cot := 0) hR hU hS hT hE
  refine cheese_why hR hU hS hT hE hTI y1 hx (by omega) (fun j _ _ _ => rfl) (by rw [y0, Int32.add_zero]) g8 hE.2.1 ?_
  have := KN_UD hEI z1 (by omega) z3 z4
  rw [y0, y1] at this
  exact this
theorem cheese_ok {g : Nat → Int32} {x : Int32} {i : Nat} (hx : x.toInt = (i : Int)) (hi : i < 24) (h : f_X12_whyNotCheese g x = some 0) : g (103 + 10 * i + 1) = 1 := by
  refine Classical.byContradiction fun hn => ?_
  simp only [f_X12_whyNotCheese, f_X12_ofTicket, tM1 hx hi, ob_some] at h
  rw [if_neg hn] at h
  exact absurd (Option.some.inj h) (by decide)
theorem cheese_do {tb mb : Nat} {tm tol seed made cot Rr : Int32} {R : Nat → Int32} {Ur : Int32} {U : Nat → Int32} {Vr : Int32} {V : Nat → Int32} {Tr : Int32} {T : Nat → Int32} {Er : Int32} {E : Nat → Int32} {g : Nat → Int32} {x : Int32} {i : Nat} (h : ST tb mb tm tol seed made cot Rr R Ur U Vr V Tr T Er E g) (htb : tb ≤ 1200000) (hmb : mb ≤ 2000) (hx : x.toInt = (i : Int)) (hx1 : (i : Int) < (g 6).toInt) (hk1 : g (103 + 10 * i + 1) = 1) : ∃ a U' V' Er' E' g', f_X5_giveCheese tm Ur U Vr V Tr T Er E x = some (a, U', V', Er', E') ∧ f_X12_gives g x = some (a, g') ∧ 0 ≤ a.toInt ∧ ST tb (mb + 1) tm tol seed made cot Rr R Ur U' Vr V' Tr T Er' E' g' := by
  obtain ⟨r, u, s, k, e, ⟨y0, y1, y2, y7, y9⟩, ⟨hR, hR2, hR3⟩, ⟨hU, hU2⟩, ⟨hS, hS2⟩, hT, hE, ⟨z1, z2, z3, z4, z5, z6⟩, hRI, hUI, hSI, hTI, hEI, hUZ⟩ := h
  obtain ⟨g3, g4, g5, g6, g8⟩ := ST_gs (tb := 0) (mb := 0) (tm := 0) (tol := 0) (seed := 0) (made := 0) (cot := 0) hR hU hS hT hE
  have hk24 := hT.2.1
  have hi : i < k := by omega
  have hi24 : i < 24 := by omega
  obtain ⟨-, -, t1, t2, t3, t4, t5, t6, t7, t8, t9, t10⟩ := hTI i hi
  obtain ⟨s1, s2⟩ : 0 ≤ (g (103 + 10 * i + 4)).toInt ∧ (g (103 + 10 * i + 4)).toInt < (s : Int) := by
    rcases t1 with ⟨k0, -⟩ | ⟨-, s1, s2⟩
    · rw [hk1] at k0
      exact absurd k0 (by decide)
    · exact ⟨s1, s2⟩
  obtain ⟨c, hc, hce⟩ := nat_of s1 s2
  obtain ⟨o, ho, hoe⟩ := nat_of t2 t3
  have hu := hU.2.1
  have hs6 := hS.2.1
  have hc6 : c < 6 := by omega
  have ho6 : o < 6 := by omega
  obtain ⟨w1, w2, w3, w4⟩ := hUI o ho
  have f2 : ∀ j, j ≠ 85 + 3 * c + 2 → j ≠ 55 + 5 * o + 4 → upd (upd g (85 + 3 * c + 2) (g (85 + 3 * c + 2) - 1)) (55 + 5 * o + 4) (g (55 + 5 * o + 4) + 1) j = g j := fun j h1 h2 => by rw [upd_ne h2, upd_ne h1]
  have v2 : upd (upd g (85 + 3 * c + 2) (g (85 + 3 * c + 2) - 1)) (55 + 5 * o + 4) (g (55 + 5 * o + 4) + 1) (85 + 3 * c + 2) = g (85 + 3 * c + 2) - 1 := by rw [upd_ne (by omega), upd_eq rfl]
  have v4 : upd (upd g (85 + 3 * c + 2) (g (85 + 3 * c + 2) - 1)) (55 + 5 * o + 4) (g (55 + 5 * o + 4) + 1) (55 + 5 * o + 4) = g (55 + 5 * o + 4) + 1 := upd_eq rfl
  have wr2 : wr g 463 (85 + 3 * g (103 + 10 * i + 4) + 2) (g (85 + 3 * c + 2) - 1) = some (upd g (85 + 3 * c + 2) (g (85 + 3 * c + 2) - 1)) := vW2 hce hc6
  have rd4 : rd (upd g (85 + 3 * c + 2) (g (85 + 3 * c + 2) - 1)) 463 (55 + 5 * g (103 + 10 * i + 2) + 4) = some (g (55 + 5 * o + 4)) := by rw [uM4 hoe ho6, upd_ne (by omega)]
  have wr4 : wr (upd g (85 + 3 * c + 2) (g (85 + 3 * c + 2) - 1)) 463 (55 + 5 * g (103 + 10 * i + 2) + 4) (g (55 + 5 * o + 4) + 1) = some (upd (upd g (85 + 3 * c + 2) (g (85 + 3 * c + 2) - 1)) (55 + 5 * o + 4) (g (55 + 5 * o + 4) + 1)) := uW4 hoe ho6
  generalize upd (upd g (85 + 3 * c + 2) (g (85 + 3 * c + 2) - 1)) (55 + 5 * o + 4) (g (55 + 5 * o + 4) + 1) = g2 at f2 v2 v4 wr4
  have hE2 : USE Er E g2 e := USE_fr hE (f2 8 (by omega) (by omega)) (fun j h1 h2 => f2 j (by omega) (by omega))
  have hEI2 : EIN g2 e := EIN_fr hEI hE.2.1 (f2 0 (by omega) (by omega)) (f2 1 (by omega) (by omega)) (fun j h1 h2 => f2 j (by omega) (by omega))
  obtain ⟨Er', E', g', e', d1, d2, d3, d4, d5⟩ := use_same (sv := g (103 + 10 * i + 4)) hE2 hEI2 (by rw [f2 1 (by omega) (by omega)]; exact z3) hoe ho6
  rw [f2 0 (by omega) (by omega), f2 (55 + 5 * o + 3) (by omega) (by omega)] at d1
  have ff : ∀ j, j ≠ 8 → j < 343 → j ≠ 85 + 3 * c + 2 → j ≠ 55 + 5 * o + 4 → g' j = g j := fun j h1 h2 h3 h4 => by rw [d5 j h1 (Or.inl h2), f2 j h3 h4]
  have ag : ∀ a b, 8 < a → b ≤ 343 → (b ≤ 55 ∨ 103 ≤ a ∨ (30 ≤ a ∧ b ≤ 55)) → AG a b g g' := fun a b h1 h2 h3 j h4 h5 => ff j (by omega) (by omega) (by omega) (by omega)
  have fz : ∀ j, j < 8 → g' j = g j := fun j hj => ff j (by omega) (by omega) (by omega) (by omega)
  have e9 : g' 9 = g 9 := ff 9 (by omega) (by omega) (by omega) (by omega)
  have n2 : g' (85 + 3 * c + 2) = g (85 + 3 * c + 2) - 1 := by rw [d5 _ (by omega) (Or.inl (by omega)), v2]
  have n4 : g' (55 + 5 * o + 4) = g (55 + 5 * o + 4) + 1 := by rw [d5 _ (by omega) (Or.inl (by omega)), v4]
  have a1 : (g (55 + 5 * o + 4) + 1).toInt = (g (55 + 5 * o + 4)).toInt + 1 := ti_add rfl ti_one (by omega) (by omega)
  refine ⟨g (55 + 5 * o + 4) + 1, upd U (o * 5 + 4) (g (55 + 5 * o + 4) + 1), upd V (c * 3 + 2) (g (85 + 3 * c + 2) - 1), Er', E', g', ?_, ?_, by rw [a1]; omega, r, u, s, k, e', ?_, ⟨RLM_fr hR (fz 3 (by decide)) (ag _ _ (by decide) (by decide) (by decide)), NMr_fr hR2 hR.2.1 (ag _ _ (by decide) (by decide) (by decide)), TRU_fr hR3 (ag _ _ (by decide) (by decide) (by decide))⟩, ⟨⟨hU.1, hU.2.1, by rw [fz 4 (by decide)]; exact hU.2.2.1, fun q p hq h1 hp => ?_⟩, fun q hq => ?_⟩, ⟨⟨hS.1, hS.2.1, by rw [fz 5 (by decide)]; exact hS.2.2.1, fun q p hq h1 hp => ?_⟩, fun q hq => ?_⟩, TKT_fr hT (fz 6 (by decide)) (ag _ _ (by decide) (by decide) (by decide)), d3, ?_, RIN_fr hRI hR.2.1 (ag _ _ (by decide) (by decide) (by decide)), fun q hq => ?_, fun q hq => ?_, ?_, d4, fun q hq1 hq2 => by rw [ff _ (by omega) (by omega) (by omega) (by omega)]; exact hUZ q hq1 hq2⟩
  · simp only [f_X5_giveCheese, tG2 hT hx hi, tG4 hT hx hi, uG4 hU hoe ho, uG3 hU hoe ho, ← y0, d1, vG2 hS hce hc, vS2 hS.1 hS.2.1 hce hc, uS4 hU.1 hU.2.1 hoe ho, ob_some]
  · simp only [f_X12_gives, f_X12_ofTicket, f_X12_ofService, f_X12_ofUser, tM2 hx hi24, tM4 hx hi24, vM2 hce hc6, wr2, rd4, wr4, d2, ob_some, uM4 hoe ho6, n4]
  · rw [fz 0 (by decide), fz 1 (by decide), fz 2 (by decide), fz 7 (by decide), e9]
    exact ⟨y0, y1, y2, y7, y9⟩
  · by_cases hq2 : q = o ∧ p = 4
    · rw [upd_eq (by omega), show 55 + 5 * q + p = 55 + 5 * o + 4 by omega, n4]
    · rw [upd_ne (by omega), ff _ (by omega) (by omega) (by omega) (by omega)]
      exact hU.2.2.2 q p hq h1 hp
  · rw [upd_ne (by omega), ff _ (by omega) (by omega) (by omega) (by omega)]
    exact hU2 q hq
  · by_cases hq2 : q = c ∧ p = 2
    · rw [upd_eq (by omega), show 85 + 3 * q + p = 85 + 3 * c + 2 by omega, n2]
    · rw [upd_ne (by omega), ff _ (by omega) (by omega) (by omega) (by omega)]
      exact hS.2.2.2 q p hq h1 hp
  · rw [upd_ne (by omega), ff _ (by omega) (by omega) (by omega) (by omega)]
    exact hS2 q hq
  · unfold ZIN
    rw [fz 0 (by decide), fz 1 (by decide), fz 7 (by decide)]
    exact ⟨z1, z2, z3, z4, z5, by omega⟩
  · obtain ⟨x1, x2, x3, x4⟩ := hUI q hq
    rw [ff (55 + 5 * q + 1) (by omega) (by omega) (by omega) (by omega)]
    by_cases hqo : q = o
    · rw [show 55 + 5 * q + 4 = 55 + 5 * o + 4 by omega, n4, a1]
      exact ⟨x1, x2, by omega, by omega⟩
    · rw [ff (55 + 5 * q + 4) (by omega) (by omega) (by omega) (by omega)]
      exact ⟨x1, x2, x3, by omega⟩
  · rw [ff (85 + 3 * q + 1) (by omega) (by omega) (by omega) (by omega)]
    exact hSI q hq
  · intro q hq
    obtain ⟨x1, x2, x3⟩ := TIR_of (hTI q hq) (g' := g') (i' := q) (fun c hc => ff _ (by omega) (by omega) (by omega) (by omega))
    exact ⟨x1, by omega, x3⟩
