/-! PURE: what changes the tickets alone; renewals, passwords, clocks. -/
theorem ST_tick {tb mb : Nat} {tm tol seed made cot Rr : Int32} {R : Nat → Int32} {Ur : Int32} {U : Nat → Int32} {Vr : Int32} {V : Nat → Int32} {Tr : Int32} {T : Nat → Int32} {Er : Int32} {E : Nat → Int32} {g : Nat → Int32} {seed' made' Tr' : Int32} {T' g' : Nat → Int32} {mb' : Nat} (h : ST tb mb tm tol seed made cot Rr R Ur U Vr V Tr T Er E g) (hmb : mb ≤ mb') (hf : ∀ j, j ≠ 2 → j ≠ 6 → j ≠ 7 → (j < 103 ∨ 343 ≤ j) → g' j = g j) (h2 : g' 2 = seed') (h7 : g' 7 = made') (h70 : 0 ≤ made'.toInt) (h7m : made'.toInt ≤ (mb' : Int)) (hTT : ∀ r u s k : Nat, (g 3).toInt = (r : Int) → (g 4).toInt = (u : Int) → (g 5).toInt = (s : Int) → TKT Tr T g k → TIN tb mb g r u s k → ∃ k', TKT Tr' T' g' k' ∧ TIN tb mb' g' r u s k') : ST tb mb' tm tol seed' made' cot Rr R Ur U Vr V Tr' T' Er E g' := by
  obtain ⟨r, u, s, k, e, ⟨y0, y1, y2, y7, y9⟩, ⟨hR, hR2, hR3⟩, ⟨hU, hU2⟩, ⟨hS, hS2⟩, hT, hE, ⟨z1, z2, z3, z4, z5, z6⟩, hRI, hUI, hSI, hTI, hEI, hUZ⟩ := h
  obtain ⟨g3, g4, g5, g6, g8⟩ := ST_gs (tb := 0) (mb := 0) (tm := 0) (tol := 0) (seed := 0) (made := 0) (cot := 0) hR hU hS hT hE
  obtain ⟨k', hT', hTI'⟩ := hTT r u s k g3 g4 g5 hT hTI
  have ag : ∀ a b, 7 < a → b ≤ 103 → AG a b g g' := fun a b ha hb j h1 h2 => hf j (by omega) (by omega) (by omega) (Or.inl (by omega))
  have ag2 : AG 343 463 g g' := fun j h1 h2 => hf j (by omega) (by omega) (by omega) (Or.inr (by omega))
  have e0 := hf 0 (by decide) (by decide) (by decide) (Or.inl (by decide))
  have e1 := hf 1 (by decide) (by decide) (by decide) (Or.inl (by decide))
  have e3 := hf 3 (by decide) (by decide) (by decide) (Or.inl (by decide))
  have e4 := hf 4 (by decide) (by decide) (by decide) (Or.inl (by decide))
  have e5 := hf 5 (by decide) (by decide) (by decide) (Or.inl (by decide))
  have e8 := hf 8 (by decide) (by decide) (by decide) (Or.inl (by decide))
  have e9 := hf 9 (by decide) (by decide) (by decide) (Or.inl (by decide))
  have hUI2 : UIN mb' g r u := fun i hi => by
    obtain ⟨w1, w2, w3, w4⟩ := hUI i hi
    exact ⟨w1, w2, w3, by omega⟩
  refine ⟨r, u, s, k', e, ?_, ⟨RLM_fr hR e3 (ag _ _ (by decide) (by decide)), NMr_fr hR2 hR.2.1 (ag _ _ (by decide) (by decide)), TRU_fr hR3 (ag _ _ (by decide) (by decide))⟩, ⟨USR_fr hU e4 (ag _ _ (by decide) (by decide)), NMu_fr hU2 hU.2.1 (ag _ _ (by decide) (by decide))⟩, ⟨SVC_fr hS e5 (ag _ _ (by decide) (by decide)), NMs_fr hS2 hS.2.1 (ag _ _ (by decide) (by decide))⟩, hT', USE_fr hE e8 ag2, ?_, RIN_fr hRI hR.2.1 (ag _ _ (by decide) (by decide)), UIN_fr hUI2 hU.2.1 (ag _ _ (by decide) (by decide)), SIN_fr hSI hS.2.1 (ag _ _ (by decide) (by decide)), hTI', EIN_fr hEI hE.2.1 e0 e1 ag2, UZ_fr hUZ (ag _ _ (by decide) (by decide))⟩
  · rw [e0, e1, e9]
    exact ⟨y0, y1, h2, h7, y9⟩
  · unfold ZIN
    rw [e0, e1, h7]
    exact ⟨z1, z2, z3, z4, h70, h7m⟩
theorem renew_do {tb mb : Nat} {tm tol seed made cot Rr : Int32} {R : Nat → Int32} {Ur : Int32} {U : Nat → Int32} {Vr : Int32} {V : Nat → Int32} {Tr : Int32} {T : Nat → Int32} {Er : Int32} {E : Nat → Int32} {g : Nat → Int32} {x : Int32} {i : Nat} (h : ST tb mb tm tol seed made cot Rr R Ur U Vr V Tr T Er E g) (htb : tb ≤ 1200000) (hx : x.toInt = (i : Int)) (hx1 : (i : Int) < (g 6).toInt) : ∃ en seed' T' g', f_X5_makeRenewal tm seed Rr R Tr T x = some (en, seed', T') ∧ f_X12_renews g x = some (en, g') ∧ 0 ≤ en.toInt ∧ ST tb mb tm tol seed' made cot Rr R Ur U Vr V Tr T' Er E g' := by
  have hST := h
  obtain ⟨r, u, s, k, e, ⟨y0, y1, y2, y7, y9⟩, ⟨hR, hR2, hR3⟩, ⟨hU, hU2⟩, ⟨hS, hS2⟩, hT, hE, ⟨z1, z2, z3, z4, z5, z6⟩, hRI, hUI, hSI, hTI, hEI, hUZ⟩ := h
  obtain ⟨g3, g4, g5, g6, g8⟩ := ST_gs (tb := 0) (mb := 0) (tm := 0) (tol := 0) (seed := 0) (made := 0) (cot := 0) hR hU hS hT hE
  have hr5 := hR.2.1
  have hk24 := hT.2.1
  have hi : i < k := by omega
  have hi24 : i < 24 := by omega
  obtain ⟨-, -, t1, t2, t3, t4, t5, t6, t7, t8, t9, t10⟩ := hTI i hi
  obtain ⟨j, hj, hy⟩ := nat_of t4 t5
  have hj5 : j < 5 := by omega
  obtain ⟨l1, l2, l3, l4⟩ := hRI j hj
  have en1 : (g 0 + g (10 + 4 * j + 1)).toInt = (g 0).toInt + (g (10 + 4 * j + 1)).toInt := ti_add rfl rfl (by omega) (by omega)
  obtain ⟨p1, -, -, p4⟩ := imin_rng (x := g 0 + g (10 + 4 * j + 1)) (y := g (103 + 10 * i + 7)) (a := 0) (b := 4000000) (by rw [en1]; omega) (by rw [en1]; omega) t8 t9
  generalize hen : imin (g 0 + g (10 + 4 * j + 1)) (g (103 + 10 * i + 7)) = en at p1 p4
  refine ⟨en, irm (21 * seed + 7) 1024, upd (upd T (i * 10 + 6) en) (i * 10 + 8) (irm (21 * seed + 7) 1024), upd (upd (upd g (103 + 10 * i + 6) en) 2 (irm (21 * seed + 7) 1024)) (103 + 10 * i + 8) (irm (21 * seed + 7) 1024), ?_, ?_, p1 (by omega), ?_⟩
  · simp only [f_X5_makeRenewal, f_X5_drawKey, renewedEnd_c hR hT y0 hx hi hy hj, hen, ob_some, tS6 hT.1 hk24 hx hi, tS8 hT.1 hk24 hx hi]
  · simp only [f_X12_renews, f_X12_drawKey, f_X12_ofTicket, newEnd_m hx hi24 hy hj5, hen, ob_some, tW6 hx hi24, tW8 hx hi24, zM2, zW2, tM6 hx hi24]
    simp (disch := omega) only [upd_ne, upd_eq, y2]
  · refine ST_tick hST (Nat.le_refl mb) (fun j h1 h2 h3 h4 => by simp (disch := omega) only [upd_ne]) (by simp (disch := omega) only [upd_ne, upd_eq]) (by simp (disch := omega) only [upd_ne]; exact y7) (by rw [← y7]; exact z5) (by rw [← y7]; exact z6) (fun r' u' s' k' x3 x4 x5 xT xTI => ⟨k', ?_, ?_⟩)
    · obtain ⟨a1, a2, a3, a4⟩ := xT
      refine ⟨a1, a2, by simp (disch := omega) only [upd_ne]; exact a3, fun q c hq hc => ?_⟩
      by_cases h8 : q = i ∧ c = 8
      · rw [upd_eq (by omega), upd_eq (by omega)]
      · by_cases h6 : q = i ∧ c = 6
        · simp (disch := omega) only [upd_ne, upd_eq]
        · simp (disch := omega) only [upd_ne]
          exact a4 q c hq hc
    · intro q hq
      by_cases hqi : q = i
      · have w := xTI q hq
        subst hqi
        obtain ⟨w1, w2, w3, w4, w5, w6, w7, w8, w9, w10, w11, w12⟩ := w
        simp (disch := omega) only [upd_ne, upd_eq]
        exact ⟨w1, w2, w3, w4, w5, w6, w7, p1 (by omega), p4, w10, w11, w12⟩
      · exact TIR_of (xTI q hq) (fun c hc => by simp (disch := omega) only [upd_ne])
theorem set_password {tb mb : Nat} {tm tol seed made cot Rr : Int32} {R : Nat → Int32} {Ur : Int32} {U : Nat → Int32} {Vr : Int32} {V : Nat → Int32} {Tr : Int32} {T : Nat → Int32} {Er : Int32} {E : Nat → Int32} {g : Nat → Int32} {x v : Int32} {i : Nat} (h : ST tb mb tm tol seed made cot Rr R Ur U Vr V Tr T Er E g) (hx : x.toInt = (i : Int)) (hx1 : (i : Int) < (g 4).toInt) : ∃ a U' g', f_X6_get 30 5 Ur U x 2 = some a ∧ f_X6_set 30 5 Ur U x 2 v = some U' ∧ rd g 463 (55 + 5 * x + 2) = some a ∧ wr g 463 (55 + 5 * x + 2) v = some g' ∧ ST tb mb tm tol seed made cot Rr R Ur U' Vr V Tr T Er E g' := by
  obtain ⟨r, u, s, k, e, ⟨y0, y1, y2, y7, y9⟩, ⟨hR, hR2, hR3⟩, ⟨hU, hU2⟩, ⟨hS, hS2⟩, hT, hE, ⟨z1, z2, z3, z4, z5, z6⟩, hRI, hUI, hSI, hTI, hEI, hUZ⟩ := h
  obtain ⟨g3, g4, g5, g6, g8⟩ := ST_gs (tb := 0) (mb := 0) (tm := 0) (tol := 0) (seed := 0) (made := 0) (cot := 0) hR hU hS hT hE
  have hi : i < u := by omega
  have hu6 := hU.2.1
  have hi6 : i < 6 := by omega
  have hf : ∀ j, j ≠ 55 + 5 * i + 2 → upd g (55 + 5 * i + 2) v j = g j := fun j hj => upd_ne hj
  have ag : ∀ a b, (b ≤ 55 ∨ 85 ≤ a) → AG a b g (upd g (55 + 5 * i + 2) v) := fun a b hb j h1 h2 => hf j (by omega)
  refine ⟨_, _, _, uG2 hU hx hi, uS2 hU.1 hU.2.1 hx hi, uM2 hx hi6, uW2 hx hi6, r, u, s, k, e, ?_, ⟨RLM_fr hR (hf _ (by omega)) (ag _ _ (by decide)), NMr_fr hR2 hR.2.1 (ag _ _ (by decide)), TRU_fr hR3 (ag _ _ (by decide))⟩, ⟨⟨hU.1, hU.2.1, by rw [hf _ (by omega)]; exact hU.2.2.1, fun q c hq h1 hc => ?_⟩, fun q hq => ?_⟩, ⟨SVC_fr hS (hf _ (by omega)) (ag _ _ (by decide)), NMs_fr hS2 hS.2.1 (ag _ _ (by decide))⟩, TKT_fr hT (hf _ (by omega)) (ag _ _ (by decide)), USE_fr hE (hf _ (by omega)) (ag _ _ (by decide)), ?_, RIN_fr hRI hR.2.1 (ag _ _ (by decide)), ?_, SIN_fr hSI hS.2.1 (ag _ _ (by decide)), TIN_fr hTI hT.2.1 (ag _ _ (by decide)), EIN_fr hEI hE.2.1 (hf _ (by omega)) (hf _ (by omega)) (ag _ _ (by decide)), fun q hq1 hq2 => by rw [hf _ (by omega)]; exact hUZ q hq1 hq2⟩
  · rw [hf 0 (by omega), hf 1 (by omega), hf 2 (by omega), hf 7 (by omega), hf 9 (by omega)]
    exact ⟨y0, y1, y2, y7, y9⟩
  · by_cases h8 : q = i ∧ c = 2
    · rw [upd_eq (by omega), upd_eq (by omega)]
    · rw [upd_ne (by omega), upd_ne (by omega)]
      exact hU.2.2.2 q c hq h1 hc
  · rw [upd_ne (by omega), upd_ne (by omega)]
    exact hU2 q hq
  · unfold ZIN
    rw [hf 0 (by omega), hf 1 (by omega), hf 7 (by omega)]
    exact ⟨z1, z2, z3, z4, z5, z6⟩
  · intro q hq
    rw [hf _ (by omega), hf _ (by omega)]
    exact hUI q hq
theorem set_clock {tb mb : Nat} {tm tol seed made cot Rr : Int32} {R : Nat → Int32} {Ur : Int32} {U : Nat → Int32} {Vr : Int32} {V : Nat → Int32} {Tr : Int32} {T : Nat → Int32} {Er : Int32} {E : Nat → Int32} {g : Nat → Int32} {x v : Int32} {i : Nat} (h : ST tb mb tm tol seed made cot Rr R Ur U Vr V Tr T Er E g) (hx : x.toInt = (i : Int)) (hx1 : (i : Int) < (g 4).toInt) : ∃ a U' g', f_X6_get 30 5 Ur U x 3 = some a ∧ f_X6_set 30 5 Ur U x 3 v = some U' ∧ rd g 463 (55 + 5 * x + 3) = some a ∧ wr g 463 (55 + 5 * x + 3) v = some g' ∧ ST tb mb tm tol seed made cot Rr R Ur U' Vr V Tr T Er E g' := by
  obtain ⟨r, u, s, k, e, ⟨y0, y1, y2, y7, y9⟩, ⟨hR, hR2, hR3⟩, ⟨hU, hU2⟩, ⟨hS, hS2⟩, hT, hE, ⟨z1, z2, z3, z4, z5, z6⟩, hRI, hUI, hSI, hTI, hEI, hUZ⟩ := h
  obtain ⟨g3, g4, g5, g6, g8⟩ := ST_gs (tb := 0) (mb := 0) (tm := 0) (tol := 0) (seed := 0) (made := 0) (cot := 0) hR hU hS hT hE
  have hi : i < u := by omega
  have hu6 := hU.2.1
  have hi6 : i < 6 := by omega
  have hf : ∀ j, j ≠ 55 + 5 * i + 3 → upd g (55 + 5 * i + 3) v j = g j := fun j hj => upd_ne hj
  have ag : ∀ a b, (b ≤ 55 ∨ 85 ≤ a) → AG a b g (upd g (55 + 5 * i + 3) v) := fun a b hb j h1 h2 => hf j (by omega)
  refine ⟨_, _, _, uG3 hU hx hi, uS3 hU.1 hU.2.1 hx hi, uM3 hx hi6, uW3 hx hi6, r, u, s, k, e, ?_, ⟨RLM_fr hR (hf _ (by omega)) (ag _ _ (by decide)), NMr_fr hR2 hR.2.1 (ag _ _ (by decide)), TRU_fr hR3 (ag _ _ (by decide))⟩, ⟨⟨hU.1, hU.2.1, by rw [hf _ (by omega)]; exact hU.2.2.1, fun q c hq h1 hc => ?_⟩, fun q hq => ?_⟩, ⟨SVC_fr hS (hf _ (by omega)) (ag _ _ (by decide)), NMs_fr hS2 hS.2.1 (ag _ _ (by decide))⟩, TKT_fr hT (hf _ (by omega)) (ag _ _ (by decide)), USE_fr hE (hf _ (by omega)) (ag _ _ (by decide)), ?_, RIN_fr hRI hR.2.1 (ag _ _ (by decide)), ?_, SIN_fr hSI hS.2.1 (ag _ _ (by decide)), TIN_fr hTI hT.2.1 (ag _ _ (by decide)), EIN_fr hEI hE.2.1 (hf _ (by omega)) (hf _ (by omega)) (ag _ _ (by decide)), fun q hq1 hq2 => by rw [hf _ (by omega)]; exact hUZ q hq1 hq2⟩
  · rw [hf 0 (by omega), hf 1 (by omega), hf 2 (by omega), hf 7 (by omega), hf 9 (by omega)]
    exact ⟨y0, y1, y2, y7, y9⟩
  · by_cases h8 : q = i ∧ c = 3
    · rw [upd_eq (by omega), upd_eq (by omega)]
    · rw [upd_ne (by omega), upd_ne (by omega)]
      exact hU.2.2.2 q c hq h1 hc
  · rw [upd_ne (by omega), upd_ne (by omega)]
    exact hU2 q hq
  · unfold ZIN
    rw [hf 0 (by omega), hf 1 (by omega), hf 7 (by omega)]
    exact ⟨z1, z2, z3, z4, z5, z6⟩
  · intro q hq
    rw [hf _ (by omega), hf _ (by omega)]
    exact hUI q hq
