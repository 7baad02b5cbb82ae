/-! PURE: realms, trust, users and services added on both sides. -/
theorem addRow_in {tn : Nat} {lim rows : Int32} {L k : Nat} (hl : lim.toInt = (L : Int)) (hr : rows.toInt = (k : Int)) (hk : k < L) : f_X6_addRow tn lim rows = some (rows, rows + 1) := by
  unfold f_X6_addRow
  rw [if_pos (by rw [ti_lt hr hl]; omega), Int32.add_sub_cancel]
theorem UIN_up {mb : Nat} {g : Nat → Int32} {r u : Nat} (h : UIN mb g r u) : UIN mb g (r + 1) u := fun i hi => by
  obtain ⟨a, b, c, d⟩ := h i hi
  exact ⟨a, by omega, c, d⟩
theorem SIN_up {g : Nat → Int32} {r s : Nat} (h : SIN g r s) : SIN g (r + 1) s := fun i hi => by
  obtain ⟨a, b⟩ := h i hi
  exact ⟨a, by omega⟩
theorem TIN_upr {tb mb : Nat} {g : Nat → Int32} {r u s k : Nat} (h : TIN tb mb g r u s k) : TIN tb mb g (r + 1) u s k := fun i hi => by
  obtain ⟨a1, a2, a3, a4, a5, a6, a7, a8⟩ := h i hi
  exact ⟨a1, a2, a3, a4, a5, a6, by omega, a8⟩
theorem TIN_upu {tb mb : Nat} {g : Nat → Int32} {r u s k : Nat} (h : TIN tb mb g r u s k) : TIN tb mb g r (u + 1) s k := fun i hi => by
  obtain ⟨a1, a2, a3, a4, a5, a6⟩ := h i hi
  exact ⟨a1, a2, a3, a4, by omega, a6⟩
theorem TIN_ups {tb mb : Nat} {g : Nat → Int32} {r u s k : Nat} (h : TIN tb mb g r u s k) : TIN tb mb g r u (s + 1) k := fun i hi => by
  obtain ⟨a1, a2, a3, a4⟩ := h i hi
  refine ⟨a1, a2, ?_, a4⟩
  rcases a3 with a3 | ⟨b1, b2, b3⟩
  · exact Or.inl a3
  · exact Or.inr ⟨b1, b2, by omega⟩
theorem realm_do {tb mb : Nat} {tm tol seed made cot Rr : Int32} {R : Nat → Int32} {Ur : Int32} {U : Nat → Int32} {Vr : Int32} {V : Nat → Int32} {Tr : Int32} {T : Nat → Int32} {Er : Int32} {E : Nat → Int32} {g : Nat → Int32} {nc nm li re off : Int32} (h : ST tb mb tm tol seed made cot Rr R Ur U Vr V Tr T Er E g) (hr4 : (g 3).toInt < 5) (hN : NAME nc nm) (hl : 1 ≤ li.toInt ∧ li.toInt ≤ 999) (hre : 0 ≤ re.toInt ∧ re.toInt ≤ 9999) : ∃ Rr' R' g', f_X2_addRealm Rr R nc li re off = some (Rr', R') ∧ (wr g 463 (10 + 4 * g 3 + 0) nm).bind (fun g12 => (wr g12 463 (10 + 4 * g 3 + 1) li).bind fun g13 => (wr g13 463 (10 + 4 * g 3 + 2) re).bind fun g14 => (wr g14 463 (10 + 4 * g 3 + 3) off).bind fun g15 => (rd g15 463 3).bind fun x16 => (wr g15 463 3 (x16 + 1)).bind fun g17 => some g17) = some g' ∧ ST tb mb tm tol seed made cot Rr' R' Ur U Vr V Tr T Er E g' := by
  obtain ⟨r, u, s, k, e, ⟨y0, y1, y2, y7, y9⟩, ⟨hR, hR2, hR3⟩, ⟨hU, hU2⟩, ⟨hS, hS2⟩, hT, hE, ⟨z1, z2, z3, z4, z5, z6⟩, hRI, hUI, hSI, hTI, hEI, hUZ⟩ := h
  obtain ⟨g3, g4, g5, g6, g8⟩ := ST_gs (tb := 0) (mb := 0) (tm := 0) (tol := 0) (seed := 0) (made := 0) (cot := 0) hR hU hS hT hE
  have hr5 : r < 5 := by omega
  have e3 : g 3 = Rr := hR.2.2.1
  have hr1 : (Rr + 1).toInt = ((r + 1 : Nat) : Int) := ti_inc hR.1 (by omega)
  have h5 : r + 1 ≤ 5 := by omega
  have hrr : r < r + 1 := by omega
  have hfr : ∀ j, j ≠ 3 → (j < 10 + 4 * r ∨ 10 + 4 * r + 4 ≤ j) → upd (upd (upd (upd (upd g (10 + 4 * r + 0) nm) (10 + 4 * r + 1) li) (10 + 4 * r + 2) re) (10 + 4 * r + 3) off) 3 (g 3 + 1) j = g j := fun j h1 h2 => by simp (disch := omega) only [upd_ne]
  have n0 : upd (upd (upd (upd (upd g (10 + 4 * r + 0) nm) (10 + 4 * r + 1) li) (10 + 4 * r + 2) re) (10 + 4 * r + 3) off) 3 (g 3 + 1) (10 + 4 * r + 0) = nm := by simp (disch := omega) only [upd_ne, upd_eq]
  have n1 : upd (upd (upd (upd (upd g (10 + 4 * r + 0) nm) (10 + 4 * r + 1) li) (10 + 4 * r + 2) re) (10 + 4 * r + 3) off) 3 (g 3 + 1) (10 + 4 * r + 1) = li := by simp (disch := omega) only [upd_ne, upd_eq]
  have n2 : upd (upd (upd (upd (upd g (10 + 4 * r + 0) nm) (10 + 4 * r + 1) li) (10 + 4 * r + 2) re) (10 + 4 * r + 3) off) 3 (g 3 + 1) (10 + 4 * r + 2) = re := by simp (disch := omega) only [upd_ne, upd_eq]
  have n3 : upd (upd (upd (upd (upd g (10 + 4 * r + 0) nm) (10 + 4 * r + 1) li) (10 + 4 * r + 2) re) (10 + 4 * r + 3) off) 3 (g 3 + 1) (10 + 4 * r + 3) = off := by simp (disch := omega) only [upd_ne, upd_eq]
  have nz : upd (upd (upd (upd (upd g (10 + 4 * r + 0) nm) (10 + 4 * r + 1) li) (10 + 4 * r + 2) re) (10 + 4 * r + 3) off) 3 (g 3 + 1) 3 = g 3 + 1 := upd_eq rfl
  refine ⟨Rr + 1, upd (upd (upd (upd (upd R (r * 5 + 0) nc) (r * 5 + 1) li) (r * 5 + 2) re) (r * 5 + 3) off) (r * 5 + 4) 0, upd (upd (upd (upd (upd g (10 + 4 * r + 0) nm) (10 + 4 * r + 1) li) (10 + 4 * r + 2) re) (10 + 4 * r + 3) off) 3 (g 3 + 1), ?_, ?_, ?_⟩
  · simp only [f_X2_addRealm, addRow_in (tn := 25) (lim := 5) (L := 5) (by decide) hR.1 hr5, ob_some, rS0 hr1 h5 hR.1 hrr, rS1 hr1 h5 hR.1 hrr, rS2 hr1 h5 hR.1 hrr, rS3 hr1 h5 hR.1 hrr, rS4 hr1 h5 hR.1 hrr]
  · simp only [rW0 g3 hr5, rW1 g3 hr5, rW2 g3 hr5, rW3 g3 hr5, zM3, zW3, ob_some]
    simp (disch := omega) only [upd_ne]
  · generalize upd (upd (upd (upd (upd g (10 + 4 * r + 0) nm) (10 + 4 * r + 1) li) (10 + 4 * r + 2) re) (10 + 4 * r + 3) off) 3 (g 3 + 1) = g' at hfr n0 n1 n2 n3 nz
    have ag : ∀ a b, 30 ≤ a → AG a b g g' := fun a b h1 j h2 h3 => hfr j (by omega) (by omega)
    have fz : ∀ j, j ≠ 3 → j < 10 → g' j = g j := fun j h1 h2 => hfr j h1 (by omega)
    refine ⟨r + 1, u, s, k, e, ?_, ⟨⟨hr1, h5, by rw [nz, e3], fun q c hq h1 hc => ?_⟩, fun q hq => ?_, ?_⟩, ⟨USR_fr hU (fz 4 (by decide) (by decide)) (ag _ _ (by decide)), NMu_fr hU2 hU.2.1 (ag _ _ (by decide))⟩, ⟨SVC_fr hS (fz 5 (by decide) (by decide)) (ag _ _ (by decide)), NMs_fr hS2 hS.2.1 (ag _ _ (by decide))⟩, TKT_fr hT (fz 6 (by decide) (by decide)) (ag _ _ (by decide)), USE_fr hE (fz 8 (by decide) (by decide)) (ag _ _ (by decide)), ?_, fun q hq => ?_, UIN_up (UIN_fr hUI hU.2.1 (ag _ _ (by decide))), SIN_up (SIN_fr hSI hS.2.1 (ag _ _ (by decide))), TIN_upr (TIN_fr hTI hT.2.1 (ag _ _ (by decide))), EIN_fr hEI hE.2.1 (fz 0 (by decide) (by decide)) (fz 1 (by decide) (by decide)) (ag _ _ (by decide)), UZ_fr hUZ (ag _ _ (by decide))⟩
    · rw [fz 0 (by decide) (by decide), fz 1 (by decide) (by decide), fz 2 (by decide) (by decide), fz 7 (by decide) (by decide), fz 9 (by decide) (by decide)]
      exact ⟨y0, y1, y2, y7, y9⟩
    · by_cases hqr : q = r
      · subst hqr
        rcases (show c = 1 ∨ c = 2 ∨ c = 3 by omega) with rfl | rfl | rfl
        · rw [n1]; simp (disch := omega) only [upd_ne, upd_eq]
        · rw [n2]; simp (disch := omega) only [upd_ne, upd_eq]
        · rw [n3]; simp (disch := omega) only [upd_ne, upd_eq]
      · rw [hfr _ (by omega) (by omega)]
        simp (disch := omega) only [upd_ne]
        exact hR.2.2.2 q c (by omega) h1 hc
    · by_cases hqr : q = r
      · subst hqr
        rw [n0]
        simp (disch := omega) only [upd_ne, upd_eq]
        exact hN
      · rw [hfr _ (by omega) (by omega)]
        simp (disch := omega) only [upd_ne]
        exact hR2 q (by omega)
    · obtain ⟨mk, m1, m2⟩ := hR3
      refine ⟨fun i => if i = r then 0 else mk i, fun i hi => ?_, fun i j hi hj => ?_⟩
      · by_cases hir : i = r
        · subst hir
          show _ = Int32.ofNat (if i = i then 0 else mk i) ∧ (if i = i then 0 else mk i) < _
          rw [if_pos rfl]
          exact ⟨by rw [upd_eq rfl]; rfl, Nat.two_pow_pos _⟩
        · show _ = Int32.ofNat (if i = r then 0 else mk i) ∧ (if i = r then 0 else mk i) < _
          rw [if_neg hir]
          obtain ⟨w1, w2⟩ := m1 i (by omega)
          refine ⟨by simp (disch := omega) only [upd_ne]; exact w1, Nat.lt_of_lt_of_le w2 (Nat.pow_le_pow_right (n := 2) (by decide) (by omega))⟩
      · rw [hfr _ (by omega) (by omega), m2 i j hi hj]
        show _ = if i < r + 1 ∧ (if i = r then 0 else mk i).testBit j = true then 1 else 0
        by_cases hir : i = r
        · rw [if_pos hir, Nat.zero_testBit, if_neg (fun z => by omega), if_neg (fun z => nomatch z.2)]
        · rw [if_neg hir]
          by_cases hc : i < r ∧ (mk i).testBit j = true
          · rw [if_pos hc, if_pos ⟨by omega, hc.2⟩]
          · rw [if_neg hc, if_neg (fun z => hc ⟨by omega, z.2⟩)]
    · unfold ZIN
      rw [fz 0 (by decide) (by decide), fz 1 (by decide) (by decide), fz 7 (by decide) (by decide)]
      exact ⟨z1, z2, z3, z4, z5, z6⟩
    · by_cases hqr : q = r
      · subst hqr
        rw [n1, n2]
        exact ⟨hl.1, hl.2, hre.1, hre.2⟩
      · rw [hfr _ (by omega) (by omega), hfr _ (by omega) (by omega)]
        exact hRI q (by omega)
theorem trust_do {tb mb : Nat} {tm tol seed made cot Rr : Int32} {R : Nat → Int32} {Ur : Int32} {U : Nat → Int32} {Vr : Int32} {V : Nat → Int32} {Tr : Int32} {T : Nat → Int32} {Er : Int32} {E : Nat → Int32} {g : Nat → Int32} {x y : Int32} {i j : Nat} (h : ST tb mb tm tol seed made cot Rr R Ur U Vr V Tr T Er E g) (hx : x.toInt = (i : Int)) (hx1 : (i : Int) < (g 3).toInt) (hy : y.toInt = (j : Int)) (hy1 : (j : Int) < (g 3).toInt) : ∃ R' g', f_X2_addTrust Rr R x y = some R' ∧ wr g 463 (30 + 5 * x + y) 1 = some g' ∧ ST tb mb tm tol seed made cot Rr R' Ur U Vr V Tr T Er E g' := by
  obtain ⟨r, u, s, k, e, ⟨y0, y1, y2, y7, y9⟩, ⟨hR, hR2, hR3⟩, ⟨hU, hU2⟩, ⟨hS, hS2⟩, hT, hE, ⟨z1, z2, z3, z4, z5, z6⟩, hRI, hUI, hSI, hTI, hEI, hUZ⟩ := h
  obtain ⟨g3, g4, g5, g6, g8⟩ := ST_gs (tb := 0) (mb := 0) (tm := 0) (tol := 0) (seed := 0) (made := 0) (cot := 0) hR hU hS hT hE
  have hr5 := hR.2.1
  have hi : i < r := by omega
  have hj : j < r := by omega
  have hj5 : j < 5 := by omega
  have hi5 : i < 5 := by omega
  obtain ⟨mk, m1, m2⟩ := hR3
  obtain ⟨w1, w2⟩ := m1 i hi
  have hp := pow_le_32 hr5
  have hget : f_X6_get 25 5 Rr R x 4 = some (Int32.ofNat (mk i)) := by rw [rR4 hR.1 hr5 hx hi, w1]
  have hbit : (1 : Int32) <<< (y &&& 31) = Int32.ofNat (2 ^ j) := by rw [ofNat_of hy]; exact one_shl j hj5
  have h2j : 2 ^ j < 2 ^ r := Nat.pow_lt_pow_right (by decide) hj
  have hor : Int32.ofNat (mk i) ||| Int32.ofNat (2 ^ j) = Int32.ofNat (mk i ||| 2 ^ j) := or_dec _ (Nat.lt_of_lt_of_le w2 hp) _ (Nat.lt_of_lt_of_le h2j hp)
  have hwr : wr g 463 (30 + 5 * x + y) 1 = some (upd g (30 + 5 * i + j) 1) := wr_to (off_ti (aff_ti (B := 30) (W := 5) (by decide) (by decide) hx (by omega)) hy (by omega)) (by omega)
  have hfr : ∀ q, q ≠ 30 + 5 * i + j → upd g (30 + 5 * i + j) 1 q = g q := fun q hq => upd_ne hq
  have ag : ∀ a b, (b ≤ 30 ∨ 55 ≤ a) → AG a b g (upd g (30 + 5 * i + j) 1) := fun a b h1 q h2 h3 => hfr q (by omega)
  have fz : ∀ q, q < 10 → upd g (30 + 5 * i + j) 1 q = g q := fun q h1 => hfr q (by omega)
  refine ⟨upd R (i * 5 + 4) (Int32.ofNat (mk i ||| 2 ^ j)), upd g (30 + 5 * i + j) 1, ?_, hwr, r, u, s, k, e, ?_, ⟨⟨hR.1, hr5, by rw [fz 3 (by decide)]; exact hR.2.2.1, fun q c hq h1 hc => ?_⟩, fun q hq => ?_, fun q => if q = i then mk i ||| 2 ^ j else mk q, fun q hq => ?_, fun q c hq hc => ?_⟩, ⟨USR_fr hU (fz 4 (by decide)) (ag _ _ (by decide)), NMu_fr hU2 hU.2.1 (ag _ _ (by decide))⟩, ⟨SVC_fr hS (fz 5 (by decide)) (ag _ _ (by decide)), NMs_fr hS2 hS.2.1 (ag _ _ (by decide))⟩, TKT_fr hT (fz 6 (by decide)) (ag _ _ (by decide)), USE_fr hE (fz 8 (by decide)) (ag _ _ (by decide)), ?_, RIN_fr hRI hr5 (ag _ _ (by decide)), UIN_fr hUI hU.2.1 (ag _ _ (by decide)), SIN_fr hSI hS.2.1 (ag _ _ (by decide)), TIN_fr hTI hT.2.1 (ag _ _ (by decide)), EIN_fr hEI hE.2.1 (fz 0 (by decide)) (fz 1 (by decide)) (ag _ _ (by decide)), UZ_fr hUZ (ag _ _ (by decide))⟩
  · simp only [f_X2_addTrust, hget, hbit, hor, ob_some, rS4 hR.1 hr5 hx hi]
  · rw [fz 0 (by decide), fz 1 (by decide), fz 2 (by decide), fz 7 (by decide), fz 9 (by decide)]
    exact ⟨y0, y1, y2, y7, y9⟩
  · rw [upd_ne (by omega), hfr _ (by omega)]
    exact hR.2.2.2 q c hq h1 hc
  · rw [upd_ne (by omega), hfr _ (by omega)]
    exact hR2 q hq
  · show _ = Int32.ofNat (if q = i then mk i ||| 2 ^ j else mk q) ∧ (if q = i then mk i ||| 2 ^ j else mk q) < _
    by_cases hqi : q = i
    · rw [if_pos hqi, upd_eq (by omega)]
      exact ⟨rfl, Nat.or_lt_two_pow w2 h2j⟩
    · rw [if_neg hqi, upd_ne (by omega)]
      exact m1 q hq
  · show _ = if q < r ∧ (if q = i then mk i ||| 2 ^ j else mk q).testBit c = true then 1 else 0
    by_cases hqi : q = i
    · subst hqi
      rw [if_pos rfl, Nat.testBit_or]
      by_cases hcj : c = j
      · subst hcj
        rw [upd_eq rfl, if_pos ⟨hi, by rw [Nat.testBit_two_pow_self, Bool.or_true]⟩]
      · rw [hfr _ (by omega), m2 q c hq hc, Nat.testBit_two_pow_of_ne (fun z => hcj z.symm), Bool.or_false]
    · rw [if_neg hqi, hfr _ (by omega), m2 q c hq hc]
  · unfold ZIN
    rw [fz 0 (by decide), fz 1 (by decide), fz 7 (by decide)]
    exact ⟨z1, z2, z3, z4, z5, z6⟩
