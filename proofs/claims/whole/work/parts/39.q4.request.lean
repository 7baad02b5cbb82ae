/-! PURE: requests. -/
theorem request_do {tb mb : Nat} {tm tol seed made cot Rr : Int32} {R : Nat → Int32} {Ur : Int32} {U : Nat → Int32} {Vr : Int32} {V : Nat → Int32} {Tr : Int32} {T : Nat → Int32} {Er : Int32} {E : Nat → Int32} {g : Nat → Int32} {x y : Int32} {i : Nat} (h : ST tb mb tm tol seed made cot Rr R Ur U Vr V Tr T Er E g) (htb : tb ≤ 1200000) (hmb : mb ≤ 2000) (hx : x.toInt = (i : Int)) (hx1 : (i : Int) < (g 6).toInt) (hy0 : 0 ≤ y.toInt) (hy1 : y.toInt < (g 5).toInt) (hf : ¬ g 6 = 24) : ∃ nu seed' made' Tr' T' g', f_X5_makeRequest tm seed made Rr R Tr T x y = some (nu, seed', made', Tr', T') ∧ f_X12_derive g x (g (103 + 10 * i + 3)) y = some (nu, g') ∧ 0 ≤ nu.toInt ∧ ST tb (mb + 1) tm tol seed' made' cot Rr R Ur U Vr V Tr' T' Er E g' := by
  have hST := h
  obtain ⟨r, u, s, k, e, ⟨y0, y1, y2, y7, y9⟩, ⟨hR, hR2, hR3⟩, ⟨hU, hU2⟩, ⟨hS, hS2⟩, hT, hE, ⟨z1, z2, z3, z4, z5, z6⟩, hRI, hUI, hSI, hTI, hEI⟩ := h
  obtain ⟨g3, g4, g5, g6, g8⟩ := ST_gs (tb := 0) (mb := 0) (tm := 0) (tol := 0) (seed := 0) (made := 0) (cot := 0) hR hU hS hT hE
  have hr5 := hR.2.1
  have hu6 := hU.2.1
  have hk24 : k < 24 := by
    have h1 := hT.2.1
    have h2 : ¬ (k : Int) = 24 := fun z => hf ((ti_iff g6 (by decide)).mpr z)
    omega
  have hi : i < k := by omega
  have hi24 : i < 24 := by omega
  obtain ⟨-, -, t1, t2, t3, t4, t5, t6, t7, t8, t9, t10⟩ := hTI i hi
  obtain ⟨j, hj, hy⟩ := nat_of t4 t5
  have hyn : ¬ y = -1 := fun e => by
    rw [e] at hy0
    exact absurd hy0 (by decide)
  have hj5 : j < 5 := by omega
  obtain ⟨l1, l2, l3, l4⟩ := hRI j hj
  have hr1 : (Tr + 1).toInt = ((k + 1 : Nat) : Int) := ti_inc hT.1 (by omega)
  obtain ⟨T1, c1, c2⟩ := makeTicket_c (tm := tm) (seed := seed) (made := made) (ow := g (103 + 10 * i + 2)) (re := g (103 + 10 * i + 3)) (sv := y) (T := T) hT.1 hk24
  obtain ⟨T2, d1, d2⟩ := inherit_c hR hT hk24 y0 hx hi hy hj t10 c2
  obtain ⟨g', m1, m2⟩ := make_m (g := g) (ow := g (103 + 10 * i + 2)) (re := g (103 + 10 * i + 3)) (sv := y) (en := imin (g 0 + g (10 + 4 * j + 1)) (g (103 + 10 * i + 6))) (la := imin (g 0 + g (10 + 4 * j + 2)) (g (103 + 10 * i + 7))) (rn := g (103 + 10 * i + 9)) g6 hk24
  have en1 : (g 0 + g (10 + 4 * j + 1)).toInt = (g 0).toInt + (g (10 + 4 * j + 1)).toInt := ti_add rfl rfl (by omega) (by omega)
  have en2 : (g 0 + g (10 + 4 * j + 2)).toInt = (g 0).toInt + (g (10 + 4 * j + 2)).toInt := ti_add rfl rfl (by omega) (by omega)
  obtain ⟨p1, -, -, p4⟩ := imin_rng (x := g 0 + g (10 + 4 * j + 1)) (y := g (103 + 10 * i + 6)) (a := 0) (b := 4000000) (by rw [en1]; omega) (by rw [en1]; omega) t6 t7
  obtain ⟨q1, -, -, q4⟩ := imin_rng (x := g 0 + g (10 + 4 * j + 2)) (y := g (103 + 10 * i + 7)) (a := 0) (b := 4000000) (by rw [en2]; omega) (by rw [en2]; omega) t8 t9
  refine ⟨g 7, irm (21 * seed + 7) 1024, made + 1, Tr + 1, T2, g', ?_, ?_, z5, ?_⟩
  · simp only [f_X5_makeRequest, tG2 hT hx hi, tG3 hT hx hi, c1, d1, ob_some, tR0 hr1 (show k + 1 ≤ 24 by omega) hT.1 (show k < k + 1 by omega)]
    rw [d2.1, y7]
  · simp only [f_X12_derive, f_X12_ofTicket, f_X12_ofRealm, ob_some, lesser_i, zM0, rM1 hy hj5, rM2 hy hj5, tM6 hx hi24, tM7 hx hi24, tM2 hx hi24, tM9 hx hi24, m1]
  · have c3 := d2
    rw [← y7, ← y2, ← y0] at c3
    exact ST_new hST g6 hk24 (by omega) m2 c3 rfl (Or.inr ⟨hy0, hy1⟩) (by rw [g4]; exact ⟨t2, t3⟩) (by rw [g3]; exact ⟨t4, t5⟩) ⟨p1 (by omega), p4⟩ ⟨q1 (by omega), q4⟩ t10
