/-! PURE: refusals: the class and the reference refuse alike. -/
theorem both_of {α : Type} {A B : Option α} (h : A = B) (hn : ¬ B = none) : ∃ a, A = some a ∧ B = some a := by
  match B, hn with
  | some b, _ => exact ⟨b, h, rfl⟩
theorem abs_ite (d : Int32) : (if 0 ≤ d then some d else some (-d)) = some (iabs d) := by
  unfold iabs
  by_cases h : 0 ≤ d
  · rw [if_pos h, if_pos h]
  · rw [if_neg h, if_neg h, Int32.zero_sub]
theorem i10 : ((1 : Int32) = 0) = False := eq_false (by decide)
theorem i20 : ((2 : Int32) = 0) = False := eq_false (by decide)
theorem i30 : ((3 : Int32) = 0) = False := eq_false (by decide)
theorem i40 : ((4 : Int32) = 0) = False := eq_false (by decide)
theorem i50 : ((5 : Int32) = 0) = False := eq_false (by decide)
theorem i60 : ((6 : Int32) = 0) = False := eq_false (by decide)
theorem i01 : ((0 : Int32) = 1) = False := eq_false (by decide)
theorem im0 : ((-1 : Int32) = 0) = False := eq_false (by decide)
theorem full_iff {rows : Int32} {T g : Nat → Int32} {k : Nat} (h : TKT rows T g k) : (g 6 = 24) ↔ ¬ rows < 24 := by
  obtain ⟨h1, h2, h3, -⟩ := h
  rw [h3, ti_iff (b := 24) h1 (by decide), ti_lt (b := 24) h1 (by decide)]
  omega
theorem full_at {rows : Int32} {T g : Nat → Int32} {k : Nat} (h : TKT rows T g k) : f_X6_isFull 240 24 rows = some (if g 6 = 24 then 1 else 0) := by
  unfold f_X6_isFull
  by_cases hq : rows < 24
  · rw [if_pos hq, if_neg (fun e => (full_iff h).mp e hq)]
  · rw [if_neg hq, if_pos ((full_iff h).mpr hq)]
theorem skew_m {x y : Int32} {g : Nat → Int32} {i j : Nat} (hx : x.toInt = (i : Int)) (hi : i < 6) (hy : y.toInt = (j : Int)) (hj : j < 5) : f_X12_skewOf g x y = some (iabs (g (55 + 5 * i + 3) - g (10 + 4 * j + 3))) := by
  simp only [f_X12_skewOf, f_X12_ofUser, f_X12_ofRealm, ob_some, uM3 hx hi, rM3 hy hj, abs_ite]
theorem skew_c {x y Ur Rr : Int32} {U R g : Nat → Int32} {u r i j : Nat} (hU : USR Ur U g u) (hR : RLM Rr R g r) (hx : x.toInt = (i : Int)) (hi : i < u) (hy : y.toInt = (j : Int)) (hj : j < r) : f_X5_skewOf Rr R Ur U x y = some (iabs (g (55 + 5 * i + 3) - g (10 + 4 * j + 3))) := by
  simp only [f_X5_skewOf, ob_some, uG3 hU hx hi, rG3 hR hy hj]
theorem isSkewed_m {x y : Int32} {g : Nat → Int32} {i j : Nat} (hx : x.toInt = (i : Int)) (hi : i < 6) (hy : y.toInt = (j : Int)) (hj : j < 5) : f_X12_isSkewed g x y = some (if iabs (g (55 + 5 * i + 3) - g (10 + 4 * j + 3)) ≤ g 1 then 0 else 1) := by
  simp only [f_X12_isSkewed, ob_some, skew_m hx hi hy hj, zM1]
  grind
theorem login_why {tol Ur Rr Tr x pw : Int32} {U R T g : Nat → Int32} {mb u r k i : Nat} (hU : USR Ur U g u) (hR : RLM Rr R g r) (hT : TKT Tr T g k) (hUI : UIN mb g r u) (h1 : g 1 = tol) (hx : x.toInt = (i : Int)) (hi : i < u) : ∃ a, f_X5_whyNoLogin tol Rr R Ur U Tr x pw = some a ∧ f_X12_whyNotLogin g x pw = some a := by
  obtain ⟨b1, b2, -⟩ := hUI i hi
  obtain ⟨h, hh, hhe⟩ := nat_of b1 b2
  have hi6 : i < 6 := by have := hU.2.1; omega
  have hh5 : h < 5 := by have := hR.2.1; omega
  refine both_of ?_ ?_
  · simp only [f_X5_whyNoLogin, f_X12_whyNotLogin, f_X12_ofUser, ob_some, uG2 hU hx hi, uM2 hx hi6, uG1 hU hx hi, uM1 hx hi6, skew_c hU hR hx hi hhe hh, isSkewed_m hx hi6 hhe hh5, full_at hT, zM6, h1]
    grind
  · simp only [f_X12_whyNotLogin, f_X12_ofUser, ob_some, uM2 hx hi6, uM1 hx hi6, isSkewed_m hx hi6 hhe hh5, zM6]
    grind
