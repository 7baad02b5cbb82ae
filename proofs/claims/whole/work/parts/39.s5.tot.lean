/-! PURE: the class refuses for every row, also for none. -/
theorem get_tot {tn : Nat} {w rows x y : Int32} {f : Nat → Int32} (ht : tn < 2147483648) : ∃ a, f_X6_get tn w rows f x y = some a := by
  unfold f_X6_get
  by_cases h1 : x < 0
  · rw [if_pos h1]; exact ⟨0, rfl⟩
  · rw [if_neg h1]
    by_cases h2 : rows ≤ x
    · rw [if_pos h2]; exact ⟨0, rfl⟩
    · rw [if_neg h2]
      generalize hz : x * w + y = z
      by_cases h3 : z < 0
      · rw [if_pos h3]; exact ⟨0, rfl⟩
      · rw [if_neg h3]
        by_cases h4 : Int32.ofNat tn ≤ z
        · rw [if_pos h4]; exact ⟨0, rfl⟩
        · rw [if_neg h4, ob_some, if_neg n10]
          have h5 : z.toInt = ((z.toInt.toNat : Nat) : Int) := by
            rw [Int32.lt_iff_toInt_lt, ti_zero] at h3
            omega
          have h6 : z.toInt.toNat < tn := by
            rw [ti_le (ti_nat ht) rfl] at h4
            omega
          rw [rd_at h5 h6]
          exact ⟨_, rfl⟩
theorem whyNoLogin_tot (tol Rr : Int32) (R : Nat → Int32) (Ur : Int32) (U : Nat → Int32) (Tr x pw : Int32) : ∃ a, f_X5_whyNoLogin tol Rr R Ur U Tr x pw = some a := by
  obtain ⟨o1, h1⟩ := get_tot (tn := 30) (w := 5) (rows := Ur) (x := x) (y := 2) (f := U) (by decide)
  obtain ⟨o2, h2⟩ := get_tot (tn := 30) (w := 5) (rows := Ur) (x := x) (y := 1) (f := U) (by decide)
  obtain ⟨o3, h3⟩ := get_tot (tn := 30) (w := 5) (rows := Ur) (x := x) (y := 3) (f := U) (by decide)
  obtain ⟨o4, h4⟩ := get_tot (tn := 25) (w := 5) (rows := Rr) (x := o2) (y := 3) (f := R) (by decide)
  simp only [f_X5_whyNoLogin, f_X5_skewOf, isFull_v, h1, h2, h3, h4, ob_some, if_some]
  exact ⟨_, rfl⟩
theorem hasTrust_tot (Rr : Int32) (R : Nat → Int32) (x y : Int32) : ∃ a, f_X2_hasTrust Rr R x y = some a := by
  obtain ⟨o1, h1⟩ := get_tot (tn := 25) (w := 5) (rows := Rr) (x := x) (y := 4) (f := R) (by decide)
  simp only [f_X2_hasTrust, h1, ob_some, if_some]
  exact ⟨_, rfl⟩
theorem isAlive_tot (Tr : Int32) (T : Nat → Int32) (x tm : Int32) : ∃ a, f_X7_isAlive Tr T x tm = some a := by
  obtain ⟨o1, h1⟩ := get_tot (tn := 240) (w := 10) (rows := Tr) (x := x) (y := 6) (f := T) (by decide)
  simp only [f_X7_isAlive, h1, ob_some, if_some]
  exact ⟨_, rfl⟩
theorem isSkewed_tot (tol Rr : Int32) (R : Nat → Int32) (Ur : Int32) (U : Nat → Int32) (Tr : Int32) (T : Nat → Int32) (x : Int32) : ∃ a, f_X5_isSkewed tol Rr R Ur U Tr T x = some a := by
  obtain ⟨o1, h1⟩ := get_tot (tn := 240) (w := 10) (rows := Tr) (x := x) (y := 2) (f := T) (by decide)
  obtain ⟨o2, h2⟩ := get_tot (tn := 240) (w := 10) (rows := Tr) (x := x) (y := 3) (f := T) (by decide)
  obtain ⟨o3, h3⟩ := get_tot (tn := 30) (w := 5) (rows := Ur) (x := o1) (y := 3) (f := U) (by decide)
  obtain ⟨o4, h4⟩ := get_tot (tn := 25) (w := 5) (rows := Rr) (x := o2) (y := 3) (f := R) (by decide)
  simp only [f_X5_isSkewed, f_X5_skewOf, h1, h2, h3, h4, ob_some, if_some]
  exact ⟨_, rfl⟩
theorem whyNoReferral_tot (tm tol Rr : Int32) (R : Nat → Int32) (Ur : Int32) (U : Nat → Int32) (Tr : Int32) (T : Nat → Int32) (x y : Int32) : ∃ a, f_X5_whyNoReferral tm tol Rr R Ur U Tr T x y = some a := by
  obtain ⟨o1, h1⟩ := get_tot (tn := 240) (w := 10) (rows := Tr) (x := x) (y := 1) (f := T) (by decide)
  obtain ⟨o2, h2⟩ := isAlive_tot Tr T x tm
  obtain ⟨o3, h3⟩ := get_tot (tn := 240) (w := 10) (rows := Tr) (x := x) (y := 3) (f := T) (by decide)
  obtain ⟨o4, h4⟩ := hasTrust_tot Rr R o3 y
  obtain ⟨o5, h5⟩ := isSkewed_tot tol Rr R Ur U Tr T x
  simp only [f_X5_whyNoReferral, isFull_v, h1, h2, h3, h4, h5, ob_some, if_some]
  exact ⟨_, rfl⟩
theorem whyNoRequest_tot (tm tol Rr : Int32) (R : Nat → Int32) (Ur : Int32) (U : Nat → Int32) (Vr : Int32) (V : Nat → Int32) (Tr : Int32) (T : Nat → Int32) (x y : Int32) : ∃ a, f_X5_whyNoRequest tm tol Rr R Ur U Vr V Tr T x y = some a := by
  obtain ⟨o1, h1⟩ := get_tot (tn := 240) (w := 10) (rows := Tr) (x := x) (y := 1) (f := T) (by decide)
  obtain ⟨o2, h2⟩ := isAlive_tot Tr T x tm
  obtain ⟨o3, h3⟩ := get_tot (tn := 240) (w := 10) (rows := Tr) (x := x) (y := 3) (f := T) (by decide)
  obtain ⟨o4, h4⟩ := get_tot (tn := 18) (w := 3) (rows := Vr) (x := y) (y := 1) (f := V) (by decide)
  obtain ⟨o5, h5⟩ := isSkewed_tot tol Rr R Ur U Tr T x
  simp only [f_X5_whyNoRequest, isFull_v, h1, h2, h3, h4, h5, ob_some, if_some]
  exact ⟨_, rfl⟩
theorem whyNoRenewal_tot (tm Rr : Int32) (R : Nat → Int32) (Tr : Int32) (T : Nat → Int32) (x : Int32) : ∃ a, f_X5_whyNoRenewal tm Rr R Tr T x = some a := by
  obtain ⟨o1, h1⟩ := get_tot (tn := 240) (w := 10) (rows := Tr) (x := x) (y := 9) (f := T) (by decide)
  obtain ⟨o2, h2⟩ := isAlive_tot Tr T x tm
  obtain ⟨o3, h3⟩ := get_tot (tn := 240) (w := 10) (rows := Tr) (x := x) (y := 3) (f := T) (by decide)
  obtain ⟨o4, h4⟩ := get_tot (tn := 25) (w := 5) (rows := Rr) (x := o3) (y := 1) (f := R) (by decide)
  obtain ⟨o5, h5⟩ := get_tot (tn := 240) (w := 10) (rows := Tr) (x := x) (y := 7) (f := T) (by decide)
  obtain ⟨o6, h6⟩ := get_tot (tn := 240) (w := 10) (rows := Tr) (x := x) (y := 6) (f := T) (by decide)
  simp only [f_X5_whyNoRenewal, f_X7_canBeRenewed, f_X5_renewedEnd, h1, h2, h3, h4, h5, h6, ob_some, if_some]
  exact ⟨_, rfl⟩
theorem whyNoCheese_tot (tm tol Rr : Int32) (R : Nat → Int32) (Ur : Int32) (U : Nat → Int32) (Vr : Int32) (V : Nat → Int32) (Tr : Int32) (T : Nat → Int32) {Er : Int32} {E g : Nat → Int32} {e : Nat} (hE : USE Er E g e) (x y : Int32) : ∃ a, f_X5_whyNoCheese tm tol Rr R Ur U Vr V Tr T Er E x y = some a := by
  obtain ⟨o1, h1⟩ := get_tot (tn := 240) (w := 10) (rows := Tr) (x := x) (y := 2) (f := T) (by decide)
  obtain ⟨o2, h2⟩ := get_tot (tn := 240) (w := 10) (rows := Tr) (x := x) (y := 4) (f := T) (by decide)
  obtain ⟨o3, h3⟩ := get_tot (tn := 240) (w := 10) (rows := Tr) (x := x) (y := 1) (f := T) (by decide)
  obtain ⟨o4, h4⟩ := isAlive_tot Tr T x (tm + y)
  obtain ⟨o5, h5⟩ := isSkewed_tot tol Rr R Ur U Tr T x
  obtain ⟨o6, h6⟩ := get_tot (tn := 30) (w := 5) (rows := Ur) (x := o1) (y := 3) (f := U) (by decide)
  obtain ⟨o7, h7, -⟩ := knows_c (v1 := o1) (v2 := o2) (v3 := tm + y + o6) (v4 := tm + y - tol) hE
  obtain ⟨o8, h8⟩ := get_tot (tn := 18) (w := 3) (rows := Vr) (x := o2) (y := 2) (f := V) (by decide)
  simp only [f_X5_whyNoCheese, h1, h2, h3, h4, h5, h6, h7, h8, ob_some, if_some]
  exact ⟨_, rfl⟩
