/-! PURE: Int32 by its Int, reads and writes of arrays, the tables' own methods as plain facts. -/
theorem ti_add {x y : Int32} {a b : Int} (hx : x.toInt = a) (hy : y.toInt = b) (h1 : -2147483648 ≤ a + b) (h2 : a + b < 2147483648) : (x + y).toInt = a + b := by
  rw [Int32.toInt_add, hx, hy]
  exact Int.bmod_eq_of_le (by omega) (by omega)
theorem ti_sub {x y : Int32} {a b : Int} (hx : x.toInt = a) (hy : y.toInt = b) (h1 : -2147483648 ≤ a - b) (h2 : a - b < 2147483648) : (x - y).toInt = a - b := by
  rw [Int32.toInt_sub, hx, hy]
  exact Int.bmod_eq_of_le (by omega) (by omega)
theorem ti_mul {x y : Int32} {a b : Int} (hx : x.toInt = a) (hy : y.toInt = b) (h1 : -2147483648 ≤ a * b) (h2 : a * b < 2147483648) : (x * y).toInt = a * b := by
  rw [Int32.toInt_mul, hx, hy]
  exact Int.bmod_eq_of_le (by omega) (by omega)
theorem ti_nat {n : Nat} (h : n < 2147483648) : (Int32.ofNat n).toInt = (n : Int) := Int32.toInt_ofNat_of_lt (by omega)
theorem ti_eq {x y : Int32} (h : x.toInt = y.toInt) : x = y := Int32.toInt_inj.mp h
theorem ti_zero : (0 : Int32).toInt = 0 := by decide
theorem ti_one : (1 : Int32).toInt = 1 := by decide
theorem ti_lt {x y : Int32} {a b : Int} (hx : x.toInt = a) (hy : y.toInt = b) : x < y ↔ a < b := by rw [Int32.lt_iff_toInt_lt, hx, hy]
theorem ti_le {x y : Int32} {a b : Int} (hx : x.toInt = a) (hy : y.toInt = b) : x ≤ y ↔ a ≤ b := by rw [Int32.le_iff_toInt_le, hx, hy]
theorem ti_iff {x y : Int32} {a b : Int} (hx : x.toInt = a) (hy : y.toInt = b) : x = y ↔ a = b := by rw [← hx, ← hy, Int32.toInt_inj]
theorem ti_neg {x : Int32} {a : Int} (hx : x.toInt = a) (h : 0 ≤ a) : ¬ x < 0 := by
  rw [ti_lt hx ti_zero]
  omega
theorem ti_clamp {x : Int32} {n : Nat} (hx : x.toInt = (n : Int)) : x.toNatClampNeg = n := by
  show x.toInt.toNat = n
  rw [hx]
  rfl
theorem rd_at {f : Nat → Int32} {L k : Nat} {i : Int32} (h : i.toInt = (k : Int)) (hk : k < L) : rd f L i = some (f k) := by
  unfold rd
  rw [ti_clamp h, if_neg]
  rintro (h1 | h1)
  · exact ti_neg h (by omega) h1
  · omega
theorem wr_at {f : Nat → Int32} {L k : Nat} {i v : Int32} (h : i.toInt = (k : Int)) (hk : k < L) : wr f L i v = some (fun j => if j = k then v else f j) := by
  unfold wr
  rw [ti_clamp h, if_neg]
  · rfl
  rintro (h1 | h1)
  · exact ti_neg h (by omega) h1
  · omega
/-- an index that is neither below nor above is a row -/
theorem row_of {v rows : Int32} {r : Nat} (hr : rows.toInt = (r : Int)) (h0 : ¬ v < 0) (h1 : ¬ rows ≤ v) : ∃ k : Nat, k < r ∧ v.toInt = (k : Int) := by
  have h2 : 0 ≤ v.toInt := by
    have := h0
    rw [Int32.lt_iff_toInt_lt, ti_zero] at this
    omega
  have h3 : v.toInt < (r : Int) := by
    have := h1
    rw [Int32.le_iff_toInt_le, hr] at this
    omega
  exact ⟨v.toInt.toNat, by omega, by omega⟩
theorem get_at {tn r W i c : Nat} {w rows x y : Int32} {f : Nat → Int32} (hw : w.toInt = (W : Int)) (hr : rows.toInt = (r : Int)) (hx : x.toInt = (i : Int)) (hy : y.toInt = (c : Int)) (hi : i < r) (hp : i * W + c < tn) (ht : tn < 2147483648) : f_X6_get tn w rows f x y = some (f (i * W + c)) := by
  have hm : (x * w).toInt = (i : Int) * W := ti_mul hx hw (by have := Int.mul_nonneg (Int.natCast_nonneg i) (Int.natCast_nonneg W); omega) (by have : ((i * W : Nat) : Int) = (i : Int) * W := Int.natCast_mul i W; omega)
  have hz : ((i * W : Nat) : Int) = (i : Int) * W := Int.natCast_mul i W
  have hq : (x * w + y).toInt = ((i * W + c : Nat) : Int) := by
    rw [ti_add hm hy (by omega) (by omega)]
    omega
  unfold f_X6_get
  rw [if_neg (ti_neg hx (by omega)), if_neg (by rw [ti_le hr hx]; omega), if_neg (ti_neg hq (by omega)), if_neg (by rw [ti_le (ti_nat ht) hq]; omega)]
  show (if (1 : Int32) = 0 then some 0 else (rd f tn (x * w + y)).bind fun x2 => some x2) = _
  rw [if_neg (by decide), rd_at hq hp]
  rfl
theorem has_row {tn r k : Nat} {rows v : Int32} (hr : rows.toInt = (r : Int)) (hv : v.toInt = (k : Int)) (hk : k < r) : f_X6_has tn rows v = some 1 := by
  unfold f_X6_has
  rw [if_neg (ti_neg hv (by omega)), if_neg (by rw [ti_le hr hv]; omega)]
theorem has_not {tn : Nat} {rows v : Int32} (h : v < 0 ∨ rows ≤ v) : f_X6_has tn rows v = some 0 := by
  unfold f_X6_has
  by_cases h0 : v < 0
  · rw [if_pos h0]
  · rw [if_neg h0, if_pos (h.resolve_left h0)]
