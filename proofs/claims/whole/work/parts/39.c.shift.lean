/-! PURE: rows that are taken out: everything behind moves up. -/
def shf (f : Nat → Int32) (a b w : Nat) : Nat → Int32 := fun j => if a ≤ j ∧ j < b then f (j + w) else f j
theorem shf_in {f : Nat → Int32} {a b w j : Nat} (h1 : a ≤ j) (h2 : j < b) : shf f a b w j = f (j + w) := if_pos ⟨h1, h2⟩
theorem shf_lo {f : Nat → Int32} {a b w j : Nat} (h : j < a) : shf f a b w j = f j := if_neg (fun z => by omega)
theorem shf_hi {f : Nat → Int32} {a b w j : Nat} (h : b ≤ j) : shf f a b w j = f j := if_neg (fun z => by omega)
theorem shf_step {f : Nat → Int32} {a b w : Nat} (hw : 0 < w) (hab : a < b) : shf (upd f a (f (a + w))) (a + 1) b w = shf f a b w := by
  funext j
  by_cases h1 : j = a
  · rw [shf_lo (by omega), upd_eq h1, shf_in (by omega) (by omega), h1]
  · by_cases h2 : a ≤ j ∧ j < b
    · rw [shf_in (by omega) h2.2, shf_in h2.1 h2.2, upd_ne (by omega)]
    · by_cases h3 : j < a
      · rw [shf_lo (by omega), shf_lo h3, upd_ne h1]
      · rw [shf_hi (by omega), shf_hi (by omega), upd_ne h1]
theorem shf_none {f : Nat → Int32} {a b w : Nat} (h : b ≤ a) : shf f a b w = f := by
  funext j
  by_cases h2 : a ≤ j
  · exact shf_hi (by omega)
  · exact shf_lo (by omega)
theorem remove_L {tn W r : Nat} {w rows : Int32} (hw : w.toInt = (W : Int)) (hW : 0 < W) (hr : rows.toInt = (r : Int)) (h1 : 1 ≤ r) (ht : r * W ≤ tn) (htn : tn < 100000) : ∀ (n p : Nat) (f : Nat → Int32) (x : Int32), x.toInt = (p : Int) → (r - 1) * W < p + n → p ≤ (r - 1) * W → f_X6_removeRow_L20 tn w rows n f x = some (shf f p ((r - 1) * W) W) := by
  have hm : (r - 1) * W + W = r * W := by
    have : r - 1 + 1 = r := by omega
    rw [← Nat.succ_mul]
    exact congrArg (· * W) this
  have hr1 : (rows - 1).toInt = ((r - 1 : Nat) : Int) := by rw [ti_sub hr ti_one (by omega) (by have := Int32.toInt_lt rows; omega)]; omega
  have hz : ((((r - 1) * W : Nat)) : Int) = ((r - 1 : Nat) : Int) * W := Int.natCast_mul (r - 1) W
  have hb : ((rows - 1) * w).toInt = (((r - 1) * W : Nat) : Int) := by
    rw [ti_mul hr1 hw (by omega) (by omega), hz]
  intro n
  induction n with
  | zero => intro p f x hx hn hp; omega
  | succ n ih =>
    intro p f x hx hn hp
    rw [f_X6_removeRow_L20]
    by_cases hq : (rows - 1) * w ≤ x
    · rw [if_pos hq]
      have : (r - 1) * W ≤ p := by
        rw [ti_le hb hx] at hq
        omega
      rw [shf_none this]
    · rw [if_neg hq]
      have hlt : p < (r - 1) * W := by
        rw [ti_le hb hx] at hq
        omega
      have hxw : (x + w).toInt = ((p + W : Nat) : Int) := by
        rw [ti_add hx hw (by omega) (by omega)]
        omega
      rw [if_neg (ti_neg hx (by omega)), if_neg (by rw [ti_le (ti_nat (by omega)) hx]; omega), if_neg (ti_neg hxw (by omega)), if_neg (by rw [ti_le (ti_nat (by omega)) hxw]; omega), rd_at hxw (by omega)]
      show (wr f tn x (f (p + W))).bind _ = _
      rw [wr_to hx (by omega)]
      show f_X6_removeRow_L20 tn w rows n (upd f p (f (p + W))) (x + 1) = _
      rw [ih (p + 1) _ (x + 1) (by rw [ti_add hx ti_one (by omega) (by omega)]; omega) (by omega) (by omega), shf_step hW hlt]
theorem remove_at {tn W r i : Nat} {w rows x : Int32} {f : Nat → Int32} (hw : w.toInt = (W : Int)) (hW : 0 < W) (hr : rows.toInt = (r : Int)) (hx : x.toInt = (i : Int)) (hi : i < r) (ht : r * W ≤ tn) (htn : tn < 5000) : f_X6_removeRow tn w rows f x = some (rows - 1, shf f (i * W) ((r - 1) * W) W) := by
  have h3 : i * W ≤ (r - 1) * W := Nat.mul_le_mul_right W (by omega)
  have h4 : (r - 1) * W ≤ r * W := Nat.mul_le_mul_right W (by omega)
  have hm : (x * w).toInt = ((i * W : Nat) : Int) := by
    have hz : ((i * W : Nat) : Int) = (i : Int) * W := Int.natCast_mul i W
    rw [ti_mul hx hw (by omega) (by omega), hz]
  unfold f_X6_removeRow
  rw [if_neg (ti_neg hx (by omega)), if_pos (by rw [ti_lt hx hr]; omega), remove_L hw hW hr (by omega) ht (by omega) 5000 (i * W) f _ hm (by omega) h3]
  rfl
theorem drops_L {k : Nat} (hk : k ≤ 23) : ∀ (n p : Nat) (f : Nat → Int32) (x : Int32), (f 6).toInt = (k : Int) → x.toInt = (p : Int) → 103 + 10 * k < p + n → 103 ≤ p → p ≤ 103 + 10 * k → f_X12_drops_L13 n f x = some (shf f p (103 + 10 * k) 10) := by
  intro n
  induction n with
  | zero => intro p f x h6 hx hn hp hp2; omega
  | succ n ih =>
    intro p f x h6 hx hn hp hp2
    have hb : (103 + 10 * f 6).toInt = ((103 + 10 * k : Nat) : Int) := aff_ti (by decide) (by decide) h6 (by omega)
    rw [f_X12_drops_L13]
    simp only [zM6, f_X12_ofTicket, ob_some]
    by_cases hq : 103 + 10 * f 6 ≤ x
    · rw [if_pos hq]
      have : 103 + 10 * k ≤ p := by
        rw [ti_le hb hx] at hq
        omega
      rw [shf_none this]
    · rw [if_neg hq]
      have hlt : p < 103 + 10 * k := by
        rw [ti_le hb hx] at hq
        omega
      rw [rd_at (k := p + 10) (by rw [ti_add hx (b := 10) (by decide) (by omega) (by omega)]; omega) (by omega)]
      show (wr f 463 x (f (p + 10))).bind _ = _
      rw [wr_to hx (by omega)]
      show f_X12_drops_L13 n (upd f p (f (p + 10))) (x + 1) = _
      rw [ih (p + 1) _ (x + 1) (by rw [upd_ne (by omega)]; exact h6) (by rw [ti_add hx ti_one (by omega) (by omega)]; omega) (by omega) (by omega) (by omega), shf_step (by omega) hlt]
theorem drops_m {g : Nat → Int32} {x : Int32} {k i : Nat} (h6 : (g 6).toInt = (k : Int)) (hk : k ≤ 24) (hx : x.toInt = (i : Int)) (hi : i < k) : f_X12_drops g x = some (g 6 - 1, shf (upd g 6 (g 6 - 1)) (103 + 10 * i) (103 + 10 * (k - 1)) 10) := by
  have h61 : (g 6 - 1).toInt = ((k - 1 : Nat) : Int) := by rw [ti_sub h6 ti_one (by omega) (by omega)]; omega
  have h6u : (upd g 6 (g 6 - 1) 6) = g 6 - 1 := upd_eq rfl
  simp only [f_X12_drops, zM6, zW6, f_X12_ofTicket, ob_some]
  rw [drops_L (k := k - 1) (by omega) 5000 (103 + 10 * i) (upd g 6 (g 6 - 1)) (103 + 10 * x) (by rw [h6u]; exact h61) (aff_ti (by decide) (by decide) hx (by omega)) (by omega) (by omega) (by omega)]
  simp only [zM6, ob_some]
  rw [shf_lo (by omega), h6u]
