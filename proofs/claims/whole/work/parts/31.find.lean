/-! PURE: the ticket's place, the same walk on both sides. -/
theorem lit_ti (n : Nat) (h : n < 2147483648) : (OfNat.ofNat n : Int32).toInt = (n : Int) := ti_nat h
/-- the tickets of both sides: rows and cells -/
def TKT (rows : Int32) (T g : Nat → Int32) (r : Nat) : Prop := rows.toInt = (r : Int) ∧ r ≤ 24 ∧ g 6 = rows ∧ ∀ i c : Nat, i < r → c < 10 → T (i * 10 + c) = g (103 + 10 * i + c)
theorem of_ticket {x : Int32} {k : Nat} (hx : x.toInt = (k : Int)) (hk : k ≤ 24) : ∃ z : Int32, f_X12_ofTicket x = some z ∧ z.toInt = ((103 + 10 * k : Nat) : Int) := by
  refine ⟨103 + 10 * x, rfl, ?_⟩
  have h1 : (10 * x).toInt = (10 : Int) * k := ti_mul (by decide) hx (by omega) (by omega)
  rw [ti_add (a := 103) (by decide) h1 (by omega) (by omega)]
  omega
theorem find_sim {rows : Int32} {T g : Nat → Int32} {r : Nat} (h : TKT rows T g r) (v : Int32) : ∀ (n k : Nat) (x : Int32), x.toInt = (k : Int) → k ≤ r → f_X6_rowWith_L2 240 10 rows T 0 v n x = f_X12_find_L2 g v n x := by
  obtain ⟨hr, hr24, h6, hc⟩ := h
  intro n
  induction n with
  | zero => intro k x hx hk; rfl
  | succ n ih =>
    intro k x hx hk
    rw [f_X6_rowWith_L2, f_X12_find_L2, rd_at (f := g) (k := 6) (i := 6) (by decide) (by decide)]
    show _ = if g 6 ≤ x then _ else _
    rw [h6]
    by_cases hq : rows ≤ x
    · rw [if_pos hq, if_pos hq]
    · rw [if_neg hq, if_neg hq]
      have hkr : k < r := by
        rw [ti_le hr hx] at hq
        omega
      obtain ⟨z, hz, hz2⟩ := of_ticket hx (by omega)
      rw [get_at (W := 10) (c := 0) (by decide) hr hx (by decide) hkr (by omega) (by decide), hz]
      show (if T (k * 10 + 0) = v then _ else _) = (rd g 463 (z + 0)).bind _
      have hz3 : (z + 0).toInt = ((103 + 10 * k : Nat) : Int) := by rw [Int32.add_zero]; exact hz2
      rw [rd_at hz3 (by omega), hc k 0 hkr (by omega)]
      show (if g (103 + 10 * k) = v then _ else _) = if g (103 + 10 * k) = v then _ else _
      by_cases hv : g (103 + 10 * k) = v
      · rw [if_pos hv, if_pos hv]
      · rw [if_neg hv, if_neg hv]
        exact ih (k + 1) (x + 1) (by rw [ti_add hx ti_one (by omega) (by omega)]; omega) hkr
theorem find_res {rows : Int32} {T g : Nat → Int32} {r : Nat} (h : TKT rows T g r) (v : Int32) : ∀ (n k : Nat) (x : Int32), x.toInt = (k : Int) → k ≤ r → r < k + n → ∃ o, f_X12_find_L2 g v n x = some o ∧ (o = -1 ∨ ∃ i : Nat, i < r ∧ o.toInt = (i : Int) ∧ g (103 + 10 * i) = v) := by
  obtain ⟨hr, hr24, h6, hc⟩ := h
  intro n
  induction n with
  | zero => intro k x hx hk hn; omega
  | succ n ih =>
    intro k x hx hk hn
    rw [f_X12_find_L2, rd_at (f := g) (k := 6) (i := 6) (by decide) (by decide)]
    show ∃ o, (if g 6 ≤ x then some (-1) else _) = some o ∧ _
    rw [h6]
    by_cases hq : rows ≤ x
    · rw [if_pos hq]
      exact ⟨-1, rfl, Or.inl rfl⟩
    · rw [if_neg hq]
      have hkr : k < r := by
        rw [ti_le hr hx] at hq
        omega
      obtain ⟨z, hz, hz2⟩ := of_ticket hx (by omega)
      have hz3 : (z + 0).toInt = ((103 + 10 * k : Nat) : Int) := by rw [Int32.add_zero]; exact hz2
      rw [hz]
      show ∃ o, ((rd g 463 (z + 0)).bind _) = some o ∧ _
      rw [rd_at hz3 (by omega)]
      show ∃ o, (if g (103 + 10 * k) = v then some x else _) = some o ∧ _
      by_cases hv : g (103 + 10 * k) = v
      · rw [if_pos hv]
        exact ⟨x, rfl, Or.inr ⟨k, hkr, hx, hv⟩⟩
      · rw [if_neg hv]
        exact ih (k + 1) (x + 1) (by rw [ti_add hx ti_one (by omega) (by omega)]; omega) hkr (by omega)
theorem find_all {rows : Int32} {T g : Nat → Int32} {r : Nat} (h : TKT rows T g r) (v : Int32) : ∃ o, f_X6_rowWith 240 10 rows T 0 v = some o ∧ f_X12_find g v = some o ∧ (o = -1 ∨ ∃ i : Nat, i < r ∧ o.toInt = (i : Int) ∧ g (103 + 10 * i) = v) := by
  have h2 := h.2.1
  obtain ⟨o, h3, h4⟩ := find_res h v 5000 0 0 (by decide) (by omega) (by omega)
  exact ⟨o, by rw [f_X6_rowWith, find_sim h v 5000 0 0 (by decide) (by omega)]; exact h3, h3, h4⟩
