/-! PURE: a ticket by its index, a realm's clock. -/
theorem ticketAt_same {rows v th : Int32} {T g : Nat → Int32} {r : Nat} (h : TKT rows T g r) : ∃ (ox : Nat × Int32) (om : Int32 × Int32), f_X11_ticketAt rows T v = some ox ∧ (ox.1 = 0 ∨ ox.1 = 1) ∧ f_X12_ticketAt th g v = some om ∧ om.2 = hcd [1] ox.1 ∧ (ox.1 = 0 → ox.2 = om.1) := by
  obtain ⟨hr, hr24, h6, hc⟩ := h
  have h6r : (g 6).toInt = (r : Int) := by rw [h6]; exact hr
  by_cases hq : v < 0 ∨ rows ≤ v
  · refine ⟨(1, 0), (0, 1), ?_, Or.inr rfl, ?_, rfl, fun h => nomatch h⟩
    · unfold f_X11_ticketAt
      rw [has_not hq]
      rfl
    · unfold f_X12_ticketAt
      rw [rd_at (k := 6) (by decide) (by decide), Option.bind_some, noNumber_out (by rw [h6]; exact hq.imp id (below_one hr).mpr)]
      rfl
  · have h1 : ¬ v < 0 := fun z => hq (Or.inl z)
    have h2 : ¬ rows ≤ v := fun z => hq (Or.inr z)
    obtain ⟨k, hk, hv⟩ := row_of hr h1 h2
    refine ⟨(0, T (k * 10 + 0)), (g (103 + 10 * k + 0), 0), ?_, Or.inl rfl, ?_, rfl, fun _ => hc k 0 hk (by decide)⟩
    · unfold f_X11_ticketAt
      rw [has_row hr hv hk]
      show ((f_X6_get 240 10 rows T v 0).bind _) = _
      rw [get_at (W := 10) (c := 0) (by decide) hr hv (by decide) hk (by omega) (by decide)]
      rfl
    · unfold f_X12_ticketAt
      rw [rd_at (k := 6) (by decide) (by decide), Option.bind_some, noNumber_in h1 (by rw [h6]; exact fun h => h2 ((below_one hr).mp h))]
      show ((rd g 463 (103 + 10 * v + 0)).bind _) = _
      rw [rd_at (off_ti (aff_ti (B := 103) (W := 10) (by decide) (by decide) hv (by omega)) (C := 0) (by decide) (by omega)) (by omega)]
      rfl
theorem clock_same {rows v th tm : Int32} {R g : Nat → Int32} {r : Nat} (h : RLM rows R g r) (ht : g 0 = tm) : ∃ (ox : Nat × Int32) (om : Int32 × Int32), f_X11_clockOf tm rows R v = some ox ∧ (ox.1 = 0 ∨ ox.1 = 1) ∧ f_X12_clockOf th g v = some om ∧ om.2 = hcd [1] ox.1 ∧ (ox.1 = 0 → ox.2 = om.1) := by
  obtain ⟨hr, hr5, h3, hc⟩ := h
  have h3r : (g 3).toInt = (r : Int) := by rw [h3]; exact hr
  by_cases hq : v < 0 ∨ rows ≤ v
  · refine ⟨(1, 0), (0, 1), ?_, Or.inr rfl, ?_, rfl, fun h => nomatch h⟩
    · unfold f_X11_clockOf
      rw [checkRealm_out hq]
      rfl
    · unfold f_X12_clockOf
      rw [noRealm_out h3r (by rw [h3]; exact hq)]
      rfl
  · have h1 : ¬ v < 0 := fun z => hq (Or.inl z)
    have h2 : ¬ rows ≤ v := fun z => hq (Or.inr z)
    obtain ⟨k, hk, hv⟩ := row_of hr h1 h2
    refine ⟨(0, tm + R (k * 5 + 3)), (g 0 + g (10 + 4 * k + 3), 0), ?_, Or.inl rfl, ?_, rfl, fun _ => by show tm + R (k * 5 + 3) = g 0 + g (10 + 4 * k + 3); rw [hc k 3 hk (by decide) (by decide), ht]⟩
    · unfold f_X11_clockOf
      rw [checkRealm_in h1 h2]
      show ((f_X6_get 25 5 rows R v 3).bind _) = _
      rw [get_at (W := 5) (c := 3) (by decide) hr hv (by decide) hk (by omega) (by decide)]
      rfl
    · unfold f_X12_clockOf
      rw [noRealm_in h3r h1 (by rw [h3]; exact h2)]
      rw [Option.bind_some, if_pos rfl, rd_at (k := 0) (i := 0) (by decide) (by decide), Option.bind_some]
      show ((rd g 463 (10 + 4 * v + 3)).bind _) = _
      rw [rd_at (off_ti (aff_ti (B := 10) (W := 4) (by decide) (by decide) hv (by omega)) (C := 3) (by decide) (by omega)) (by omega)]
      rfl
