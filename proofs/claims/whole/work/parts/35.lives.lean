/-! PURE: tickets: what lives, what is left. -/
def alv (e tm : Int32) : Int32 := if e ≤ tm then 0 else 1
theorem alv_zr (e tm : Int32) : zr (alv e tm) = some (alv e tm) := by
  unfold alv
  by_cases h : e ≤ tm
  · rw [if_pos h]; rfl
  · rw [if_neg h]; rfl
theorem isAlive_at {rows o tm : Int32} {T : Nat → Int32} {r i : Nat} (hr : rows.toInt = (r : Int)) (ho : o.toInt = (i : Int)) (hi : i < r) (h24 : r ≤ 24) : f_X7_isAlive rows T o tm = some (alv (T (i * 10 + 6)) tm) := by
  unfold f_X7_isAlive
  rw [get_at (W := 10) (c := 6) (by decide) hr ho (by decide) hi (by omega) (by decide)]
  show (if T (i * 10 + 6) ≤ tm then some 0 else some 1) = _
  unfold alv
  by_cases h : T (i * 10 + 6) ≤ tm
  · rw [if_pos h, if_pos h]
  · rw [if_neg h, if_neg h]
theorem lives_at {o : Int32} {g : Nat → Int32} {i : Nat} (ho : o.toInt = (i : Int)) (hi : i < 24) : f_X12_lives g o = some (alv (g (103 + 10 * i + 6)) (g 0)) := by
  unfold f_X12_lives
  rw [rd_at (k := 0) (by decide) (by decide)]
  show ((rd g 463 (103 + 10 * o + 6)).bind _) = _
  rw [rd_at (off_ti (aff_ti (B := 103) (W := 10) (by decide) (by decide) ho (by omega)) (C := 6) (by decide) (by omega)) (by omega)]
  show (if g (103 + 10 * i + 6) ≤ g 0 then some 0 else some 1) = _
  unfold alv
  by_cases h : g (103 + 10 * i + 6) ≤ g 0
  · rw [if_pos h, if_pos h]
  · rw [if_neg h, if_neg h]
theorem greater_max (y : Int32) : f_X12_greater 0 y = some (imax 0 y) := by
  unfold f_X12_greater imax
  by_cases h : (0 : Int32) ≤ y
  · rw [if_pos h]
    by_cases h2 : (0 : Int32) < y
    · rw [if_pos h2]
    · rw [if_neg h2]
      have h3 : y = 0 := by
        rw [Int32.le_iff_toInt_le] at h
        rw [Int32.lt_iff_toInt_lt] at h2
        exact ti_eq (by omega)
      rw [h3]
  · rw [if_neg h, if_neg (fun h2 => h (by rw [Int32.le_iff_toInt_le]; rw [Int32.lt_iff_toInt_lt] at h2; omega))]
theorem isValid_same {rows v th : Int32} {tm : Int32} {T g : Nat → Int32} {r : Nat} (h : TKT rows T g r) (ht : g 0 = tm) : ∃ (ox : Nat × Int32) (om : Int32 × Int32), f_X11_isValid tm rows T v = some ox ∧ (ox.1 = 0 ∨ ox.1 = 4) ∧ f_X12_isValid th g v = some om ∧ om.2 = hcd [4] ox.1 ∧ (ox.1 = 0 → ox.2 = om.1) := by
  obtain ⟨o, h1, h2, h3⟩ := find_all h v
  obtain ⟨hr, hr24, h6, hc⟩ := h
  by_cases hq : o = -1
  · rw [hq] at h1 h2
    refine ⟨(4, 0), (0, 1), ?_, Or.inr rfl, ?_, rfl, fun h => nomatch h⟩
    · unfold f_X11_isValid
      rw [rowOf_none h1]
      rfl
    · unfold f_X12_isValid
      rw [noTicket_none h2]
      rfl
  · obtain ⟨i, hi, ho, -⟩ := h3.resolve_left hq
    refine ⟨(0, alv (T (i * 10 + 6)) tm), (alv (g (103 + 10 * i + 6)) (g 0), 0), ?_, Or.inl rfl, ?_, rfl, fun _ => ?_⟩
    · unfold f_X11_isValid
      rw [rowOf_some h1 hq]
      show ((f_X7_isAlive rows T o tm).bind _) = _
      rw [isAlive_at hr ho hi hr24]
      show ((zr (alv (T (i * 10 + 6)) tm)).bind _) = _
      rw [alv_zr]
      rfl
    · unfold f_X12_isValid
      rw [noTicket_some h2 hq]
      show ((f_X12_find g v).bind _) = _
      rw [h2]
      show ((f_X12_lives g o).bind _) = _
      rw [lives_at ho (by omega)]
      show ((zr (alv (g (103 + 10 * i + 6)) (g 0))).bind _) = _
      rw [alv_zr]
      rfl
    · show alv (T (i * 10 + 6)) tm = alv (g (103 + 10 * i + 6)) (g 0); rw [hc i 6 hi (by decide), ht]
theorem minutesLeft_same {rows v th : Int32} {tm : Int32} {T g : Nat → Int32} {r : Nat} (h : TKT rows T g r) (ht : g 0 = tm) : ∃ (ox : Nat × Int32) (om : Int32 × Int32), f_X11_minutesLeft tm rows T v = some ox ∧ (ox.1 = 0 ∨ ox.1 = 4) ∧ f_X12_minutesLeft th g v = some om ∧ om.2 = hcd [4] ox.1 ∧ (ox.1 = 0 → ox.2 = om.1) := by
  obtain ⟨o, h1, h2, h3⟩ := find_all h v
  obtain ⟨hr, hr24, h6, hc⟩ := h
  by_cases hq : o = -1
  · rw [hq] at h1 h2
    refine ⟨(4, 0), (0, 1), ?_, Or.inr rfl, ?_, rfl, fun h => nomatch h⟩
    · unfold f_X11_minutesLeft
      rw [rowOf_none h1]
      rfl
    · unfold f_X12_minutesLeft
      rw [noTicket_none h2]
      rfl
  · obtain ⟨i, hi, ho, -⟩ := h3.resolve_left hq
    refine ⟨(0, imax 0 (T (i * 10 + 6) - tm)), (imax 0 (g (103 + 10 * i + 6) - g 0), 0), ?_, Or.inl rfl, ?_, rfl, fun _ => ?_⟩
    · unfold f_X11_minutesLeft
      rw [rowOf_some h1 hq]
      show ((f_X6_get 240 10 rows T o 6).bind _) = _
      rw [get_at (W := 10) (c := 6) (by decide) hr ho (by decide) hi (by omega) (by decide)]
      rfl
    · unfold f_X12_minutesLeft
      rw [noTicket_some h2 hq]
      show ((f_X12_find g v).bind _) = _
      rw [h2]
      show ((rd g 463 (103 + 10 * o + 6)).bind _) = _
      rw [rd_at (off_ti (aff_ti (B := 103) (W := 10) (by decide) (by decide) ho (by omega)) (C := 6) (by decide) (by omega)) (by omega)]
      rw [Option.bind_some, rd_at (k := 0) (i := 0) (by decide) (by decide)]
      show ((f_X12_greater 0 (g (103 + 10 * i + 6) - g 0)).bind _) = _
      rw [greater_max]
      rfl
    · show imax 0 (T (i * 10 + 6) - tm) = imax 0 (g (103 + 10 * i + 6) - g 0); rw [hc i 6 hi (by decide), ht]
