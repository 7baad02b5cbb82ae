/-! PURE: tickets: single columns read on both sides. -/
theorem ne_none {o : Int32} {i : Nat} (h : o.toInt = (i : Int)) : ¬ o = -1 := by
  intro e
  rw [e] at h
  have : (-1 : Int32).toInt = -1 := by decide
  omega
theorem rowOf_none {rows v : Int32} {T : Nat → Int32} (h : f_X6_rowWith 240 10 rows T 0 v = some (-1)) : f_X11_rowOf rows T v = some (4, 0) := by
  unfold f_X11_rowOf
  rw [h]
  rfl
theorem rowOf_some {rows v o : Int32} {T : Nat → Int32} (h : f_X6_rowWith 240 10 rows T 0 v = some o) (hn : ¬ o = -1) : f_X11_rowOf rows T v = some (0, o) := by
  unfold f_X11_rowOf
  rw [h]
  show (if o = -1 then _ else _) = _
  rw [if_neg hn]
theorem noTicket_none {th v : Int32} {g : Nat → Int32} (h : f_X12_find g v = some (-1)) : f_X12_noTicket th g v = some (1, 1) := by
  unfold f_X12_noTicket
  rw [h]
  rfl
theorem noTicket_some {th v o : Int32} {g : Nat → Int32} (h : f_X12_find g v = some o) (hn : ¬ o = -1) : f_X12_noTicket th g v = some (0, 0) := by
  unfold f_X12_noTicket
  rw [h]
  show (if o = -1 then _ else _) = _
  rw [if_neg hn]
  rfl
theorem ofIt_none {th v c : Int32} {g : Nat → Int32} (h : f_X12_find g v = some (-1)) : f_X12_ofIt th g v c = some (0, 1) := by
  unfold f_X12_ofIt
  rw [noTicket_none h]
  rfl
theorem ofIt_some {th v o c : Int32} {i C : Nat} {g : Nat → Int32} (h : f_X12_find g v = some o) (ho : o.toInt = (i : Int)) (hi : i < 24) (hc : c.toInt = (C : Int)) (hC : C < 10) : f_X12_ofIt th g v c = some (g (103 + 10 * i + C), 0) := by
  unfold f_X12_ofIt
  rw [noTicket_some h (ne_none ho)]
  show ((f_X12_find g v).bind _) = _
  rw [h]
  show (rd g 463 (103 + 10 * o + c)).bind _ = _
  rw [rd_at (off_ti (aff_ti (B := 103) (W := 10) (by decide) (by decide) ho (by omega)) hc (by omega)) (by omega)]
  rfl
theorem kindOf_same {rows v th : Int32} {T g : Nat → Int32} {r : Nat} (h : TKT rows T g r) : ∃ (ox : Nat × Int32) (om : Int32 × Int32), f_X11_kindOf rows T v = some ox ∧ (ox.1 = 0 ∨ ox.1 = 4) ∧ f_X12_kindOf th g v = some om ∧ om.2 = hcd [4] ox.1 ∧ (ox.1 = 0 → ox.2.toInt64 = om.1.toInt64) := by
  obtain ⟨o, h1, h2, h3⟩ := find_all h v
  obtain ⟨hr, hr24, h6, hc⟩ := h
  by_cases hq : o = -1
  · rw [hq] at h1 h2
    refine ⟨(4, 0), (0, 1), ?_, Or.inr rfl, ?_, rfl, fun h => nomatch h⟩
    · unfold f_X11_kindOf
      rw [rowOf_none h1]
      rfl
    · unfold f_X12_kindOf
      rw [ofIt_none h2]
      rfl
  · obtain ⟨i, hi, ho, -⟩ := h3.resolve_left hq
    refine ⟨(0, T (i * 10 + 1)), (g (103 + 10 * i + 1), 0), ?_, Or.inl rfl, ?_, rfl, fun _ => by show (T (i * 10 + 1)).toInt64 = (g (103 + 10 * i + 1)).toInt64; rw [hc i 1 hi (by decide)]⟩
    · unfold f_X11_kindOf
      rw [rowOf_some h1 hq]
      show (f_X6_get 240 10 rows T o 1).bind _ = _
      rw [get_at (W := 10) (c := 1) (by decide) hr ho (by decide) hi (by omega) (by decide)]
      rfl
    · unfold f_X12_kindOf
      rw [ofIt_some h2 ho (by omega) (C := 1) (by decide) (by decide)]
      rfl
theorem ownerOf_same {rows v th : Int32} {T g : Nat → Int32} {r : Nat} (h : TKT rows T g r) : ∃ (ox : Nat × Int32) (om : Int32 × Int32), f_X11_ownerOf rows T v = some ox ∧ (ox.1 = 0 ∨ ox.1 = 4) ∧ f_X12_ownerOf th g v = some om ∧ om.2 = hcd [4] ox.1 ∧ (ox.1 = 0 → ox.2.toInt64 = om.1.toInt64) := by
  obtain ⟨o, h1, h2, h3⟩ := find_all h v
  obtain ⟨hr, hr24, h6, hc⟩ := h
  by_cases hq : o = -1
  · rw [hq] at h1 h2
    refine ⟨(4, 0), (0, 1), ?_, Or.inr rfl, ?_, rfl, fun h => nomatch h⟩
    · unfold f_X11_ownerOf
      rw [rowOf_none h1]
      rfl
    · unfold f_X12_ownerOf
      rw [ofIt_none h2]
      rfl
  · obtain ⟨i, hi, ho, -⟩ := h3.resolve_left hq
    refine ⟨(0, T (i * 10 + 2)), (g (103 + 10 * i + 2), 0), ?_, Or.inl rfl, ?_, rfl, fun _ => by show (T (i * 10 + 2)).toInt64 = (g (103 + 10 * i + 2)).toInt64; rw [hc i 2 hi (by decide)]⟩
    · unfold f_X11_ownerOf
      rw [rowOf_some h1 hq]
      show (f_X6_get 240 10 rows T o 2).bind _ = _
      rw [get_at (W := 10) (c := 2) (by decide) hr ho (by decide) hi (by omega) (by decide)]
      rfl
    · unfold f_X12_ownerOf
      rw [ofIt_some h2 ho (by omega) (C := 2) (by decide) (by decide)]
      rfl
theorem realmOf_same {rows v th : Int32} {T g : Nat → Int32} {r : Nat} (h : TKT rows T g r) : ∃ (ox : Nat × Int32) (om : Int32 × Int32), f_X11_realmOf rows T v = some ox ∧ (ox.1 = 0 ∨ ox.1 = 4) ∧ f_X12_realmOf th g v = some om ∧ om.2 = hcd [4] ox.1 ∧ (ox.1 = 0 → ox.2.toInt64 = om.1.toInt64) := by
  obtain ⟨o, h1, h2, h3⟩ := find_all h v
  obtain ⟨hr, hr24, h6, hc⟩ := h
  by_cases hq : o = -1
  · rw [hq] at h1 h2
    refine ⟨(4, 0), (0, 1), ?_, Or.inr rfl, ?_, rfl, fun h => nomatch h⟩
    · unfold f_X11_realmOf
      rw [rowOf_none h1]
      rfl
    · unfold f_X12_realmOf
      rw [ofIt_none h2]
      rfl
  · obtain ⟨i, hi, ho, -⟩ := h3.resolve_left hq
    refine ⟨(0, T (i * 10 + 3)), (g (103 + 10 * i + 3), 0), ?_, Or.inl rfl, ?_, rfl, fun _ => by show (T (i * 10 + 3)).toInt64 = (g (103 + 10 * i + 3)).toInt64; rw [hc i 3 hi (by decide)]⟩
    · unfold f_X11_realmOf
      rw [rowOf_some h1 hq]
      show (f_X6_get 240 10 rows T o 3).bind _ = _
      rw [get_at (W := 10) (c := 3) (by decide) hr ho (by decide) hi (by omega) (by decide)]
      rfl
    · unfold f_X12_realmOf
      rw [ofIt_some h2 ho (by omega) (C := 3) (by decide) (by decide)]
      rfl
theorem serviceOf_same {rows v th : Int32} {T g : Nat → Int32} {r : Nat} (h : TKT rows T g r) : ∃ (ox : Nat × Int32) (om : Int32 × Int32), f_X11_serviceOf rows T v = some ox ∧ (ox.1 = 0 ∨ ox.1 = 4) ∧ f_X12_serviceOf th g v = some om ∧ om.2 = hcd [4] ox.1 ∧ (ox.1 = 0 → ox.2.toInt64 = om.1.toInt64) := by
  obtain ⟨o, h1, h2, h3⟩ := find_all h v
  obtain ⟨hr, hr24, h6, hc⟩ := h
  by_cases hq : o = -1
  · rw [hq] at h1 h2
    refine ⟨(4, 0), (0, 1), ?_, Or.inr rfl, ?_, rfl, fun h => nomatch h⟩
    · unfold f_X11_serviceOf
      rw [rowOf_none h1]
      rfl
    · unfold f_X12_serviceOf
      rw [ofIt_none h2]
      rfl
  · obtain ⟨i, hi, ho, -⟩ := h3.resolve_left hq
    refine ⟨(0, T (i * 10 + 4)), (g (103 + 10 * i + 4), 0), ?_, Or.inl rfl, ?_, rfl, fun _ => by show (T (i * 10 + 4)).toInt64 = (g (103 + 10 * i + 4)).toInt64; rw [hc i 4 hi (by decide)]⟩
    · unfold f_X11_serviceOf
      rw [rowOf_some h1 hq]
      show (f_X6_get 240 10 rows T o 4).bind _ = _
      rw [get_at (W := 10) (c := 4) (by decide) hr ho (by decide) hi (by omega) (by decide)]
      rfl
    · unfold f_X12_serviceOf
      rw [ofIt_some h2 ho (by omega) (C := 4) (by decide) (by decide)]
      rfl
theorem startOf_same {rows v th : Int32} {T g : Nat → Int32} {r : Nat} (h : TKT rows T g r) : ∃ (ox : Nat × Int32) (om : Int32 × Int32), f_X11_startOf rows T v = some ox ∧ (ox.1 = 0 ∨ ox.1 = 4) ∧ f_X12_startOf th g v = some om ∧ om.2 = hcd [4] ox.1 ∧ (ox.1 = 0 → ox.2.toInt64 = om.1.toInt64) := by
  obtain ⟨o, h1, h2, h3⟩ := find_all h v
  obtain ⟨hr, hr24, h6, hc⟩ := h
  by_cases hq : o = -1
  · rw [hq] at h1 h2
    refine ⟨(4, 0), (0, 1), ?_, Or.inr rfl, ?_, rfl, fun h => nomatch h⟩
    · unfold f_X11_startOf
      rw [rowOf_none h1]
      rfl
    · unfold f_X12_startOf
      rw [ofIt_none h2]
      rfl
  · obtain ⟨i, hi, ho, -⟩ := h3.resolve_left hq
    refine ⟨(0, T (i * 10 + 5)), (g (103 + 10 * i + 5), 0), ?_, Or.inl rfl, ?_, rfl, fun _ => by show (T (i * 10 + 5)).toInt64 = (g (103 + 10 * i + 5)).toInt64; rw [hc i 5 hi (by decide)]⟩
    · unfold f_X11_startOf
      rw [rowOf_some h1 hq]
      show (f_X6_get 240 10 rows T o 5).bind _ = _
      rw [get_at (W := 10) (c := 5) (by decide) hr ho (by decide) hi (by omega) (by decide)]
      rfl
    · unfold f_X12_startOf
      rw [ofIt_some h2 ho (by omega) (C := 5) (by decide) (by decide)]
      rfl
theorem endOf_same {rows v th : Int32} {T g : Nat → Int32} {r : Nat} (h : TKT rows T g r) : ∃ (ox : Nat × Int32) (om : Int32 × Int32), f_X11_endOf rows T v = some ox ∧ (ox.1 = 0 ∨ ox.1 = 4) ∧ f_X12_endOf th g v = some om ∧ om.2 = hcd [4] ox.1 ∧ (ox.1 = 0 → ox.2.toInt64 = om.1.toInt64) := by
  obtain ⟨o, h1, h2, h3⟩ := find_all h v
  obtain ⟨hr, hr24, h6, hc⟩ := h
  by_cases hq : o = -1
  · rw [hq] at h1 h2
    refine ⟨(4, 0), (0, 1), ?_, Or.inr rfl, ?_, rfl, fun h => nomatch h⟩
    · unfold f_X11_endOf
      rw [rowOf_none h1]
      rfl
    · unfold f_X12_endOf
      rw [ofIt_none h2]
      rfl
  · obtain ⟨i, hi, ho, -⟩ := h3.resolve_left hq
    refine ⟨(0, T (i * 10 + 6)), (g (103 + 10 * i + 6), 0), ?_, Or.inl rfl, ?_, rfl, fun _ => by show (T (i * 10 + 6)).toInt64 = (g (103 + 10 * i + 6)).toInt64; rw [hc i 6 hi (by decide)]⟩
    · unfold f_X11_endOf
      rw [rowOf_some h1 hq]
      show (f_X6_get 240 10 rows T o 6).bind _ = _
      rw [get_at (W := 10) (c := 6) (by decide) hr ho (by decide) hi (by omega) (by decide)]
      rfl
    · unfold f_X12_endOf
      rw [ofIt_some h2 ho (by omega) (C := 6) (by decide) (by decide)]
      rfl
theorem lastEndOf_same {rows v th : Int32} {T g : Nat → Int32} {r : Nat} (h : TKT rows T g r) : ∃ (ox : Nat × Int32) (om : Int32 × Int32), f_X11_lastEndOf rows T v = some ox ∧ (ox.1 = 0 ∨ ox.1 = 4) ∧ f_X12_lastEndOf th g v = some om ∧ om.2 = hcd [4] ox.1 ∧ (ox.1 = 0 → ox.2.toInt64 = om.1.toInt64) := by
  obtain ⟨o, h1, h2, h3⟩ := find_all h v
  obtain ⟨hr, hr24, h6, hc⟩ := h
  by_cases hq : o = -1
  · rw [hq] at h1 h2
    refine ⟨(4, 0), (0, 1), ?_, Or.inr rfl, ?_, rfl, fun h => nomatch h⟩
    · unfold f_X11_lastEndOf
      rw [rowOf_none h1]
      rfl
    · unfold f_X12_lastEndOf
      rw [ofIt_none h2]
      rfl
  · obtain ⟨i, hi, ho, -⟩ := h3.resolve_left hq
    refine ⟨(0, T (i * 10 + 7)), (g (103 + 10 * i + 7), 0), ?_, Or.inl rfl, ?_, rfl, fun _ => by show (T (i * 10 + 7)).toInt64 = (g (103 + 10 * i + 7)).toInt64; rw [hc i 7 hi (by decide)]⟩
    · unfold f_X11_lastEndOf
      rw [rowOf_some h1 hq]
      show (f_X6_get 240 10 rows T o 7).bind _ = _
      rw [get_at (W := 10) (c := 7) (by decide) hr ho (by decide) hi (by omega) (by decide)]
      rfl
    · unfold f_X12_lastEndOf
      rw [ofIt_some h2 ho (by omega) (C := 7) (by decide) (by decide)]
      rfl
theorem keyOf_same {rows v th : Int32} {T g : Nat → Int32} {r : Nat} (h : TKT rows T g r) : ∃ (ox : Nat × Int32) (om : Int32 × Int32), f_X11_keyOf rows T v = some ox ∧ (ox.1 = 0 ∨ ox.1 = 4) ∧ f_X12_keyOf th g v = some om ∧ om.2 = hcd [4] ox.1 ∧ (ox.1 = 0 → ox.2.toInt64 = om.1.toInt64) := by
  obtain ⟨o, h1, h2, h3⟩ := find_all h v
  obtain ⟨hr, hr24, h6, hc⟩ := h
  by_cases hq : o = -1
  · rw [hq] at h1 h2
    refine ⟨(4, 0), (0, 1), ?_, Or.inr rfl, ?_, rfl, fun h => nomatch h⟩
    · unfold f_X11_keyOf
      rw [rowOf_none h1]
      rfl
    · unfold f_X12_keyOf
      rw [ofIt_none h2]
      rfl
  · obtain ⟨i, hi, ho, -⟩ := h3.resolve_left hq
    refine ⟨(0, T (i * 10 + 8)), (g (103 + 10 * i + 8), 0), ?_, Or.inl rfl, ?_, rfl, fun _ => by show (T (i * 10 + 8)).toInt64 = (g (103 + 10 * i + 8)).toInt64; rw [hc i 8 hi (by decide)]⟩
    · unfold f_X11_keyOf
      rw [rowOf_some h1 hq]
      show (f_X6_get 240 10 rows T o 8).bind _ = _
      rw [get_at (W := 10) (c := 8) (by decide) hr ho (by decide) hi (by omega) (by decide)]
      rfl
    · unfold f_X12_keyOf
      rw [ofIt_some h2 ho (by omega) (C := 8) (by decide) (by decide)]
      rfl
