/-! PURE: refusals of an index, the same on both sides. -/
theorem between_yes {v lo hi : Int32} (h1 : ¬ v < lo) (h2 : ¬ hi < v) : f_X12_isBetween v lo hi = some 1 := by
  unfold f_X12_isBetween
  rw [if_neg h1, if_neg h2]
theorem between_no {v lo hi : Int32} (h : v < lo ∨ hi < v) : f_X12_isBetween v lo hi = some 0 := by
  unfold f_X12_isBetween
  by_cases h1 : v < lo
  · rw [if_pos h1]
  · rw [if_neg h1, if_pos (h.resolve_left h1)]
theorem noNumber_in {th v lo hi : Int32} (h1 : ¬ v < lo) (h2 : ¬ hi < v) : f_X12_noNumber th v lo hi = some (0, 0) := by
  unfold f_X12_noNumber
  rw [between_yes h1 h2]
  rfl
theorem noNumber_out {th v lo hi : Int32} (h : v < lo ∨ hi < v) : f_X12_noNumber th v lo hi = some (1, 1) := by
  unfold f_X12_noNumber
  rw [between_no h]
  rfl
theorem below_one {rows v : Int32} {r : Nat} (hr : rows.toInt = (r : Int)) : rows - 1 < v ↔ rows ≤ v := by
  rw [Int32.lt_iff_toInt_lt, ti_sub hr ti_one (by omega) (by have := Int32.toInt_lt rows; omega), Int32.le_iff_toInt_le, hr]
  omega
theorem noRealm_in {th v : Int32} {g : Nat → Int32} {r : Nat} (h3 : (g 3).toInt = (r : Int)) (h1 : ¬ v < 0) (h2 : ¬ g 3 ≤ v) : f_X12_noRealm th g v = some (0, 0) := by
  unfold f_X12_noRealm
  rw [rd_at (k := 3) (by decide) (by decide)]
  show (f_X12_noNumber th v 0 (g 3 - 1)).bind _ = _
  rw [noNumber_in h1 (fun h => h2 ((below_one h3).mp h))]
  rfl
theorem noRealm_out {th v : Int32} {g : Nat → Int32} {r : Nat} (h3 : (g 3).toInt = (r : Int)) (h : v < 0 ∨ g 3 ≤ v) : f_X12_noRealm th g v = some (1, 1) := by
  unfold f_X12_noRealm
  rw [rd_at (k := 3) (by decide) (by decide)]
  show (f_X12_noNumber th v 0 (g 3 - 1)).bind _ = _
  rw [noNumber_out (h.imp id (below_one h3).mpr)]
  rfl
theorem checkRealm_in {rows v : Int32} (h1 : ¬ v < 0) (h2 : ¬ rows ≤ v) : f_X11_checkRealm rows v = some 0 := by
  unfold f_X11_checkRealm f_X6_has
  rw [if_neg h1, if_neg h2]
  rfl
theorem checkRealm_out {rows v : Int32} (h : v < 0 ∨ rows ≤ v) : f_X11_checkRealm rows v = some 1 := by
  unfold f_X11_checkRealm
  rw [has_not h]
  rfl
/-- the realms of both sides: rows and columns 1 to 3 -/
def RLM (rows : Int32) (R g : Nat → Int32) (r : Nat) : Prop := rows.toInt = (r : Int) ∧ r ≤ 5 ∧ g 3 = rows ∧ ∀ i c : Nat, i < r → 1 ≤ c → c < 4 → R (i * 5 + c) = g (10 + 4 * i + c)
theorem lifetime_same {rows v th : Int32} {R g : Nat → Int32} {r : Nat} (h : RLM rows R g r) : ∃ (ox : Nat × Int32) (om : Int32 × Int32), f_X11_lifetimeOf rows R v = some ox ∧ (ox.1 = 0 ∨ ox.1 = 1) ∧ f_X12_lifetimeOf th g v = some om ∧ om.2 = hcd [1] ox.1 ∧ (ox.1 = 0 → ox.2.toInt64 = om.1.toInt64) := by
  obtain ⟨hr, hr5, h3, hc⟩ := h
  have h3r : (g 3).toInt = (r : Int) := by rw [h3]; exact hr
  by_cases hq : v < 0 ∨ rows ≤ v
  · refine ⟨(1, 0), (0, 1), ?_, Or.inr rfl, ?_, rfl, fun h => nomatch h⟩
    · unfold f_X11_lifetimeOf
      rw [checkRealm_out hq]
      rfl
    · unfold f_X12_lifetimeOf
      rw [noRealm_out h3r (by rw [h3]; exact hq)]
      rfl
  · have h1 : ¬ v < 0 := fun z => hq (Or.inl z)
    have h2 : ¬ rows ≤ v := fun z => hq (Or.inr z)
    obtain ⟨k, hk, hv⟩ := row_of hr h1 h2
    refine ⟨(0, R (k * 5 + 1)), (g (10 + 4 * k + 1), 0), ?_, Or.inl rfl, ?_, rfl, fun _ => by show (R (k * 5 + 1)).toInt64 = (g (10 + 4 * k + 1)).toInt64; rw [hc k 1 hk (by decide) (by decide)]⟩
    · unfold f_X11_lifetimeOf
      rw [checkRealm_in h1 h2]
      show (f_X6_get 25 5 rows R v 1).bind _ = _
      rw [get_at (W := 5) (c := 1) (by decide) hr hv (by decide) hk (by omega) (by decide)]
      rfl
    · unfold f_X12_lifetimeOf
      rw [noRealm_in h3r h1 (by rw [h3]; exact h2)]
      show (rd g 463 (10 + 4 * v + 1)).bind _ = _
      have h4 : (4 * v).toInt = (4 : Int) * k := ti_mul (by decide) hv (by omega) (by omega)
      have h5 : (10 + 4 * v).toInt = ((10 + 4 * k : Nat) : Int) := by
        rw [ti_add (a := 10) (by decide) h4 (by omega) (by omega)]
        omega
      have h6 : (10 + 4 * v + 1).toInt = ((10 + 4 * k + 1 : Nat) : Int) := by
        rw [ti_add h5 ti_one (by omega) (by omega)]
        omega
      rw [rd_at h6 (by omega)]
      rfl
