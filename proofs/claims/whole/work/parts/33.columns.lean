/-! PURE: users, services, tickets: refusals of an index, single columns read on both sides. -/
theorem aff_ti {b w x : Int32} {B W k : Nat} (hb : b.toInt = (B : Int)) (hw : w.toInt = (W : Int)) (hx : x.toInt = (k : Int)) (h : B + W * k < 2147483648) : (b + w * x).toInt = ((B + W * k : Nat) : Int) := by
  have hz : ((W * k : Nat) : Int) = (W : Int) * k := Int.natCast_mul W k
  have h1 : (w * x).toInt = (W : Int) * k := ti_mul hw hx (by omega) (by omega)
  rw [ti_add hb h1 (by omega) (by omega)]
  omega
theorem off_ti {z c : Int32} {Z C : Nat} (hz : z.toInt = (Z : Int)) (hc : c.toInt = (C : Int)) (h : Z + C < 2147483648) : (z + c).toInt = ((Z + C : Nat) : Int) := by
  rw [ti_add hz hc (by omega) (by omega)]
  omega
theorem noUser_in {th v : Int32} {g : Nat → Int32} {r : Nat} (h3 : (g 4).toInt = (r : Int)) (h1 : ¬ v < 0) (h2 : ¬ g 4 ≤ v) : f_X12_noUser th g v = some (0, 0) := by
  unfold f_X12_noUser
  rw [rd_at (k := 4) (by decide) (by decide)]
  show (f_X12_noNumber th v 0 (g 4 - 1)).bind _ = _
  rw [noNumber_in h1 (fun h => h2 ((below_one h3).mp h))]
  rfl
theorem noUser_out {th v : Int32} {g : Nat → Int32} {r : Nat} (h3 : (g 4).toInt = (r : Int)) (h : v < 0 ∨ g 4 ≤ v) : f_X12_noUser th g v = some (1, 1) := by
  unfold f_X12_noUser
  rw [rd_at (k := 4) (by decide) (by decide)]
  show (f_X12_noNumber th v 0 (g 4 - 1)).bind _ = _
  rw [noNumber_out (h.imp id (below_one h3).mpr)]
  rfl
theorem checkUser_in {rows v : Int32} (h1 : ¬ v < 0) (h2 : ¬ rows ≤ v) : f_X11_checkUser rows v = some 0 := by
  unfold f_X11_checkUser f_X6_has
  rw [if_neg h1, if_neg h2]
  rfl
theorem checkUser_out {rows v : Int32} (h : v < 0 ∨ rows ≤ v) : f_X11_checkUser rows v = some 1 := by
  unfold f_X11_checkUser
  rw [has_not h]
  rfl
theorem noService_in {th v : Int32} {g : Nat → Int32} {r : Nat} (h3 : (g 5).toInt = (r : Int)) (h1 : ¬ v < 0) (h2 : ¬ g 5 ≤ v) : f_X12_noService th g v = some (0, 0) := by
  unfold f_X12_noService
  rw [rd_at (k := 5) (by decide) (by decide)]
  show (f_X12_noNumber th v 0 (g 5 - 1)).bind _ = _
  rw [noNumber_in h1 (fun h => h2 ((below_one h3).mp h))]
  rfl
theorem noService_out {th v : Int32} {g : Nat → Int32} {r : Nat} (h3 : (g 5).toInt = (r : Int)) (h : v < 0 ∨ g 5 ≤ v) : f_X12_noService th g v = some (1, 1) := by
  unfold f_X12_noService
  rw [rd_at (k := 5) (by decide) (by decide)]
  show (f_X12_noNumber th v 0 (g 5 - 1)).bind _ = _
  rw [noNumber_out (h.imp id (below_one h3).mpr)]
  rfl
theorem checkService_in {rows v : Int32} (h1 : ¬ v < 0) (h2 : ¬ rows ≤ v) : f_X11_checkService rows v = some 0 := by
  unfold f_X11_checkService f_X6_has
  rw [if_neg h1, if_neg h2]
  rfl
theorem checkService_out {rows v : Int32} (h : v < 0 ∨ rows ≤ v) : f_X11_checkService rows v = some 1 := by
  unfold f_X11_checkService
  rw [has_not h]
  rfl
/-- users and services of both sides -/
def USR (rows : Int32) (U g : Nat → Int32) (r : Nat) : Prop := rows.toInt = (r : Int) ∧ r ≤ 6 ∧ g 4 = rows ∧ ∀ i c : Nat, i < r → 1 ≤ c → c < 5 → U (i * 5 + c) = g (55 + 5 * i + c)
def SVC (rows : Int32) (V g : Nat → Int32) (r : Nat) : Prop := rows.toInt = (r : Int) ∧ r ≤ 6 ∧ g 5 = rows ∧ ∀ i c : Nat, i < r → 1 ≤ c → c < 3 → V (i * 3 + c) = g (85 + 3 * i + c)
theorem homeOf_same {rows v th : Int32} {U g : Nat → Int32} {r : Nat} (h : USR rows U g r) : ∃ (ox : Nat × Int32) (om : Int32 × Int32), f_X11_homeOf rows U v = some ox ∧ (ox.1 = 0 ∨ ox.1 = 1) ∧ f_X12_homeOf th g v = some om ∧ om.2 = hcd [1] ox.1 ∧ (ox.1 = 0 → ox.2.toInt64 = om.1.toInt64) := by
  obtain ⟨hr, hr5, h3, hc⟩ := h
  have h3r : (g 4).toInt = (r : Int) := by rw [h3]; exact hr
  by_cases hq : v < 0 ∨ rows ≤ v
  · refine ⟨(1, 0), (0, 1), ?_, Or.inr rfl, ?_, rfl, fun h => nomatch h⟩
    · unfold f_X11_homeOf
      rw [checkUser_out hq]
      rfl
    · unfold f_X12_homeOf
      rw [noUser_out h3r (by rw [h3]; exact hq)]
      rfl
  · have h1 : ¬ v < 0 := fun z => hq (Or.inl z)
    have h2 : ¬ rows ≤ v := fun z => hq (Or.inr z)
    obtain ⟨k, hk, hv⟩ := row_of hr h1 h2
    refine ⟨(0, U (k * 5 + 1)), (g (55 + 5 * k + 1), 0), ?_, Or.inl rfl, ?_, rfl, fun _ => by show (U (k * 5 + 1)).toInt64 = (g (55 + 5 * k + 1)).toInt64; rw [hc k 1 hk (by decide) (by decide)]⟩
    · unfold f_X11_homeOf
      rw [checkUser_in h1 h2]
      show (f_X6_get 30 5 rows U v 1).bind _ = _
      rw [get_at (W := 5) (c := 1) (by decide) hr hv (by decide) hk (by omega) (by decide)]
      rfl
    · unfold f_X12_homeOf
      rw [noUser_in h3r h1 (by rw [h3]; exact h2)]
      show (rd g 463 (55 + 5 * v + 1)).bind _ = _
      rw [rd_at (off_ti (aff_ti (B := 55) (W := 5) (by decide) (by decide) hv (by omega)) (C := 1) (by decide) (by omega)) (by omega)]
      rfl
theorem cheesesOf_same {rows v th : Int32} {U g : Nat → Int32} {r : Nat} (h : USR rows U g r) : ∃ (ox : Nat × Int32) (om : Int32 × Int32), f_X11_cheesesOf rows U v = some ox ∧ (ox.1 = 0 ∨ ox.1 = 1) ∧ f_X12_cheesesOf th g v = some om ∧ om.2 = hcd [1] ox.1 ∧ (ox.1 = 0 → ox.2.toInt64 = om.1.toInt64) := by
  obtain ⟨hr, hr5, h3, hc⟩ := h
  have h3r : (g 4).toInt = (r : Int) := by rw [h3]; exact hr
  by_cases hq : v < 0 ∨ rows ≤ v
  · refine ⟨(1, 0), (0, 1), ?_, Or.inr rfl, ?_, rfl, fun h => nomatch h⟩
    · unfold f_X11_cheesesOf
      rw [checkUser_out hq]
      rfl
    · unfold f_X12_cheesesOf
      rw [noUser_out h3r (by rw [h3]; exact hq)]
      rfl
  · have h1 : ¬ v < 0 := fun z => hq (Or.inl z)
    have h2 : ¬ rows ≤ v := fun z => hq (Or.inr z)
    obtain ⟨k, hk, hv⟩ := row_of hr h1 h2
    refine ⟨(0, U (k * 5 + 4)), (g (55 + 5 * k + 4), 0), ?_, Or.inl rfl, ?_, rfl, fun _ => by show (U (k * 5 + 4)).toInt64 = (g (55 + 5 * k + 4)).toInt64; rw [hc k 4 hk (by decide) (by decide)]⟩
    · unfold f_X11_cheesesOf
      rw [checkUser_in h1 h2]
      show (f_X6_get 30 5 rows U v 4).bind _ = _
      rw [get_at (W := 5) (c := 4) (by decide) hr hv (by decide) hk (by omega) (by decide)]
      rfl
    · unfold f_X12_cheesesOf
      rw [noUser_in h3r h1 (by rw [h3]; exact h2)]
      show (rd g 463 (55 + 5 * v + 4)).bind _ = _
      rw [rd_at (off_ti (aff_ti (B := 55) (W := 5) (by decide) (by decide) hv (by omega)) (C := 4) (by decide) (by omega)) (by omega)]
      rfl
theorem realmOfService_same {rows v th : Int32} {V g : Nat → Int32} {r : Nat} (h : SVC rows V g r) : ∃ (ox : Nat × Int32) (om : Int32 × Int32), f_X11_realmOfService rows V v = some ox ∧ (ox.1 = 0 ∨ ox.1 = 1) ∧ f_X12_realmOfService th g v = some om ∧ om.2 = hcd [1] ox.1 ∧ (ox.1 = 0 → ox.2.toInt64 = om.1.toInt64) := by
  obtain ⟨hr, hr5, h3, hc⟩ := h
  have h3r : (g 5).toInt = (r : Int) := by rw [h3]; exact hr
  by_cases hq : v < 0 ∨ rows ≤ v
  · refine ⟨(1, 0), (0, 1), ?_, Or.inr rfl, ?_, rfl, fun h => nomatch h⟩
    · unfold f_X11_realmOfService
      rw [checkService_out hq]
      rfl
    · unfold f_X12_realmOfService
      rw [noService_out h3r (by rw [h3]; exact hq)]
      rfl
  · have h1 : ¬ v < 0 := fun z => hq (Or.inl z)
    have h2 : ¬ rows ≤ v := fun z => hq (Or.inr z)
    obtain ⟨k, hk, hv⟩ := row_of hr h1 h2
    refine ⟨(0, V (k * 3 + 1)), (g (85 + 3 * k + 1), 0), ?_, Or.inl rfl, ?_, rfl, fun _ => by show (V (k * 3 + 1)).toInt64 = (g (85 + 3 * k + 1)).toInt64; rw [hc k 1 hk (by decide) (by decide)]⟩
    · unfold f_X11_realmOfService
      rw [checkService_in h1 h2]
      show (f_X6_get 18 3 rows V v 1).bind _ = _
      rw [get_at (W := 3) (c := 1) (by decide) hr hv (by decide) hk (by omega) (by decide)]
      rfl
    · unfold f_X12_realmOfService
      rw [noService_in h3r h1 (by rw [h3]; exact h2)]
      show (rd g 463 (85 + 3 * v + 1)).bind _ = _
      rw [rd_at (off_ti (aff_ti (B := 85) (W := 3) (by decide) (by decide) hv (by omega)) (C := 1) (by decide) (by omega)) (by omega)]
      rfl
theorem cheesesLeft_same {rows v th : Int32} {V g : Nat → Int32} {r : Nat} (h : SVC rows V g r) : ∃ (ox : Nat × Int32) (om : Int32 × Int32), f_X11_cheesesLeft rows V v = some ox ∧ (ox.1 = 0 ∨ ox.1 = 1) ∧ f_X12_cheesesLeft th g v = some om ∧ om.2 = hcd [1] ox.1 ∧ (ox.1 = 0 → ox.2.toInt64 = om.1.toInt64) := by
  obtain ⟨hr, hr5, h3, hc⟩ := h
  have h3r : (g 5).toInt = (r : Int) := by rw [h3]; exact hr
  by_cases hq : v < 0 ∨ rows ≤ v
  · refine ⟨(1, 0), (0, 1), ?_, Or.inr rfl, ?_, rfl, fun h => nomatch h⟩
    · unfold f_X11_cheesesLeft
      rw [checkService_out hq]
      rfl
    · unfold f_X12_cheesesLeft
      rw [noService_out h3r (by rw [h3]; exact hq)]
      rfl
  · have h1 : ¬ v < 0 := fun z => hq (Or.inl z)
    have h2 : ¬ rows ≤ v := fun z => hq (Or.inr z)
    obtain ⟨k, hk, hv⟩ := row_of hr h1 h2
    refine ⟨(0, V (k * 3 + 2)), (g (85 + 3 * k + 2), 0), ?_, Or.inl rfl, ?_, rfl, fun _ => by show (V (k * 3 + 2)).toInt64 = (g (85 + 3 * k + 2)).toInt64; rw [hc k 2 hk (by decide) (by decide)]⟩
    · unfold f_X11_cheesesLeft
      rw [checkService_in h1 h2]
      show (f_X6_get 18 3 rows V v 2).bind _ = _
      rw [get_at (W := 3) (c := 2) (by decide) hr hv (by decide) hk (by omega) (by decide)]
      rfl
    · unfold f_X12_cheesesLeft
      rw [noService_in h3r h1 (by rw [h3]; exact h2)]
      show (rd g 463 (85 + 3 * v + 2)).bind _ = _
      rw [rd_at (off_ti (aff_ti (B := 85) (W := 3) (by decide) (by decide) hv (by omega)) (C := 2) (by decide) (by omega)) (by omega)]
      rfl
