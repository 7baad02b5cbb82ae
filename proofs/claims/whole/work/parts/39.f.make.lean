/-! PURE: new tickets. -/
theorem lesser_i (x y : Int32) : f_X12_lesser x y = some (imin x y) := by
  unfold f_X12_lesser imin
  by_cases h : y ≤ x
  · rw [if_pos h]
    by_cases h2 : y < x
    · rw [if_pos h2]
    · rw [if_neg h2]
      have h3 : y = x := by
        rw [Int32.le_iff_toInt_le] at h
        rw [Int32.lt_iff_toInt_lt] at h2
        exact ti_eq (by omega)
      rw [h3]
  · rw [if_neg h, if_neg (fun h2 => h (by rw [Int32.le_iff_toInt_le]; rw [Int32.lt_iff_toInt_lt] at h2; omega))]
theorem greater_i (x y : Int32) : f_X12_greater x y = some (imax y x) := by
  unfold f_X12_greater imax
  by_cases h : x ≤ y
  · rw [if_pos h, if_neg (fun h2 => by rw [Int32.le_iff_toInt_le] at h; rw [Int32.lt_iff_toInt_lt] at h2; omega)]
  · rw [if_neg h, if_pos (by rw [Int32.lt_iff_toInt_lt]; rw [Int32.le_iff_toInt_le] at h; omega)]
theorem imin_top (x : Int32) : imin x 2147483647 = x := by
  unfold imin
  rw [if_neg]
  rw [Int32.lt_iff_toInt_lt]
  have h1 := Int32.toInt_lt x
  have h2 : (2147483647 : Int32).toInt = 2147483647 := by decide
  omega
/-- a row of the reference behind its tickets -/
def NEWT (g g' : Nat → Int32) (k : Nat) (ow re sv en la rn : Int32) : Prop := g' 6 = g 6 + 1 ∧ g' 7 = g 7 + 1 ∧ g' 2 = irm (21 * g 2 + 7) 1024 ∧ g' (103 + 10 * k + 0) = g 7 ∧ g' (103 + 10 * k + 1) = (if sv = -1 then 0 else 1) ∧ g' (103 + 10 * k + 2) = ow ∧ g' (103 + 10 * k + 3) = re ∧ g' (103 + 10 * k + 4) = sv ∧ g' (103 + 10 * k + 5) = g 0 ∧ g' (103 + 10 * k + 6) = en ∧ g' (103 + 10 * k + 7) = (if rn = 1 then imax en la else en) ∧ g' (103 + 10 * k + 8) = irm (21 * g 2 + 7) 1024 ∧ g' (103 + 10 * k + 9) = rn ∧ ∀ j, j ≠ 2 → j ≠ 6 → j ≠ 7 → (j < 103 + 10 * k ∨ 103 + 10 * k + 10 ≤ j) → g' j = g j
theorem if_some {α : Type} {p : Prop} [Decidable p] {a b : α} : (if p then some a else some b) = some (if p then a else b) := by
  by_cases h : p
  · rw [if_pos h, if_pos h]
  · rw [if_neg h, if_neg h]
theorem make_m {g : Nat → Int32} {k : Nat} {ow re sv en la rn : Int32} (h6 : (g 6).toInt = (k : Int)) (hk : k < 24) : ∃ g', f_X12_make g ow re sv en la rn = some (g 7, g') ∧ NEWT g g' k ow re sv en la rn := by
  simp only [f_X12_make, f_X12_drawKey, f_X12_ofTicket, ob_some, zM6, zM7, zM0, zM2, zW2, zW6, zW7, greater_i, if_some, tW0 h6 hk, tW1 h6 hk, tW2 h6 hk, tW3 h6 hk, tW4 h6 hk, tW5 h6 hk, tW6 h6 hk, tW7 h6 hk, tW8 h6 hk, tW9 h6 hk]
  refine ⟨_, congrArg some (Prod.ext ?_ rfl), ?_⟩
  · simp (disch := omega) only [upd_ne, upd_eq, Int32.add_sub_cancel]
  · refine ⟨?_, ?_, ?_, ?_, ?_, ?_, ?_, ?_, ?_, ?_, ?_, ?_, ?_, ?_⟩
    all_goals first
      | (intro j h1 h2 h3 h4; simp (disch := omega) only [upd_ne])
      | (simp (disch := omega) only [upd_ne, upd_eq])
theorem addRow_at {Tr : Int32} {k : Nat} (hr : Tr.toInt = (k : Int)) (hk : k < 24) : f_X6_addRow 240 24 Tr = some (Tr, Tr + 1) := by
  unfold f_X6_addRow
  rw [if_pos (by rw [ti_lt hr (b := 24) (by decide)]; omega), Int32.add_sub_cancel]
/-- a row of the class behind its tickets -/
def NEWC (T T' : Nat → Int32) (k : Nat) (nu ow re sv tm en la ke rn : Int32) : Prop := T' (k * 10 + 0) = nu ∧ T' (k * 10 + 1) = (if sv = -1 then 0 else 1) ∧ T' (k * 10 + 2) = ow ∧ T' (k * 10 + 3) = re ∧ T' (k * 10 + 4) = sv ∧ T' (k * 10 + 5) = tm ∧ T' (k * 10 + 6) = en ∧ T' (k * 10 + 7) = la ∧ T' (k * 10 + 8) = ke ∧ T' (k * 10 + 9) = rn ∧ ∀ j, j < k * 10 → T' j = T j
theorem makeTicket_c {tm seed made Tr ow re sv : Int32} {T : Nat → Int32} {k : Nat} (hr : Tr.toInt = (k : Int)) (hk : k < 24) : ∃ T', f_X5_makeTicket tm seed made Tr T ow re sv = some (Tr, irm (21 * seed + 7) 1024, made + 1, Tr + 1, T') ∧ NEWC T T' k made ow re sv tm (T' (k * 10 + 6)) (T' (k * 10 + 7)) (irm (21 * seed + 7) 1024) (T' (k * 10 + 9)) := by
  have hr1 : (Tr + 1).toInt = ((k + 1 : Nat) : Int) := by rw [ti_add hr ti_one (by omega) (by omega)]; omega
  have h24 : k + 1 ≤ 24 := by omega
  have hkk : k < k + 1 := by omega
  simp only [f_X5_makeTicket, f_X5_drawKey, addRow_at hr hk, ob_some, if_some, tS0 hr1 h24 hr hkk, tS1 hr1 h24 hr hkk, tS2 hr1 h24 hr hkk, tS3 hr1 h24 hr hkk, tS4 hr1 h24 hr hkk, tS5 hr1 h24 hr hkk, tS8 hr1 h24 hr hkk]
  refine ⟨_, rfl, ?_⟩
  refine ⟨?_, ?_, ?_, ?_, ?_, ?_, rfl, rfl, ?_, rfl, ?_⟩
  all_goals first
    | (intro j h1; simp (disch := omega) only [upd_ne])
    | (simp (disch := omega) only [upd_ne, upd_eq])
theorem setLife_c {tm Rr Tr : Int32} {R T : Nat → Int32} {rn me ml : Int32} {r k m : Nat} (hRr : Rr.toInt = (r : Int)) (hr5 : r ≤ 5) (hr : (Tr + 1).toInt = ((k + 1 : Nat) : Int)) (h24 : k + 1 ≤ 24) (hx : Tr.toInt = (k : Int)) (hm : m < r) (hme : (T (k * 10 + 3)).toInt = (m : Int)) : ∃ T', f_X5_setLife tm Rr R (Tr + 1) T Tr rn me ml = some T' ∧ T' (k * 10 + 6) = imin (tm + R (m * 5 + 1)) me ∧ T' (k * 10 + 7) = (if rn = 0 then imin (tm + R (m * 5 + 1)) me else imax (imin (tm + R (m * 5 + 1)) me) (imin (tm + R (m * 5 + 2)) ml)) ∧ T' (k * 10 + 9) = (if rn = 0 then 0 else 1) ∧ ∀ j, j ≠ k * 10 + 6 → j ≠ k * 10 + 7 → j ≠ k * 10 + 9 → T' j = T j := by
  have hkk : k < k + 1 := by omega
  simp only [f_X5_setLife, ob_some, if_some, tR3 hr h24 hx hkk, rR1 hRr hr5 hme hm, rR2 hRr hr5 hme hm, tS6 hr h24 hx hkk, tS7 hr h24 hx hkk, tS9 hr h24 hx hkk]
  refine ⟨_, rfl, ?_, ?_, ?_, ?_⟩
  · by_cases h : rn = 0
    · simp (disch := omega) only [if_pos h, upd_ne, upd_eq]
    · simp (disch := omega) only [if_neg h, upd_ne, upd_eq]
  · by_cases h : rn = 0
    · simp (disch := omega) only [if_pos h, upd_ne, upd_eq]
    · simp (disch := omega) only [if_neg h, upd_ne, upd_eq]
  · by_cases h : rn = 0
    · simp (disch := omega) only [if_pos h, upd_ne, upd_eq]
    · simp (disch := omega) only [if_neg h, upd_ne, upd_eq]
  · intro j h1 h2 h3
    by_cases h : rn = 0
    · simp (disch := omega) only [if_pos h, upd_ne]
    · simp (disch := omega) only [if_neg h, upd_ne]
theorem TKT_new {Tr : Int32} {T T' g g' : Nat → Int32} {k : Nat} {ow re sv en la la' ke rn : Int32} (h : TKT Tr T g k) (hk : k < 24) (hn : NEWT g g' k ow re sv en la rn) (hc : NEWC T T' k (g 7) ow re sv (g 0) en la' (irm (21 * g 2 + 7) 1024) rn) (hl : la' = if rn = 1 then imax en la else en) : TKT (Tr + 1) T' g' (k + 1) := by
  obtain ⟨h1, h2, h3, h4⟩ := h
  obtain ⟨n6, -, -, n0, n1, n2, n3, n4, n5, n66, n7, n8, n9, nf⟩ := hn
  obtain ⟨c0, c1, c2, c3, c4, c5, c6, c7, c8, c9, cf⟩ := hc
  refine ⟨by rw [ti_add h1 ti_one (by omega) (by omega)]; omega, by omega, by rw [n6, h3], fun i c hi hc10 => ?_⟩
  by_cases hik : i = k
  · subst hik
    rcases (show c = 0 ∨ c = 1 ∨ c = 2 ∨ c = 3 ∨ c = 4 ∨ c = 5 ∨ c = 6 ∨ c = 7 ∨ c = 8 ∨ c = 9 by omega) with rfl | rfl | rfl | rfl | rfl | rfl | rfl | rfl | rfl | rfl
    · rw [n0, c0]
    · rw [n1, c1]
    · rw [n2, c2]
    · rw [n3, c3]
    · rw [n4, c4]
    · rw [n5, c5]
    · rw [n66, c6]
    · rw [n7, c7, hl]
    · rw [n8, c8]
    · rw [n9, c9]
  · rw [cf _ (by omega), nf _ (by omega) (by omega) (by omega) (by omega)]
    exact h4 i c (by omega) hc10
