/-! PURE: trust of a pair; uses that are known; the refusals of tickets. -/
theorem bit_dec : ∀ m, m < 32 → ∀ j, j < 5 → (((Int32.ofNat m >>> (Int32.ofNat j &&& 31)) &&& 1 = 1) ↔ (m.testBit j = true)) := by decide +kernel
theorem ofNat_of {x : Int32} {k : Nat} (hx : x.toInt = (k : Int)) : x = Int32.ofNat k := by
  have h := Int32.toInt_lt x
  exact ti_eq (by rw [hx, ti_nat (by omega)])
theorem hasTrust_c {Rr x y : Int32} {R g : Nat → Int32} {r i j : Nat} (hR : RLM Rr R g r) (hT : TRU R g r) (hx : x.toInt = (i : Int)) (hi : i < r) (hy : y.toInt = (j : Int)) (hj : j < 5) : f_X2_hasTrust Rr R x y = some (if g (30 + 5 * i + j) = 1 then 1 else 0) := by
  obtain ⟨mk, h1, h2⟩ := hT
  obtain ⟨h3, h4⟩ := h1 i hi
  have hr5 := hR.2.1
  have h5 : mk i < 32 := Nat.lt_of_lt_of_le h4 (Nat.pow_le_pow_right (n := 2) (j := 5) (by decide) hr5)
  unfold f_X2_hasTrust
  rw [get_at (W := 5) (c := 4) (by decide) hR.1 hx (by decide) hi (by omega) (by decide), h3, ofNat_of hy]
  show (if ((Int32.ofNat (mk i) >>> (Int32.ofNat j &&& 31)) &&& 1) = 1 then some 1 else some 0) = _
  by_cases hb : (mk i).testBit j = true
  · have e : g (30 + 5 * i + j) = 1 := by rw [h2 i j (by omega) hj, if_pos ⟨hi, hb⟩]
    rw [if_pos ((bit_dec _ h5 _ hj).mpr hb), if_pos e]
  · have e : ¬ g (30 + 5 * i + j) = 1 := by rw [h2 i j (by omega) hj, if_neg (fun z => hb z.2)]; decide
    rw [if_neg (fun z => hb ((bit_dec _ h5 _ hj).mp z)), if_neg e]
theorem trusted_m {x y : Int32} {g : Nat → Int32} {i j : Nat} (hx : x.toInt = (i : Int)) (hi : i < 5) (hy : y.toInt = (j : Int)) (hj : j < 5) : f_X12_trusted g x y = some (if g (30 + 5 * i + j) = 1 then 1 else 0) := by
  unfold f_X12_trusted
  rw [rd_at (off_ti (aff_ti (B := 30) (W := 5) (by decide) (by decide) hx (by omega)) hy (by omega)) (by omega)]
  show (if g (30 + 5 * i + j) = 1 then some 1 else some 0) = _
  by_cases h : g (30 + 5 * i + j) = 1
  · rw [if_pos h, if_pos h]
  · rw [if_neg h, if_neg h]
theorem alv_zero {e tm : Int32} : (alv e tm = 0) = (e ≤ tm) := by
  unfold alv
  by_cases h : e ≤ tm
  · rw [if_pos h]; exact propext ⟨fun _ => h, fun _ => rfl⟩
  · rw [if_neg h]; exact propext ⟨fun z => absurd z (by decide), fun z => absurd z h⟩
theorem alive_c {Tr x tm : Int32} {T g : Nat → Int32} {k i : Nat} (hT : TKT Tr T g k) (hx : x.toInt = (i : Int)) (hi : i < k) : f_X7_isAlive Tr T x tm = some (alv (g (103 + 10 * i + 6)) tm) := by
  rw [isAlive_at hT.1 hx hi hT.2.1, hT.2.2.2 i 6 hi (by decide)]
def KN (g : Nat → Int32) (e j : Nat) (v1 v2 v3 v4 : Int32) : Prop := ∃ i, j ≤ i ∧ i < e ∧ g (343 + 4 * i + 0) = v1 ∧ g (343 + 4 * i + 1) = v2 ∧ g (343 + 4 * i + 2) = v3 ∧ ¬ g (343 + 4 * i + 3) < v4
def UD (g : Nat → Int32) (e j : Nat) (v1 v2 v3 : Int32) : Prop := ∃ i, j ≤ i ∧ i < e ∧ g (343 + 4 * i + 0) = v1 ∧ g (343 + 4 * i + 1) = v2 ∧ g (343 + 4 * i + 2) = v3
theorem knows_one {Er v1 v2 v3 v4 x : Int32} {E : Nat → Int32} {n : Nat} (h : 0 < n) : f_X9_knows_L6 Er E v1 v2 v3 v4 n 1 x = some 1 := by
  match n, h with
  | n + 1, _ =>
    rw [f_X9_knows_L6]
    show (if Er ≤ x then some 1 else if (1 : Int32) = 0 then _ else some 1) = some 1
    rw [if_neg (show ¬ (1 : Int32) = 0 by decide)]
    by_cases hq : Er ≤ x
    · rw [if_pos hq]
    · rw [if_neg hq]
theorem knows_L {Er v1 v2 v3 v4 : Int32} {E g : Nat → Int32} {e : Nat} (hE : USE Er E g e) : ∀ (n j : Nat) (x : Int32), x.toInt = (j : Int) → j ≤ e → e < j + n → ∃ a, f_X9_knows_L6 Er E v1 v2 v3 v4 n 0 x = some a ∧ (a = 0 ∨ a = 1) ∧ (a = 1 ↔ KN g e j v1 v2 v3 v4) := by
  intro n
  induction n with
  | zero => intro j x hx hj hn; omega
  | succ n ih =>
    intro j x hx hj hn
    have he := hE.2.1
    rw [f_X9_knows_L6]
    by_cases hq : Er ≤ x
    · have hq2 : e ≤ j := by
        rw [ti_le hE.1 hx] at hq
        omega
      refine ⟨0, ?_, Or.inl rfl, fun z => absurd z (by decide), fun ⟨i, a, b, _⟩ => by omega⟩
      show (if Er ≤ x then some 0 else _) = some 0
      rw [if_pos hq]
    · have hj2 : j < e := by
        rw [ti_le hE.1 hx] at hq
        omega
      have hx2 : (x + 1).toInt = ((j + 1 : Nat) : Int) := by rw [ti_add hx ti_one (by omega) (by omega)]; omega
      simp only [f_X6_size, ob_some, if_neg hq, eG0 hE hx hj2, eG1 hE hx hj2, eG2 hE hx hj2, eG3 hE hx hj2, if_true]
      by_cases hm : g (343 + 4 * j + 0) = v1 ∧ g (343 + 4 * j + 1) = v2 ∧ g (343 + 4 * j + 2) = v3 ∧ ¬ g (343 + 4 * j + 3) < v4
      · obtain ⟨m1, m2, m3, m4⟩ := hm
        refine ⟨1, ?_, Or.inr rfl, fun _ => ⟨j, Nat.le_refl _, hj2, m1, m2, m3, m4⟩, fun _ => rfl⟩
        rw [if_pos m1, if_pos m2, if_pos m3, if_neg m4]
        exact knows_one (by omega)
      · obtain ⟨a, h1, h2, h3⟩ := ih (j + 1) (x + 1) hx2 hj2 (by omega)
        refine ⟨a, ?_, h2, ?_⟩
        · by_cases m1 : g (343 + 4 * j + 0) = v1
          · rw [if_pos m1]
            by_cases m2 : g (343 + 4 * j + 1) = v2
            · rw [if_pos m2]
              by_cases m3 : g (343 + 4 * j + 2) = v3
              · rw [if_pos m3]
                by_cases m4 : g (343 + 4 * j + 3) < v4
                · rw [if_pos m4]; exact h1
                · exact absurd ⟨m1, m2, m3, m4⟩ hm
              · rw [if_neg m3]; exact h1
            · rw [if_neg m2]; exact h1
          · rw [if_neg m1]; exact h1
        · rw [h3]
          constructor
          · rintro ⟨i, b1, b2, b3⟩
            exact ⟨i, by omega, b2, b3⟩
          · rintro ⟨i, b1, b2, b3⟩
            by_cases hij : i = j
            · rw [hij] at b3
              exact absurd b3 hm
            · exact ⟨i, by omega, b2, b3⟩
theorem knows_c {Er v1 v2 v3 v4 : Int32} {E g : Nat → Int32} {e : Nat} (hE : USE Er E g e) : ∃ a, f_X9_knows Er E v1 v2 v3 v4 = some a ∧ (a = 0 ∨ a = 1) ∧ (a = 1 ↔ KN g e 0 v1 v2 v3 v4) := by
  have he := hE.2.1
  obtain ⟨a, h1, h2, h3⟩ := knows_L (v1 := v1) (v2 := v2) (v3 := v3) (v4 := v4) hE 5000 0 0 (by decide) (by omega) (by omega)
  refine ⟨a, ?_, h2, h3⟩
  unfold f_X9_knows
  rw [h1]
  rcases h2 with rfl | rfl
  · rfl
  · rfl
theorem isUsed_L {g : Nat → Int32} {e : Nat} {v1 v2 v3 : Int32} (h8 : (g 8).toInt = (e : Int)) (he : e ≤ 30) : ∀ (n j : Nat) (x : Int32), x.toInt = (j : Int) → j ≤ e → e < j + n → ∃ a, f_X12_isUsed_L16 g v1 v2 v3 n x = some a ∧ (a = 0 ∨ a = 1) ∧ (a = 1 ↔ UD g e j v1 v2 v3) := by
  intro n
  induction n with
  | zero => intro j x hx hj hn; omega
  | succ n ih =>
    intro j x hx hj hn
    rw [f_X12_isUsed_L16]
    by_cases hq : g 8 ≤ x
    · have hq2 : e ≤ j := by
        rw [ti_le h8 hx] at hq
        omega
      refine ⟨0, ?_, Or.inl rfl, fun z => absurd z (by decide), fun ⟨i, a, b, _⟩ => by omega⟩
      simp only [zM8, ob_some, if_pos hq]
    · have hj2 : j < e := by
        rw [ti_le h8 hx] at hq
        omega
      have hx2 : (x + 1).toInt = ((j + 1 : Nat) : Int) := by rw [ti_add hx ti_one (by omega) (by omega)]; omega
      have hj30 : j < 30 := by omega
      simp only [zM8, f_X12_ofUse, ob_some, if_neg hq, eM0 hx hj30, eM1 hx hj30, eM2 hx hj30]
      by_cases hm : g (343 + 4 * j + 0) = v1 ∧ g (343 + 4 * j + 1) = v2 ∧ g (343 + 4 * j + 2) = v3
      · obtain ⟨m1, m2, m3⟩ := hm
        refine ⟨1, ?_, Or.inr rfl, fun _ => ⟨j, Nat.le_refl _, hj2, m1, m2, m3⟩, fun _ => rfl⟩
        rw [if_pos m1, if_pos m2, if_pos m3]
      · obtain ⟨a, h1, h2, h3⟩ := ih (j + 1) (x + 1) hx2 hj2 (by omega)
        refine ⟨a, ?_, h2, ?_⟩
        · by_cases m1 : g (343 + 4 * j + 0) = v1
          · rw [if_pos m1]
            by_cases m2 : g (343 + 4 * j + 1) = v2
            · rw [if_pos m2]
              by_cases m3 : g (343 + 4 * j + 2) = v3
              · exact absurd ⟨m1, m2, m3⟩ hm
              · rw [if_neg m3]; exact h1
            · rw [if_neg m2]; exact h1
          · rw [if_neg m1]; exact h1
        · rw [h3]
          constructor
          · rintro ⟨i, b1, b2, b3⟩
            exact ⟨i, by omega, b2, b3⟩
          · rintro ⟨i, b1, b2, b3⟩
            by_cases hij : i = j
            · rw [hij] at b3
              exact absurd b3 hm
            · exact ⟨i, by omega, b2, b3⟩
theorem isUsed_m {g : Nat → Int32} {e i : Nat} {x v2 : Int32} (h8 : (g 8).toInt = (e : Int)) (he : e ≤ 30) (hx : x.toInt = (i : Int)) (hi : i < 6) : ∃ a, f_X12_isUsed g x v2 = some a ∧ (a = 0 ∨ a = 1) ∧ (a = 1 ↔ UD g e 0 x v2 (g 0 + g (55 + 5 * i + 3))) := by
  obtain ⟨a, h1, h2⟩ := isUsed_L (v1 := x) (v2 := v2) (v3 := g 0 + g (55 + 5 * i + 3)) h8 he 5000 0 0 (by decide) (by omega) (by omega)
  refine ⟨a, ?_, h2⟩
  simp only [f_X12_isUsed, zM0, f_X12_ofUser, ob_some, uM3 hx hi, h1]
