/-! PURE: the tokens of the text on both sides. -/
/-- the byte at a place, or none -/
def byt (mi : Nat → Int32) (n k : Nat) : Int32 := if k < n then mi k else -1
theorem byt_in {mi : Nat → Int32} {n k : Nat} (h : k < n) : byt mi n k = mi k := if_pos h
theorem byt_out {mi : Nat → Int32} {n k : Nat} (h : n ≤ k) : byt mi n k = -1 := if_neg (by omega)
theorem byt_rng {n : Nat} {ic ml : Int32} {ib mi : Nat → Int32} (h : INPn n ic ib ml mi) (k : Nat) : -1 ≤ (byt mi n k).toInt ∧ (byt mi n k).toInt ≤ 255 := by
  by_cases hk : k < n
  · rw [byt_in hk]
    have := (h.2.2.2 k hk).2
    omega
  · rw [byt_out (by omega)]
    decide
theorem n10 : ¬ ((1 : Int32) = 0) := by decide
theorem at_c {n : Nat} {ic ml : Int32} {ib mi : Nat → Int32} {x : Int32} {k : Nat} (h : INPn n ic ib ml mi) (hx : x.toInt = (k : Int)) : f_X0_at 600 ic ib x = some (byt mi n k) := by
  obtain ⟨h1, h2, h3, h4⟩ := h
  unfold f_X0_at
  rw [if_neg (ti_neg hx (by omega))]
  by_cases hk : k < n
  · rw [if_neg (by rw [ti_le h1 hx]; omega), if_neg (by rw [ti_le (ti_nat (by decide)) hx]; omega)]
    rw [ob_some, if_neg n10, rd_at hx (by omega), ob_some, byt_in hk, (h4 k hk).1]
  · rw [if_pos (by rw [ti_le h1 hx]; omega), byt_out (by omega)]
    rfl
theorem byteAt_m {n : Nat} {ic ml : Int32} {ib mi : Nat → Int32} {x : Int32} {k : Nat} (h : INPn n ic ib ml mi) (hx : x.toInt = (k : Int)) : f_X12_byteAt ml mi x = some (byt mi n k) := by
  obtain ⟨h1, h2, h3, h4⟩ := h
  unfold f_X12_byteAt
  rw [← h3]
  by_cases hk : k < n
  · rw [if_neg (by rw [ti_le h1 hx]; omega), rd_at hx (by omega), byt_in hk]
    rfl
  · rw [if_pos (by rw [ti_le h1 hx]; omega), byt_out (by omega)]
theorem ti_inc {x : Int32} {k : Nat} (hx : x.toInt = (k : Int)) (hk : k < 100000) : (x + 1).toInt = ((k + 1 : Nat) : Int) := by
  rw [ti_add hx ti_one (by omega) (by omega)]; omega
theorem m1_32 : ¬ ((-1 : Int32) = 32) := by decide
theorem m1_10 : ¬ ((-1 : Int32) = 10) := by decide
theorem blanks_L {n : Nat} {ic ml : Int32} {ib mi : Nat → Int32} (h : INPn n ic ib ml mi) : ∀ (f p : Nat) (x : Int32), x.toInt = (p : Int) → p ≤ n → n < p + f → ∃ (q : Nat) (y : Int32), y.toInt = (q : Int) ∧ p ≤ q ∧ q ≤ n ∧ f_X0_endOfBlanks_L2 600 ic ib f x = some y ∧ f_X12_advance_L0 ml mi f x = some y := by
  have hn := h.2.1
  intro f
  induction f with
  | zero => intro p x hx hp hf; omega
  | succ f ih =>
    intro p x hx hp hf
    have hx2 := ti_inc hx (by omega)
    rw [f_X0_endOfBlanks_L2, f_X12_advance_L0]
    simp only [at_c h hx, byteAt_m h hx, ob_some]
    by_cases hk : p < n
    · rw [if_neg (by rw [ti_le h.1 hx]; omega)]
      by_cases h32 : byt mi n p = 32
      · rw [if_pos h32, if_pos h32]
        obtain ⟨q, y, a, b, c, d, e⟩ := ih (p + 1) (x + 1) hx2 hk (by omega)
        exact ⟨q, y, a, by omega, c, d, e⟩
      · rw [if_neg h32, if_neg h32]
        by_cases h10 : byt mi n p = 10
        · rw [if_pos h10, if_pos h10]
          obtain ⟨q, y, a, b, c, d, e⟩ := ih (p + 1) (x + 1) hx2 hk (by omega)
          exact ⟨q, y, a, by omega, c, d, e⟩
        · rw [if_neg h10, if_neg h10]
          exact ⟨p, x, hx, Nat.le_refl p, hp, rfl, rfl⟩
    · rw [if_pos (by rw [ti_le h.1 hx]; omega), byt_out (by omega), if_neg m1_32, if_neg m1_10]
      exact ⟨p, x, hx, Nat.le_refl p, hp, rfl, rfl⟩
/-- all bytes of a stretch lie between two -/
def ALLB (mi : Nat → Int32) (lo hi : Int) (a b : Nat) : Prop := ∀ k, a ≤ k → k < b → lo ≤ (mi k).toInt ∧ (mi k).toInt ≤ hi
theorem run_L {n : Nat} {ic ml lo hi : Int32} {l u : Int} {ib mi : Nat → Int32} (h : INPn n ic ib ml mi) (hlo : lo.toInt = l) (hhi : hi.toInt = u) : ∀ (f p : Nat) (x : Int32), x.toInt = (p : Int) → p ≤ n → n < p + f → ∃ (q : Nat) (y : Int32), y.toInt = (q : Int) ∧ p ≤ q ∧ q ≤ n ∧ f_X0_endOfRun_L3 600 ic ib lo hi f x = some y ∧ ALLB mi l u p q ∧ (q < n → (mi q).toInt < l ∨ u < (mi q).toInt) := by
  have hn := h.2.1
  intro f
  induction f with
  | zero => intro p x hx hp hf; omega
  | succ f ih =>
    intro p x hx hp hf
    have hx2 := ti_inc hx (by omega)
    rw [f_X0_endOfRun_L3]
    simp only [at_c h hx, ob_some]
    by_cases hk : p < n
    · rw [if_neg (by rw [ti_le h.1 hx]; omega), byt_in hk]
      by_cases h1 : mi p < lo
      · rw [if_pos h1]
        exact ⟨p, x, hx, Nat.le_refl p, hp, rfl, fun k h1 h2 => by omega, fun _ => Or.inl (by rw [Int32.lt_iff_toInt_lt, hlo] at h1; exact h1)⟩
      · rw [if_neg h1]
        by_cases h2 : hi < mi p
        · rw [if_pos h2]
          exact ⟨p, x, hx, Nat.le_refl p, hp, rfl, fun k h1 h2 => by omega, fun _ => Or.inr (by rw [Int32.lt_iff_toInt_lt, hhi] at h2; exact h2)⟩
        · rw [if_neg h2]
          obtain ⟨q, y, a, b, c, d, e, e2⟩ := ih (p + 1) (x + 1) hx2 hk (by omega)
          refine ⟨q, y, a, by omega, c, d, fun k h3 h4 => ?_, e2⟩
          by_cases hkp : k = p
          · rw [Int32.lt_iff_toInt_lt] at h1 h2
            rw [hkp]
            omega
          · exact e k (by omega) h4
    · rw [if_pos (by rw [ti_le h.1 hx]; omega)]
      exact ⟨p, x, hx, Nat.le_refl p, hp, rfl, fun k h1 h2 => by omega, fun z => absurd z hk⟩
/-- the value of a number on both sides: the class stops at a hundred million -/
def DIG (c m : Int32) : Prop := 0 ≤ m.toInt ∧ m.toInt ≤ 999999999 ∧ ((m.toInt ≤ 99999999 ∧ c = m) ∨ (100000000 ≤ m.toInt ∧ c = 100000000))
theorem between_m {v lo hi : Int32} {a l u : Int} (hv : v.toInt = a) (hl : lo.toInt = l) (hu : hi.toInt = u) : f_X12_isBetween v lo hi = some (if l ≤ a ∧ a ≤ u then 1 else 0) := by
  by_cases h : l ≤ a ∧ a ≤ u
  · rw [if_pos h]
    exact between_yes (by rw [ti_lt hv hl]; omega) (by rw [ti_lt hu hv]; omega)
  · rw [if_neg h]
    refine between_no ?_
    rw [ti_lt hv hl, ti_lt hu hv]
    omega
theorem isLetter_m (v : Int32) : f_X12_isLetter v = some (if 97 ≤ v.toInt ∧ v.toInt ≤ 122 then 1 else 0) := by
  unfold f_X12_isLetter
  rw [between_m (v := v) rfl (l := 97) (u := 122) (by decide) (by decide)]
  by_cases h : 97 ≤ v.toInt ∧ v.toInt ≤ 122
  · rw [if_pos h]; rfl
  · rw [if_neg h]; rfl
theorem digits_L {n q : Nat} {ic ml y : Int32} {ib mi : Nat → Int32} (h : INPn n ic ib ml mi) (hy : y.toInt = (q : Int)) (hq : q ≤ n) (hend : q < n → (mi q).toInt < 48 ∨ 57 < (mi q).toInt) : ∀ (f p : Nat) (x c m : Int32), x.toInt = (p : Int) → p ≤ q → q < p + f → ALLB mi 48 57 p q → DIG c m → ∃ c' m', f_X0_numberBetween_L5 600 ic ib y f c x = some c' ∧ f_X12_advance_L144 ml mi f x m = some (y, m') ∧ DIG c' m' := by
  have hn := h.2.1
  intro f
  induction f with
  | zero => intro p x c m hx hp hf; omega
  | succ f ih =>
    intro p x c m hx hp hf hA hD
    have hx2 := ti_inc hx (by omega)
    have h48 : (48 : Int32).toInt = 48 := by decide
    have h57 : (57 : Int32).toInt = 57 := by decide
    rw [f_X0_numberBetween_L5, f_X12_advance_L144]
    simp only [at_c h hx, byteAt_m h hx, ob_some]
    by_cases hk : p < q
    · have hpn : p < n := by omega
      obtain ⟨b1, b2⟩ := hA p (Nat.le_refl p) hk
      rw [if_neg (by rw [ti_le hy hx]; omega), byt_in hpn, between_m rfl h48 h57, if_pos ⟨b1, b2⟩]
      simp only [ob_some, i10, if_false]
      obtain ⟨d1, d2, d3⟩ := hD
      have hA2 : ALLB mi 48 57 (p + 1) q := fun k h1 h2 => hA k (by omega) h2
      have h99 : (99999999 : Int32).toInt = 99999999 := by decide
      have h10 : (10 : Int32).toInt = 10 := by decide
      have h8 : (100000000 : Int32).toInt = 100000000 := by decide
      rcases d3 with ⟨d3, rfl⟩ | ⟨d3, rfl⟩
      · have e1 : (10 * c).toInt = 10 * c.toInt := ti_mul h10 rfl (by omega) (by omega)
        have e2 : (10 * c + mi p).toInt = 10 * c.toInt + (mi p).toInt := ti_add e1 rfl (by omega) (by omega)
        have e3 : (10 * c + mi p - 48).toInt = 10 * c.toInt + (mi p).toInt - 48 := ti_sub e2 h48 (by omega) (by omega)
        rw [if_pos (by rw [ti_le rfl h99]; omega)]
        refine ih (p + 1) (x + 1) _ _ hx2 hk (by omega) hA2 ⟨by rw [e3]; omega, by rw [e3]; omega, ?_⟩
        unfold imin
        by_cases hb : 10 * c + mi p - 48 < 100000000
        · rw [if_pos hb]
          rw [ti_lt e3 h8] at hb
          exact Or.inl ⟨by rw [e3]; omega, rfl⟩
        · rw [if_neg hb]
          rw [ti_lt e3 h8] at hb
          exact Or.inr ⟨by rw [e3]; omega, rfl⟩
      · have e1 : (10 * (100000000 : Int32)).toInt = 1000000000 := by decide
        have e2 : (10 * (100000000 : Int32) + mi p).toInt = 1000000000 + (mi p).toInt := ti_add e1 rfl (by omega) (by omega)
        have e3 : (10 * (100000000 : Int32) + mi p - 48).toInt = 1000000000 + (mi p).toInt - 48 := ti_sub e2 h48 (by omega) (by omega)
        rw [if_neg (by rw [ti_le rfl h99]; omega)]
        refine ih (p + 1) (x + 1) _ _ hx2 hk (by omega) hA2 ⟨d1, d2, Or.inr ⟨d3, ?_⟩⟩
        unfold imin
        rw [if_neg (by rw [ti_lt e3 h8]; omega)]
    · have hpq : p = q := by omega
      rw [if_pos (by rw [ti_le hy hx]; omega)]
      have hno : ¬ (48 ≤ (byt mi n p).toInt ∧ (byt mi n p).toInt ≤ 57) := by
        by_cases hpn : p < n
        · rw [byt_in hpn, hpq]
          have := hend (by omega)
          omega
        · rw [byt_out (by omega)]
          decide
      rw [between_m rfl h48 h57, if_neg hno]
      simp only [ob_some, if_true]
      have hxy : x = y := ti_eq (by rw [hx, hy, hpq])
      exact ⟨c, m, rfl, by rw [hxy], hD⟩
theorem letters_L {n q : Nat} {ic ml y : Int32} {ib mi : Nat → Int32} (h : INPn n ic ib ml mi) (hy : y.toInt = (q : Int)) (hq : q ≤ n) (hend : q < n → (mi q).toInt < 97 ∨ 122 < (mi q).toInt) : ∀ (f p j : Nat) (x c : Int32), x.toInt = (p : Int) → p ≤ q → q < p + f → ALLB mi 97 122 p q → c.toInt = (j : Int) → j ≤ p → ∃ c', f_X12_advance_L91 ml mi f x c = some (y, c') ∧ c'.toInt = ((j + (q - p) : Nat) : Int) := by
  have hn := h.2.1
  intro f
  induction f with
  | zero => intro p j x c hx hp hf; omega
  | succ f ih =>
    intro p j x c hx hp hf hA hc hj
    have hx2 := ti_inc hx (by omega)
    have h97 : (97 : Int32).toInt = 97 := by decide
    have h122 : (122 : Int32).toInt = 122 := by decide
    rw [f_X12_advance_L91]
    simp only [byteAt_m h hx, ob_some, isLetter_m]
    by_cases hk : p < q
    · have hpn : p < n := by omega
      obtain ⟨b1, b2⟩ := hA p (Nat.le_refl p) hk
      have e1 : (if 97 ≤ (byt mi n p).toInt ∧ (byt mi n p).toInt ≤ 122 then (1 : Int32) else 0) = 1 := if_pos (by rw [byt_in hpn]; exact ⟨b1, b2⟩)
      rw [e1, if_neg n10]
      obtain ⟨c', e1, e2⟩ := ih (p + 1) (j + 1) (x + 1) (c + 1) hx2 hk (by omega) (fun k h1 h2 => hA k (by omega) h2) (ti_inc hc (by omega)) (by omega)
      exact ⟨c', e1, by rw [e2]; omega⟩
    · have hpq : p = q := by omega
      have hno : ¬ (97 ≤ (byt mi n p).toInt ∧ (byt mi n p).toInt ≤ 122) := by
        by_cases hpn : p < n
        · rw [byt_in hpn, hpq]
          have := hend (by omega)
          omega
        · rw [byt_out (by omega)]
          decide
      have e1 : (if 97 ≤ (byt mi n p).toInt ∧ (byt mi n p).toInt ≤ 122 then (1 : Int32) else 0) = 0 := if_neg hno
      rw [e1, if_pos rfl]
      have hxy : x = y := ti_eq (by rw [hx, hy, hpq])
      exact ⟨c, by rw [hxy], by rw [hc]; omega⟩
