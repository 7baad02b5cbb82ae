/-! PURE: the start. -/
def mkB (n i : Nat) : Nat := bq n i 0 + bq n i 1 + bq n i 2
theorem mk_bits : ∀ (a b c : Bool), ((if a = true then 2 ^ 0 else 0) + (if b = true then 2 ^ 1 else 0) + (if c = true then 2 ^ 2 else 0) : Nat) < 8 ∧ ∀ j, j < 3 → ((if a = true then 2 ^ 0 else 0) + (if b = true then 2 ^ 1 else 0) + (if c = true then 2 ^ 2 else 0) : Nat).testBit j = (if j = 0 then a else if j = 1 then b else c) := by decide
theorem mk_trs (n : Nat) : TRS n (mkB n) := by
  intro i hi
  obtain ⟨h1, h2⟩ := mk_bits (trB n i 0) (trB n i 1) (trB n i 2)
  refine ⟨h1, fun j hj => ?_⟩
  show ((if trB n i 0 = true then 2 ^ 0 else 0) + (if trB n i 1 = true then 2 ^ 1 else 0) + (if trB n i 2 = true then 2 ^ 2 else 0) : Nat).testBit j = _
  rw [h2 j hj]
  match j, hj with
  | 0, _ => rfl
  | 1, _ => rfl
  | 2, _ => rfl
theorem bq_same (n x : Nat) : bq n x x = 0 := by
  unfold bq trB
  rw [if_neg (by simp)]
theorem RT_mask {n : Nat} {R3 : Nat → Int32} (z0 : R3 (0 * 5 + 4) = nI 0) (z1 : R3 (1 * 5 + 4) = nI 0) (z2 : R3 (2 * 5 + 4) = nI 0) : ∀ i, i < 3 → RT9 n R3 (i * 5 + 4) = nI (mkB n i) := by
  have e0 : RT9 n R3 (0 * 5 + 4) = nI (mkB n 0) := by
    unfold RT9 mkB
    rw [trR_ne (by decide), trR_ne (by decide), trR_ne (by decide), trR_ne (by decide), trR_eq (m := bq n 0 1) (by rw [trR_eq z0, Nat.zero_add]), bq_same, Nat.zero_add]
  have e1 : RT9 n R3 (1 * 5 + 4) = nI (mkB n 1) := by
    unfold RT9 mkB
    rw [trR_ne (by decide), trR_ne (by decide), trR_eq (m := bq n 1 0) (by rw [trR_eq (m := 0) (by rw [trR_ne (by decide), trR_ne (by decide)]; exact z1), Nat.zero_add]), bq_same, Nat.add_zero]
  have e2 : RT9 n R3 (2 * 5 + 4) = nI (mkB n 2) := by
    unfold RT9 mkB
    rw [trR_eq (m := bq n 2 0) (by rw [trR_eq (m := 0) (by rw [trR_ne (by decide), trR_ne (by decide), trR_ne (by decide), trR_ne (by decide)]; exact z2), Nat.zero_add]), bq_same, Nat.add_zero]
  intro i hi
  match i, hi with
  | 0, _ => exact e0
  | 1, _ => exact e1
  | 2, _ => exact e2
theorem RT_ne {n j : Nat} {R : Nat → Int32} (h : j % 5 ≠ 4) : RT9 n R j = R j := by
  unfold RT9
  rw [trR_ne (by omega), trR_ne (by omega), trR_ne (by omega), trR_ne (by omega), trR_ne (by omega), trR_ne (by omega)]
/-- three rows of five: each as it was written -/
theorem rows3 {A B C R : Nat → Int32} {k0 a0 a1 a2 b0 b1 b2 b3 c0 c1 c2 c3 : Int32} (hA : A = rowR R 0 k0 a0 a1 a2) (hB : B = rowR A 1 b0 b1 b2 b3) (hC : C = rowR B 2 c0 c1 c2 c3) : (C 0 = k0 ∧ C 1 = a0 ∧ C 2 = a1 ∧ C 3 = a2 ∧ C 4 = 0) ∧ (C 5 = b0 ∧ C 6 = b1 ∧ C 7 = b2 ∧ C 8 = b3 ∧ C 9 = 0) ∧ (C 10 = c0 ∧ C 11 = c1 ∧ C 12 = c2 ∧ C 13 = c3 ∧ C 14 = 0) := by
  have n2 : ∀ j, j < 10 → C j = B j := fun j hj => by rw [hC]; exact rowR_ne (by omega)
  have n1 : ∀ j, j < 5 → B j = A j := fun j hj => by rw [hB]; exact rowR_ne (by omega)
  refine ⟨?_, ?_, ?_⟩
  · rw [n2 0 (by decide), n2 1 (by decide), n2 2 (by decide), n2 3 (by decide), n2 4 (by decide), n1 0 (by decide), n1 1 (by decide), n1 2 (by decide), n1 3 (by decide), n1 4 (by decide), hA]
    exact rowR_at (k := 0)
  · rw [n2 5 (by decide), n2 6 (by decide), n2 7 (by decide), n2 8 (by decide), n2 9 (by decide), hB]
    exact rowR_at (k := 1)
  · rw [hC]
    exact rowR_at (k := 2)
