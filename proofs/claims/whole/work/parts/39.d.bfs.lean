/-! PURE: how far realms are: sets of bits against rounds. -/
theorem or_dec : ∀ a, a < 32 → ∀ b, b < 32 → Int32.ofNat a ||| Int32.ofNat b = Int32.ofNat (a ||| b) := by decide +kernel
theorem one_shl : ∀ j, j < 5 → (1 : Int32) <<< (Int32.ofNat j &&& 31) = Int32.ofNat (2 ^ j) := by decide +kernel
def CD (m : Nat) : Nat := (if m.testBit 0 = true then 1 else 0) + (if m.testBit 1 = true then 1 else 0) + (if m.testBit 2 = true then 1 else 0) + (if m.testBit 3 = true then 1 else 0) + (if m.testBit 4 = true then 1 else 0)
theorem CD_grow : ∀ a, a < 32 → ∀ b, b < 32 → ¬ a ||| b = a → CD a < CD (a ||| b) := by decide +kernel
theorem CD_le : ∀ r, r < 6 → ∀ m, m < 32 → m < 2 ^ r → CD m ≤ r := by decide +kernel
theorem CD_one : ∀ i, i < 5 → CD (2 ^ i) = 1 := by decide +kernel
def BM (mk : Nat → Nat) (m : Nat) : Nat → Nat
  | 0 => 0
  | i + 1 => if m.testBit i = true then BM mk m i ||| mk i else BM mk m i
def RM (mk : Nat → Nat) (r a : Nat) : Nat → Nat
  | 0 => 2 ^ a
  | s + 1 => RM mk r a s ||| BM mk (RM mk r a s) r
def RA (mk : Nat → Nat) (r a b : Nat) : Nat → Nat → Int32
  | 0, _ => -1
  | k + 1, s => if (RM mk r a s).testBit b = true then Int32.ofNat s else RA mk r a b k (s + 1)
theorem BM_lt {mk : Nat → Nat} {m r b : Nat} (h : ∀ i, i < r → mk i < 2 ^ b) : ∀ i, i ≤ r → BM mk m i < 2 ^ b := by
  intro i
  induction i with
  | zero => intro _; exact Nat.two_pow_pos b
  | succ i ih =>
    intro hi
    rw [BM]
    by_cases hb : m.testBit i = true
    · rw [if_pos hb]; exact Nat.or_lt_two_pow (ih (by omega)) (h i (by omega))
    · rw [if_neg hb]; exact ih (by omega)
theorem BM_bit {mk : Nat → Nat} {m v : Nat} : ∀ i, (BM mk m i).testBit v = true ↔ ∃ a, a < i ∧ m.testBit a = true ∧ (mk a).testBit v = true := by
  intro i
  induction i with
  | zero =>
    constructor
    · intro h
      rw [BM, Nat.zero_testBit] at h
      cases h
    · rintro ⟨a, h, -⟩
      omega
  | succ i ih =>
    rw [BM]
    by_cases hb : m.testBit i = true
    · rw [if_pos hb, Nat.testBit_or, Bool.or_eq_true, ih]
      constructor
      · rintro (⟨a, h1, h2⟩ | h)
        · exact ⟨a, by omega, h2⟩
        · exact ⟨i, by omega, hb, h⟩
      · rintro ⟨a, h1, h2, h3⟩
        by_cases hai : a = i
        · rw [hai] at h3; exact Or.inr h3
        · exact Or.inl ⟨a, by omega, h2, h3⟩
    · rw [if_neg hb, ih]
      constructor
      · rintro ⟨a, h1, h2⟩
        exact ⟨a, by omega, h2⟩
      · rintro ⟨a, h1, h2, h3⟩
        by_cases hai : a = i
        · rw [hai] at h2; exact absurd h2 hb
        · exact ⟨a, by omega, h2, h3⟩
theorem RM_lt {mk : Nat → Nat} {r a : Nat} (h : ∀ i, i < r → mk i < 2 ^ r) (ha : a < r) : ∀ s, RM mk r a s < 2 ^ r := by
  intro s
  induction s with
  | zero => exact Nat.pow_lt_pow_right (by decide) ha
  | succ s ih => exact Nat.or_lt_two_pow ih (BM_lt h r (Nat.le_refl r))
theorem pow_le_32 {r : Nat} (h : r ≤ 5) : 2 ^ r ≤ 32 := Nat.pow_le_pow_right (n := 2) (j := 5) (by decide) h
theorem RM_stay {mk : Nat → Nat} {r a p : Nat} (h : RM mk r a (p + 1) = RM mk r a p) : ∀ j, RM mk r a (p + j) = RM mk r a p := by
  intro j
  induction j with
  | zero => rfl
  | succ j ih =>
    show RM mk r a (p + j) ||| BM mk (RM mk r a (p + j)) r = _
    rw [ih]
    exact h
theorem RM_card {mk : Nat → Nat} {r a : Nat} (h : ∀ i, i < r → mk i < 2 ^ r) (hr : r ≤ 5) (ha : a < r) : ∀ s, (∀ p, p < s → ¬ RM mk r a (p + 1) = RM mk r a p) → s + 1 ≤ CD (RM mk r a s) := by
  have h32 := pow_le_32 hr
  intro s
  induction s with
  | zero =>
    intro _
    show 0 + 1 ≤ CD (2 ^ a)
    rw [CD_one a (by omega)]
    exact Nat.le_refl 1
  | succ s ih =>
    intro hp
    have h1 := ih (fun p q => hp p (by omega))
    have h2 := CD_grow _ (Nat.lt_of_lt_of_le (RM_lt h ha s) h32) _ (Nat.lt_of_lt_of_le (BM_lt (m := RM mk r a s) h r (Nat.le_refl r)) h32) (hp s (by omega))
    show s + 1 + 1 ≤ CD (RM mk r a s ||| BM mk (RM mk r a s) r)
    omega
theorem RM_stable {mk : Nat → Nat} {r a : Nat} (h : ∀ i, i < r → mk i < 2 ^ r) (hr : r ≤ 5) (ha : a < r) {s : Nat} (hs : r ≤ s + 1) : RM mk r a s = RM mk r a (r - 1) := by
  have h32 := pow_le_32 hr
  have hex : ∃ p, p < r ∧ RM mk r a (p + 1) = RM mk r a p := by
    refine Classical.byContradiction fun hn => ?_
    have h1 := RM_card h hr ha r (fun p hp e => hn ⟨p, hp, e⟩)
    have h2 := CD_le r (by omega) _ (Nat.lt_of_lt_of_le (RM_lt h ha r) h32) (RM_lt h ha r)
    omega
  obtain ⟨p, hp, he⟩ := hex
  have e1 := RM_stay he (s - p)
  have e2 := RM_stay he (r - 1 - p)
  rw [show p + (s - p) = s by omega] at e1
  rw [show p + (r - 1 - p) = r - 1 by omega] at e2
  rw [e1, e2]
theorem RA_spec {mk : Nat → Nat} {r a b : Nat} : ∀ k s, (∃ q, s ≤ q ∧ q < s + k ∧ RA mk r a b k s = Int32.ofNat q ∧ (RM mk r a q).testBit b = true ∧ ∀ p, s ≤ p → p < q → ¬ (RM mk r a p).testBit b = true) ∨ (RA mk r a b k s = -1 ∧ ∀ p, s ≤ p → p < s + k → ¬ (RM mk r a p).testBit b = true) := by
  intro k
  induction k with
  | zero => intro s; exact Or.inr ⟨rfl, fun p h1 h2 => by omega⟩
  | succ k ih =>
    intro s
    rw [RA]
    by_cases hb : (RM mk r a s).testBit b = true
    · rw [if_pos hb]
      exact Or.inl ⟨s, Nat.le_refl s, by omega, rfl, hb, fun p h1 h2 => by omega⟩
    · rw [if_neg hb]
      rcases ih (s + 1) with ⟨q, h1, h2, h3, h4, h5⟩ | ⟨h1, h2⟩
      · refine Or.inl ⟨q, by omega, by omega, h3, h4, fun p h6 h7 => ?_⟩
        by_cases hps : p = s
        · rw [hps]; exact hb
        · exact h5 p (by omega) h7
      · refine Or.inr ⟨h1, fun p h6 h7 => ?_⟩
        by_cases hps : p = s
        · rw [hps]; exact hb
        · exact h2 p (by omega) (by omega)
theorem tbs_L {Rr : Int32} {R g : Nat → Int32} {r m : Nat} {mk : Nat → Nat} (hR : RLM Rr R g r) (hm : ∀ i, i < r → R (i * 5 + 4) = Int32.ofNat (mk i) ∧ mk i < 2 ^ r) (h32 : m < 32) : ∀ (n j : Nat) (x : Int32), x.toInt = (j : Int) → j ≤ r → r < j + n → f_X2_trustedBySome_L4 Rr R (Int32.ofNat m) n (Int32.ofNat (BM mk m j)) x = some (Int32.ofNat (BM mk m r)) := by
  have hr5 := hR.2.1
  have hp := pow_le_32 hr5
  intro n
  induction n with
  | zero => intro j x hx hj hn; omega
  | succ n ih =>
    intro j x hx hj hn
    rw [f_X2_trustedBySome_L4]
    simp only [f_X6_size, ob_some]
    by_cases hq : Rr ≤ x
    · rw [if_pos hq]
      have : j = r := by
        rw [ti_le hR.1 hx] at hq
        omega
      rw [this]
    · rw [if_neg hq]
      have hj2 : j < r := by
        rw [ti_le hR.1 hx] at hq
        omega
      have hx2 : (x + 1).toInt = ((j + 1 : Nat) : Int) := by rw [ti_add hx ti_one (by omega) (by omega)]; omega
      have hrec := ih (j + 1) (x + 1) hx2 hj2 (by omega)
      rw [BM] at hrec
      have hget : f_X6_get 25 5 Rr R x 4 = some (Int32.ofNat (mk j)) := by
        rw [get_at (W := 5) (c := 4) (by decide) hR.1 hx (by decide) hj2 (by omega) (by decide), (hm j hj2).1]
      have hbd := bit_dec m h32 j (by omega)
      rw [← ofNat_of hx] at hbd
      by_cases hb : m.testBit j = true
      · rw [if_pos hb] at hrec
        rw [if_pos (hbd.mpr hb), hget]
        show f_X2_trustedBySome_L4 Rr R (Int32.ofNat m) n (Int32.ofNat (BM mk m j) ||| Int32.ofNat (mk j)) (x + 1) = _
        rw [or_dec _ (Nat.lt_of_lt_of_le (BM_lt (fun i hi => (hm i hi).2) j hj) hp) _ (Nat.lt_of_lt_of_le (hm j hj2).2 hp)]
        exact hrec
      · rw [if_neg hb] at hrec
        rw [if_neg (fun z => hb (hbd.mp z))]
        exact hrec
theorem tbs_c {Rr : Int32} {R g : Nat → Int32} {r m : Nat} {mk : Nat → Nat} (hR : RLM Rr R g r) (hm : ∀ i, i < r → R (i * 5 + 4) = Int32.ofNat (mk i) ∧ mk i < 2 ^ r) (h32 : m < 32) : f_X2_trustedBySome Rr R (Int32.ofNat m) = some (Int32.ofNat (BM mk m r)) := by
  have hr5 := hR.2.1
  have h := tbs_L hR hm h32 5000 0 0 (by decide) (by omega) (by omega)
  unfold f_X2_trustedBySome
  show (f_X2_trustedBySome_L4 Rr R (Int32.ofNat m) 5000 (Int32.ofNat (BM mk m 0)) 0).bind _ = _
  rw [h]
  rfl
theorem ref_L {Rr y : Int32} {R g : Nat → Int32} {r a b : Nat} {mk : Nat → Nat} (hR : RLM Rr R g r) (hm : ∀ i, i < r → R (i * 5 + 4) = Int32.ofNat (mk i) ∧ mk i < 2 ^ r) (ha : a < r) (hy : y.toInt = (b : Int)) (hb : b < r) : ∀ (n k s : Nat) (x : Int32), x.toInt = (s : Int) → s + k = 5 → k < n → f_X2_referrals_L7 Rr R y n (Int32.ofNat (RM mk r a s)) x = some (RA mk r a b k s) := by
  have hr5 := hR.2.1
  have hp := pow_le_32 hr5
  intro n
  induction n with
  | zero => intro k s x hx hk hn; omega
  | succ n ih =>
    intro k s x hx hk hn
    have hM : RM mk r a s < 32 := Nat.lt_of_lt_of_le (RM_lt (fun i hi => (hm i hi).2) ha s) hp
    rw [f_X2_referrals_L7]
    by_cases hq : 5 ≤ x
    · rw [if_pos hq]
      have : k = 0 := by
        rw [ti_le (a := 5) (by decide) hx] at hq
        omega
      rw [this, RA]
    · rw [if_neg hq]
      have hk2 : ∃ k', k = k' + 1 := by
        rw [ti_le (a := 5) (by decide) hx] at hq
        exact ⟨k - 1, by omega⟩
      obtain ⟨k', rfl⟩ := hk2
      have hbd := bit_dec _ hM b (by omega)
      rw [← ofNat_of hy] at hbd
      rw [RA]
      by_cases hbt : (RM mk r a s).testBit b = true
      · rw [if_pos (hbd.mpr hbt), if_pos hbt, ← ofNat_of hx]
      · rw [if_neg (fun z => hbt (hbd.mp z)), if_neg hbt, tbs_c hR hm hM]
        show f_X2_referrals_L7 Rr R y n (Int32.ofNat (RM mk r a s) ||| Int32.ofNat (BM mk (RM mk r a s) r)) (x + 1) = _
        rw [or_dec _ hM _ (Nat.lt_of_lt_of_le (BM_lt (fun i hi => (hm i hi).2) r (Nat.le_refl r)) hp)]
        exact ih k' (s + 1) (x + 1) (by rw [ti_add hx ti_one (by omega) (by omega)]; omega) (by omega) (by omega)
theorem ref_c {Rr x y : Int32} {R g : Nat → Int32} {r a b : Nat} {mk : Nat → Nat} (hR : RLM Rr R g r) (hm : ∀ i, i < r → R (i * 5 + 4) = Int32.ofNat (mk i) ∧ mk i < 2 ^ r) (hx : x.toInt = (a : Int)) (ha : a < r) (hy : y.toInt = (b : Int)) (hb : b < r) : f_X2_referrals Rr R x y = some (RA mk r a b 5 0) := by
  have hr5 := hR.2.1
  unfold f_X2_referrals
  rw [ofNat_of hx, one_shl a (by omega)]
  exact ref_L hR hm ha hy hb 5000 5 0 0 (by decide) (by decide) (by decide)
