/-! PURE: the reference's rounds find the same lengths. -/
theorem TRU_bits {R g : Nat → Int32} {r : Nat} (h : TRU R g r) (hr : r ≤ 5) : ∃ mk : Nat → Nat, (∀ i, i < r → R (i * 5 + 4) = Int32.ofNat (mk i) ∧ mk i < 2 ^ r) ∧ ∀ a v, a < r → v < r → (g (30 + 5 * a + v) = 1 ↔ (mk a).testBit v = true) := by
  obtain ⟨mk, h1, h2⟩ := h
  refine ⟨mk, h1, fun a v ha hv => ?_⟩
  rw [h2 a v (by omega) (by omega)]
  by_cases hb : (mk a).testBit v = true
  · rw [if_pos ⟨ha, hb⟩]; exact ⟨fun _ => hb, fun _ => rfl⟩
  · rw [if_neg (fun z => hb z.2)]; exact ⟨fun z => absurd z (by decide), fun z => absurd z hb⟩
def AW (r : Nat) (away : Nat → Int32) (d : Nat → Nat) : Prop := ∀ v, v < r → away v = Int32.ofNat (d v) ∧ d v ≤ 99
def SND (mk : Nat → Nat) (r i : Nat) (d : Nat → Nat) : Prop := ∀ v, v < r → d v < 99 → (RM mk r i (d v)).testBit v = true
theorem lesser_nat {p q : Nat} (hp : p ≤ 1000) (hq : q ≤ 1000) : f_X12_lesser (Int32.ofNat p) (Int32.ofNat q) = some (Int32.ofNat (min p q)) := by
  unfold f_X12_lesser
  by_cases h : q ≤ p
  · rw [if_pos (by rw [ti_le (ti_nat (by omega)) (ti_nat (by omega))]; omega), Nat.min_eq_right h]
  · rw [if_neg (by rw [ti_le (ti_nat (by omega)) (ti_nat (by omega))]; omega), Nat.min_eq_left (by omega)]
theorem nat_inc {p : Nat} (hp : p ≤ 100000) : Int32.ofNat p + 1 = Int32.ofNat (p + 1) := ofNat_of (by rw [ti_add (ti_nat (by omega)) ti_one (by omega) (by omega)]; omega)
theorem spr2_L {g : Nat → Int32} {r i : Nat} {y : Int32} (h3 : (g 3).toInt = (r : Int)) (hr : r ≤ 5) (hy : y.toInt = (i : Int)) : ∀ (n k : Nat) (x : Int32) (away : Nat → Int32), x.toInt = (k : Int) → k ≤ r → r < k + n → AW k away (fun v => if v = i then 0 else 99) → ∃ away', f_X12_spread_L2 g y n away x = some away' ∧ AW r away' (fun v => if v = i then 0 else 99) := by
  intro n
  induction n with
  | zero => intro k x away hx hk hn; omega
  | succ n ih =>
    intro k x away hx hk hn hA
    rw [f_X12_spread_L2]
    simp only [zM3, ob_some]
    by_cases hq : g 3 ≤ x
    · have : r = k := by
        rw [ti_le h3 hx] at hq
        omega
      rw [if_pos hq, this]
      exact ⟨away, rfl, hA⟩
    · rw [if_neg hq]
      have hkr : k < r := by
        rw [ti_le h3 hx] at hq
        omega
      have hx2 : (x + 1).toInt = ((k + 1 : Nat) : Int) := by rw [ti_add hx ti_one (by omega) (by omega)]; omega
      by_cases hxy : x = y
      · have hki : k = i := by
          rw [hxy, hy] at hx
          omega
        rw [if_pos hxy, wr_to hx (by omega)]
        refine ih (k + 1) (x + 1) (upd away k 0) hx2 hkr (by omega) (fun v hv => ?_)
        by_cases hvk : v = k
        · rw [upd_eq hvk]
          show (0 : Int32) = Int32.ofNat (if v = i then 0 else 99) ∧ (if v = i then 0 else 99) ≤ 99
          rw [if_pos (by omega)]
          exact ⟨rfl, by decide⟩
        · rw [upd_ne hvk]
          exact hA v (by omega)
      · have hki : ¬ k = i := fun e => hxy (ti_eq (by rw [hx, hy, e]))
        rw [if_neg hxy, wr_to hx (by omega)]
        refine ih (k + 1) (x + 1) (upd away k 99) hx2 hkr (by omega) (fun v hv => ?_)
        by_cases hvk : v = k
        · rw [upd_eq hvk]
          show (99 : Int32) = Int32.ofNat (if v = i then 0 else 99) ∧ (if v = i then 0 else 99) ≤ 99
          rw [if_neg (by omega)]
          exact ⟨rfl, by decide⟩
        · rw [upd_ne hvk]
          exact hA v (by omega)
theorem spr55_L {g : Nat → Int32} {r a : Nat} {mk : Nat → Nat} {y : Int32} (h3 : (g 3).toInt = (r : Int)) (hr : r ≤ 5) (hg : ∀ a v, a < r → v < r → (g (30 + 5 * a + v) = 1 ↔ (mk a).testBit v = true)) (hy : y.toInt = (a : Int)) (ha : a < r) : ∀ (n k : Nat) (x : Int32) (away : Nat → Int32) (d : Nat → Nat), x.toInt = (k : Int) → k ≤ r → r < k + n → AW r away d → ∃ away' d', f_X12_spread_L55 g y n away x = some away' ∧ AW r away' d' ∧ ∀ v, v < r → d' v = if k ≤ v ∧ (mk a).testBit v = true then min (d v) (d a + 1) else d v := by
  intro n
  induction n with
  | zero => intro k x away d hx hk hn; omega
  | succ n ih =>
    intro k x away d hx hk hn hA
    have ha5 : a < 5 := by omega
    rw [f_X12_spread_L55]
    simp only [zM3, ob_some]
    by_cases hq : g 3 ≤ x
    · have hrk : r ≤ k := by
        rw [ti_le h3 hx] at hq
        omega
      rw [if_pos hq]
      exact ⟨away, d, rfl, hA, fun v hv => by rw [if_neg (fun z => by omega)]⟩
    · have hkr : k < r := by
        rw [ti_le h3 hx] at hq
        omega
      have hk5 : k < 5 := by omega
      have hx2 : (x + 1).toInt = ((k + 1 : Nat) : Int) := by rw [ti_add hx ti_one (by omega) (by omega)]; omega
      rw [if_neg hq, trusted_m hy ha5 hx hk5]
      by_cases ht : (mk a).testBit k = true
      · rw [if_pos ((hg a k ha hkr).mpr ht)]
        simp only [ob_some, i10, if_false, rd_at hx hk5, rd_at hy ha5]
        obtain ⟨e1, e2⟩ := hA k hkr
        obtain ⟨e3, e4⟩ := hA a ha
        rw [e1, e3, nat_inc (by omega), lesser_nat (by omega) (by omega)]
        simp only [ob_some, wr_to hx hk5]
        have hd2a : (if a = k then min (d k) (d a + 1) else d a) = d a := by
          by_cases hak : a = k
          · rw [if_pos hak, hak]; omega
          · rw [if_neg hak]
        obtain ⟨away', d', h1, h2, h4⟩ := ih (k + 1) (x + 1) (upd away k (Int32.ofNat (min (d k) (d a + 1)))) (fun v => if v = k then min (d k) (d a + 1) else d v) hx2 hkr (by omega) (fun v hv => by
          by_cases hvk : v = k
          · rw [upd_eq hvk]
            show _ = Int32.ofNat (if v = k then min (d k) (d a + 1) else d v) ∧ (if v = k then min (d k) (d a + 1) else d v) ≤ 99
            rw [if_pos hvk]
            exact ⟨rfl, by omega⟩
          · rw [upd_ne hvk]
            show _ = Int32.ofNat (if v = k then min (d k) (d a + 1) else d v) ∧ (if v = k then min (d k) (d a + 1) else d v) ≤ 99
            rw [if_neg hvk]
            exact hA v hv)
        refine ⟨away', d', h1, h2, fun v hv => ?_⟩
        rw [h4 v hv]
        show (if k + 1 ≤ v ∧ (mk a).testBit v = true then min (if v = k then min (d k) (d a + 1) else d v) ((if a = k then min (d k) (d a + 1) else d a) + 1) else (if v = k then min (d k) (d a + 1) else d v)) = _
        rw [hd2a]
        by_cases hvk : v = k
        · rw [if_neg (fun z => by omega), if_pos hvk, if_pos ⟨by omega, by rw [hvk]; exact ht⟩, hvk]
        · rw [if_neg hvk]
          by_cases hc : k ≤ v ∧ (mk a).testBit v = true
          · rw [if_pos hc, if_pos ⟨by omega, hc.2⟩]
          · rw [if_neg hc, if_neg (fun z => hc ⟨by omega, z.2⟩)]
      · rw [if_neg (fun z => ht ((hg a k ha hkr).mp z))]
        simp only [ob_some, if_true, rd_at hx hk5, wr_to hx hk5]
        obtain ⟨away', d', h1, h2, h4⟩ := ih (k + 1) (x + 1) (upd away k (away k)) d hx2 hkr (by omega) (fun v hv => by
          by_cases hvk : v = k
          · rw [upd_eq hvk, ← hvk]
            exact hA v hv
          · rw [upd_ne hvk]
            exact hA v hv)
        refine ⟨away', d', h1, h2, fun v hv => ?_⟩
        rw [h4 v hv]
        by_cases hvk : v = k
        · rw [if_neg (fun z => by omega), if_neg (fun z => ht (by rw [← hvk]; exact z.2))]
        · by_cases hc : k ≤ v ∧ (mk a).testBit v = true
          · rw [if_pos hc, if_pos ⟨by omega, hc.2⟩]
          · rw [if_neg hc, if_neg (fun z => hc ⟨by omega, z.2⟩)]
theorem RM_next {mk : Nat → Nat} {r i s a v : Nat} (ha : a < r) (h1 : (RM mk r i s).testBit a = true) (h2 : (mk a).testBit v = true) : (RM mk r i (s + 1)).testBit v = true := by
  show (RM mk r i s ||| BM mk (RM mk r i s) r).testBit v = true
  rw [Nat.testBit_or, Bool.or_eq_true]
  exact Or.inr ((BM_bit r).mpr ⟨a, ha, h1, h2⟩)
theorem spr44_L {g : Nat → Int32} {r i : Nat} {mk : Nat → Nat} (h3 : (g 3).toInt = (r : Int)) (hr : r ≤ 5) (hg : ∀ a v, a < r → v < r → (g (30 + 5 * a + v) = 1 ↔ (mk a).testBit v = true)) : ∀ (n k : Nat) (x : Int32) (away : Nat → Int32) (d : Nat → Nat), x.toInt = (k : Int) → k ≤ r → r < k + n → AW r away d → ∃ away' d', f_X12_spread_L44 g n away x = some away' ∧ AW r away' d' ∧ (∀ v, v < r → d' v ≤ d v) ∧ (∀ a v, k ≤ a → a < r → v < r → (mk a).testBit v = true → d' v ≤ d a + 1) ∧ (SND mk r i d → SND mk r i d') := by
  intro n
  induction n with
  | zero => intro k x away d hx hk hn; omega
  | succ n ih =>
    intro k x away d hx hk hn hA
    rw [f_X12_spread_L44]
    simp only [zM3, ob_some]
    by_cases hq : g 3 ≤ x
    · have hrk : r ≤ k := by
        rw [ti_le h3 hx] at hq
        omega
      rw [if_pos hq]
      exact ⟨away, d, rfl, hA, fun v _ => Nat.le_refl _, fun a v h1 h2 => by omega, id⟩
    · have hkr : k < r := by
        rw [ti_le h3 hx] at hq
        omega
      have hx2 : (x + 1).toInt = ((k + 1 : Nat) : Int) := by rw [ti_add hx ti_one (by omega) (by omega)]; omega
      obtain ⟨a1, d1, e1, e2, e3⟩ := spr55_L h3 hr hg hx hkr 5000 0 0 away d (by decide) (by omega) (by omega) hA
      obtain ⟨a2, d2, f1, f2, f3, f4, f5⟩ := ih (k + 1) (x + 1) a1 d1 hx2 hkr (by omega) e2
      have hle : ∀ v, v < r → d1 v ≤ d v := fun v hv => by
        rw [e3 v hv]
        by_cases hc : 0 ≤ v ∧ (mk k).testBit v = true
        · rw [if_pos hc]; omega
        · rw [if_neg hc]; exact Nat.le_refl _
      rw [if_neg hq, e1]
      refine ⟨a2, d2, f1, f2, fun v hv => Nat.le_trans (f3 v hv) (hle v hv), fun a v g1 g2 g3 g4 => ?_, fun hS => f5 (fun v hv hd => ?_)⟩
      · by_cases hak : a = k
        · have := e3 v g3
          rw [if_pos ⟨Nat.zero_le v, by rw [← hak]; exact g4⟩] at this
          have h2 := f3 v g3
          rw [hak]
          omega
        · have h2 := f4 a v (by omega) g2 g3 g4
          have h6 := hle a g2
          omega
      · have h6 := e3 v hv
        by_cases hc : 0 ≤ v ∧ (mk k).testBit v = true
        · rw [if_pos hc] at h6
          by_cases hm : d v ≤ d k + 1
          · rw [show d1 v = d v by omega]
            exact hS v hv (by omega)
          · rw [show d1 v = d k + 1 by omega]
            exact RM_next hkr (hS k hkr (by omega)) hc.2
        · rw [if_neg hc] at h6
          rw [h6]
          exact hS v hv (by omega)
theorem spr34_L {g : Nat → Int32} {r i : Nat} {mk : Nat → Nat} (h3 : (g 3).toInt = (r : Int)) (hr : r ≤ 5) (hg : ∀ a v, a < r → v < r → (g (30 + 5 * a + v) = 1 ↔ (mk a).testBit v = true)) : ∀ (n k : Nat) (x : Int32) (away : Nat → Int32) (d : Nat → Nat), x.toInt = (k : Int) → k ≤ r → r < k + n → AW r away d → SND mk r i d → (∀ s v, s ≤ k → v < r → (RM mk r i s).testBit v = true → d v ≤ s) → ∃ away' d', f_X12_spread_L34 g n away x = some away' ∧ AW r away' d' ∧ SND mk r i d' ∧ ∀ s v, s ≤ r → v < r → (RM mk r i s).testBit v = true → d' v ≤ s := by
  intro n
  induction n with
  | zero => intro k x away d hx hk hn; omega
  | succ n ih =>
    intro k x away d hx hk hn hA hS hC
    rw [f_X12_spread_L34]
    simp only [zM3, ob_some]
    by_cases hq : g 3 ≤ x
    · have hrk : r = k := by
        rw [ti_le h3 hx] at hq
        omega
      rw [if_pos hq]
      exact ⟨away, d, rfl, hA, hS, fun s v h1 => hC s v (by omega)⟩
    · have hkr : k < r := by
        rw [ti_le h3 hx] at hq
        omega
      have hx2 : (x + 1).toInt = ((k + 1 : Nat) : Int) := by rw [ti_add hx ti_one (by omega) (by omega)]; omega
      obtain ⟨a1, d1, e1, e2, e3, e4, e5⟩ := spr44_L (i := i) h3 hr hg 5000 0 0 away d (by decide) (by omega) (by omega) hA
      rw [if_neg hq, e1]
      refine ih (k + 1) (x + 1) a1 d1 hx2 hkr (by omega) e2 (e5 hS) (fun s v h1 h2 h4 => ?_)
      by_cases hs : s ≤ k
      · exact Nat.le_trans (e3 v h2) (hC s v hs h2 h4)
      · have hsk : s = k + 1 := by omega
        rw [hsk] at h4
        have h5 : (RM mk r i k ||| BM mk (RM mk r i k) r).testBit v = true := h4
        rw [Nat.testBit_or, Bool.or_eq_true] at h5
        rcases h5 with h5 | h5
        · have := hC k v (Nat.le_refl k) h2 h5
          have := e3 v h2
          omega
        · obtain ⟨a, b1, b2, b3⟩ := (BM_bit r).mp h5
          have := hC k a (Nat.le_refl k) b1 b2
          have := e4 a v (Nat.zero_le a) b1 h2 b3
          omega
theorem far_m {g away : Nat → Int32} {r i j : Nat} {mk : Nat → Nat} {x y : Int32} (h3 : (g 3).toInt = (r : Int)) (hr : r ≤ 5) (hlt : ∀ i, i < r → mk i < 2 ^ r) (hg : ∀ a v, a < r → v < r → (g (30 + 5 * a + v) = 1 ↔ (mk a).testBit v = true)) (hx : x.toInt = (i : Int)) (hi : i < r) (hy : y.toInt = (j : Int)) (hj : j < r) : ∃ away', f_X12_far g away x y = some (RA mk r i j 5 0, away') := by
  obtain ⟨a1, e1, e2⟩ := spr2_L h3 hr hx 5000 0 0 away (by decide) (by omega) (by omega) (fun v hv => by omega)
  obtain ⟨a2, d2, f1, f2, f3, f4⟩ := spr34_L (i := i) (mk := mk) h3 hr hg 5000 0 0 a1 _ (by decide) (by omega) (by omega) e2 (fun v hv hd => by
      by_cases hvi : v = i
      · show (RM mk r i (if v = i then 0 else 99)).testBit v = true
        rw [if_pos hvi, hvi]
        exact Nat.testBit_two_pow_self
      · have : (if v = i then 0 else 99) < 99 := hd
        rw [if_neg hvi] at this
        omega) (fun s v h1 h2 h4 => by
      have hs : s = 0 := by omega
      rw [hs] at h4
      have h5 : (2 ^ i).testBit v = true := h4
      rw [Nat.testBit_two_pow] at h5
      have h6 : i = v := of_decide_eq_true h5
      show (if v = i then 0 else 99) ≤ s
      rw [if_pos h6.symm]
      exact Nat.zero_le s)
  have hj5 : j < 5 := by omega
  obtain ⟨g1, g2⟩ := f2 j hj
  refine ⟨a2, ?_⟩
  simp only [f_X12_far, f_X12_spread, e1, f1, ob_some, rd_at hy hj5, g1]
  rcases RA_spec (mk := mk) (r := r) (a := i) (b := j) 5 0 with ⟨q, h1, h2, h5, h6, h7⟩ | ⟨h5, h7⟩
  · rw [h5]
    have hqr : q ≤ r := by
      refine Classical.byContradiction fun hn => ?_
      have e5 := RM_stable hlt hr hi (s := q) (by omega)
      have e6 := RM_stable hlt hr hi (s := r) (by omega)
      exact h7 r (by omega) (by omega) (by rw [e6, ← e5]; exact h6)
    have h8 := f4 q j hqr hj h6
    have h9 := f3 j hj (by omega)
    have h10 : d2 j = q := by
      refine Classical.byContradiction fun hn => ?_
      exact h7 (d2 j) (by omega) (by omega) h9
    rw [h10, if_pos (by rw [ti_lt (ti_nat (by omega)) (b := 99) (by decide)]; omega)]
  · rw [h5]
    have h8 : ¬ d2 j < 99 := fun hn => by
      have h9 := f3 j hj hn
      by_cases h10 : d2 j < 5
      · exact h7 _ (by omega) (by omega) h9
      · have e5 := RM_stable hlt hr hi (s := d2 j) (by omega)
        have e6 := RM_stable hlt hr hi (s := 4) (by omega)
        exact h7 4 (by omega) (by omega) (by rw [e6, ← e5]; exact h9)
    rw [if_neg (by rw [ti_lt (ti_nat (by omega)) (b := 99) (by decide)]; omega)]
