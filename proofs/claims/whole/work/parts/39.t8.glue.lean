/-! PURE: distance errors: the longest ways of both sides go alike. -/
theorem cell_ti {x y : Int32} {i j : Nat} (hx : x.toInt = (i : Int)) (hi : i < 5) (hy : y.toInt = (j : Int)) (hj : j < 5) : (5 * x + y).toInt = ((5 * i + j : Nat) : Int) := by
  have h1 : (5 * x).toInt = 5 * (i : Int) := ti_mul (by decide) hx (by omega) (by omega)
  rw [ti_add h1 hy (by omega) (by omega)]
  omega
theorem imin_nat {p q : Nat} (hp : p ≤ 5000) (hq : q ≤ 5000) : imin (Int32.ofNat p) (Int32.ofNat q) = Int32.ofNat (min p q) := by
  unfold imin
  by_cases h : q < p
  · rw [if_pos (by rw [ti_lt (ti_nat (by omega)) (ti_nat (by omega))]; omega), Nat.min_eq_right (by omega)]
  · rw [if_neg (by rw [ti_lt (ti_nat (by omega)) (ti_nat (by omega))]; omega), Nat.min_eq_left (by omega)]
theorem nat_add (a b : Nat) : Int32.ofNat a + Int32.ofNat b = Int32.ofNat (a + b) := (Int32.ofNat_add a b).symm
def EV (P : Nat) (x y : Int32) : Prop := ∃ a b : Nat, x = Int32.ofNat a ∧ y = Int32.ofNat b ∧ ((a = b ∧ a ≤ P) ∨ (a = 1000 ∧ b = 99))
theorem EV.mono {P Q : Nat} {x y : Int32} (h : EV P x y) (hPQ : P ≤ Q) : EV Q x y := by
  obtain ⟨a, b, h1, h2, h3⟩ := h
  exact ⟨a, b, h1, h2, by omega⟩
theorem EV_min1 {P : Nat} {x1 y1 x2 y2 : Int32} (hP : P ≤ 16) (h1 : EV P x1 y1) (h2 : EV P x2 y2) : ∃ z, f_X12_lesser y1 (y1 + y2) = some z ∧ EV P (imin (x1 + x2) x1) z := by
  obtain ⟨a1, b1, rfl, rfl, c1⟩ := h1
  obtain ⟨a2, b2, rfl, rfl, c2⟩ := h2
  rw [nat_add, nat_add, lesser_nat (by omega) (by omega), imin_nat (by omega) (by omega)]
  exact ⟨_, rfl, _, _, rfl, rfl, by omega⟩
theorem EV_min2 {P : Nat} {x1 y1 x2 y2 : Int32} (hP : P ≤ 16) (h1 : EV P x1 y1) (h2 : EV P x2 y2) : ∃ z, f_X12_lesser y2 (y1 + y2) = some z ∧ EV P (imin (x1 + x2) x2) z := by
  obtain ⟨a1, b1, rfl, rfl, c1⟩ := h1
  obtain ⟨a2, b2, rfl, rfl, c2⟩ := h2
  rw [nat_add, nat_add, lesser_nat (by omega) (by omega), imin_nat (by omega) (by omega)]
  exact ⟨_, rfl, _, _, rfl, rfl, by omega⟩
theorem EV_min3 {P : Nat} {x1 y1 x2 y2 x3 y3 : Int32} (hP : P ≤ 16) (h1 : EV P x1 y1) (h2 : EV P x2 y2) (h3 : EV (2 * P) x3 y3) : ∃ z, f_X12_lesser y3 (y1 + y2) = some z ∧ EV (2 * P) (imin (x1 + x2) x3) z := by
  obtain ⟨a1, b1, rfl, rfl, c1⟩ := h1
  obtain ⟨a2, b2, rfl, rfl, c2⟩ := h2
  obtain ⟨a3, b3, rfl, rfl, c3⟩ := h3
  rw [nat_add, nat_add, lesser_nat (by omega) (by omega), imin_nat (by omega) (by omega)]
  exact ⟨_, rfl, _, _, rfl, rfl, by omega⟩
theorem EV_due {x y : Int32} (h : EV 32 x y) : ∃ d : Int32, (if x < 1000 then some x else some (-1)) = some d ∧ (if y < 99 then some y else some (-1)) = some d := by
  obtain ⟨a, b, rfl, rfl, c⟩ := h
  have t1 : (Int32.ofNat a).toInt = (a : Int) := ti_nat (by omega)
  have t2 : (Int32.ofNat b).toInt = (b : Int) := ti_nat (by omega)
  rcases c with ⟨c1, c2⟩ | ⟨c1, c2⟩
  · rw [if_pos (by rw [ti_lt t1 (b := 1000) (by decide)]; omega), if_pos (by rw [ti_lt t2 (b := 99) (by decide)]; omega), c1]
    exact ⟨_, rfl, rfl⟩
  · rw [if_neg (by rw [ti_lt t1 (b := 1000) (by decide)]; omega), if_neg (by rw [ti_lt t2 (b := 99) (by decide)]; omega)]
    exact ⟨_, rfl, rfl⟩
def MX (r P Q k : Nat) (A h : Nat → Int32) : Prop := ∀ i j, i < r → j < r → EV (if i = k ∨ j = k then P else Q) (A (i * 5 + j)) (h (5 * i + j))
theorem MX_step {r P k i j : Nat} {A h : Nat → Int32} (hP : P ≤ 16) (hM : MX r P (2 * P) k A h) (hi : i < r) (hj : j < r) (hk : k < r) : ∃ z, f_X12_lesser (h (5 * i + j)) (h (5 * i + k) + h (5 * k + j)) = some z ∧ EV (if i = k ∨ j = k then P else 2 * P) (imin (A (i * 5 + k) + A (k * 5 + j)) (A (i * 5 + j))) z := by
  have h1 := hM i k hi hk
  rw [if_pos (Or.inr rfl)] at h1
  have h2 := hM k j hk hj
  rw [if_pos (Or.inl rfl)] at h2
  have h3 := hM i j hi hj
  by_cases hik : i = k
  · subst hik
    rw [if_pos (Or.inl rfl)]
    exact EV_min2 hP h1 h2
  · by_cases hjk : j = k
    · subst hjk
      rw [if_pos (Or.inr rfl)]
      exact EV_min1 hP h1 h2
    · rw [if_neg (fun z => z.elim hik hjk)] at h3 ⊢
      exact EV_min3 hP h1 h2 h3
theorem MX_upd {r P Q k i j : Nat} {A h : Nat → Int32} {a b : Int32} (hr : r ≤ 5) (hM : MX r P Q k A h) (hi : i < r) (hj : j < r) (hE : EV (if i = k ∨ j = k then P else Q) a b) : MX r P Q k (upd A (i * 5 + j) a) (upd h (5 * i + j) b) := by
  intro i' j' hi' hj'
  by_cases hc : i' = i ∧ j' = j
  · rw [upd_eq (by omega), upd_eq (by omega), hc.1, hc.2]
    exact hE
  · rw [upd_ne (by omega), upd_ne (by omega)]
    exact hM i' j' hi' hj'
theorem go12_L {rows vk vi : Int32} {g : Nat → Int32} {r P k i : Nat} (hr : rows.toInt = (r : Int)) (hr5 : r ≤ 5) (h3 : g 3 = rows) (hk : vk.toInt = (k : Int)) (hkr : k < r) (hi : vi.toInt = (i : Int)) (hir : i < r) (hP : P ≤ 16) : ∀ (n j : Nat) (x : Int32) (A h : Nat → Int32), x.toInt = (j : Int) → j ≤ r → r < j + n → MX r P (2 * P) k A h → ∃ A' h', f_X10_goThrough_L12 rows vk vi n A x = some A' ∧ f_X12_goHalfway_L99 g vk vi n h x = some h' ∧ MX r P (2 * P) k A' h' := by
  intro n
  induction n with
  | zero => intro j x A h hx hj hn; omega
  | succ n ih =>
    intro j x A h hx hj hn hM
    rw [f_X10_goThrough_L12, f_X12_goHalfway_L99]
    simp only [f_X6_size, zM3, ob_some, h3]
    by_cases hq : rows ≤ x
    · rw [if_pos hq, if_pos hq]
      exact ⟨A, h, rfl, rfl, hM⟩
    · have hjr : j < r := by
        rw [ti_le hr hx] at hq
        omega
      rw [if_neg hq, if_neg hq]
      have c1 := get_at (tn := 25) (W := 5) (w := 5) (f := A) (by decide) hr hi hk hir (by omega) (by decide)
      have c2 := get_at (tn := 25) (W := 5) (w := 5) (f := A) (by decide) hr hk hx hkr (by omega) (by decide)
      have c3 := get_at (tn := 25) (W := 5) (w := 5) (f := A) (by decide) hr hi hx hir (by omega) (by decide)
      have d1 : rd h 25 (5 * vi + x) = some (h (5 * i + j)) := rd_at (cell_ti hi (by omega) hx (by omega)) (by omega)
      have d2 : rd h 25 (5 * vi + vk) = some (h (5 * i + k)) := rd_at (cell_ti hi (by omega) hk (by omega)) (by omega)
      have d3 : rd h 25 (5 * vk + x) = some (h (5 * k + j)) := rd_at (cell_ti hk (by omega) hx (by omega)) (by omega)
      obtain ⟨z, e1, e2⟩ := MX_step hP hM hir hjr hkr
      have s1 : f_X6_set 25 5 rows A vi x (imin (A (i * 5 + k) + A (k * 5 + j)) (A (i * 5 + j))) = some (upd A (i * 5 + j) (imin (A (i * 5 + k) + A (k * 5 + j)) (A (i * 5 + j)))) := set_at (W := 5) (by decide) hr hi hx hir (by omega) (by decide)
      have s2 : wr h 25 (5 * vi + x) z = some (upd h (5 * i + j) z) := wr_to (cell_ti hi (by omega) hx (by omega)) (by omega)
      simp only [c1, c2, c3, d1, d2, d3, e1, s1, s2, ob_some]
      exact ih (j + 1) (x + 1) _ _ (ti_inc hx (by omega)) hjr (by omega) (MX_upd hr5 hM hir hjr e2)
theorem go2_L {rows vk : Int32} {g : Nat → Int32} {r P k : Nat} (hr : rows.toInt = (r : Int)) (hr5 : r ≤ 5) (h3 : g 3 = rows) (hk : vk.toInt = (k : Int)) (hkr : k < r) (hP : P ≤ 16) : ∀ (n j : Nat) (x : Int32) (A h : Nat → Int32), x.toInt = (j : Int) → j ≤ r → r < j + n → MX r P (2 * P) k A h → ∃ A' h', f_X10_goThrough_L2 rows vk n A x = some A' ∧ f_X12_goHalfway_L87 g vk n h x = some h' ∧ MX r P (2 * P) k A' h' := by
  intro n
  induction n with
  | zero => intro j x A h hx hj hn; omega
  | succ n ih =>
    intro j x A h hx hj hn hM
    rw [f_X10_goThrough_L2, f_X12_goHalfway_L87]
    simp only [f_X6_size, zM3, ob_some, h3]
    by_cases hq : rows ≤ x
    · rw [if_pos hq, if_pos hq]
      exact ⟨A, h, rfl, rfl, hM⟩
    · have hjr : j < r := by
        rw [ti_le hr hx] at hq
        omega
      rw [if_neg hq, if_neg hq]
      obtain ⟨A1, h1, e1, e2, e3⟩ := go12_L hr hr5 h3 hk hkr hx hjr hP 5000 0 0 A h (by decide) (by omega) (by omega) hM
      rw [e1, e2, ob_some, ob_some]
      exact ih (j + 1) (x + 1) _ _ (ti_inc hx (by omega)) hjr (by omega) e3
theorem go_L {rows rows2 : Int32} {g : Nat → Int32} {r : Nat} (hr : rows.toInt = (r : Int)) (hr5 : r ≤ 5) (h3 : g 3 = rows) (he : rows2 = rows) : ∀ (n k : Nat) (x : Int32) (A h : Nat → Int32), x.toInt = (k : Int) → k ≤ r → r < k + n → (∀ i j, i < r → j < r → EV (2 ^ k) (A (i * 5 + j)) (h (5 * i + j))) → ∃ A' h', f_X2_countDistanceErrors_L15 rows rows2 n A x = some A' ∧ f_X12_goHalfway_L75 g n h x = some h' ∧ ∀ i j, i < r → j < r → EV 32 (A' (i * 5 + j)) (h' (5 * i + j)) := by
  subst he
  intro n
  induction n with
  | zero => intro k x A h hx hk hn; omega
  | succ n ih =>
    intro k x A h hx hk hn hM
    rw [f_X2_countDistanceErrors_L15, f_X12_goHalfway_L75]
    simp only [f_X6_size, zM3, ob_some, h3]
    by_cases hq : rows2 ≤ x
    · rw [if_pos hq, if_pos hq]
      exact ⟨A, h, rfl, rfl, fun i j hi hj => (hM i j hi hj).mono (Nat.pow_le_pow_right (n := 2) (j := 5) (by decide) (by omega))⟩
    · have hkr : k < r := by
        rw [ti_le hr hx] at hq
        omega
      rw [if_neg hq, if_neg hq]
      have hP : 2 ^ k ≤ 16 := Nat.pow_le_pow_right (n := 2) (j := 4) (by decide) (by omega)
      obtain ⟨A1, h1, e1, e2, e3⟩ := go2_L hr hr5 h3 hx hkr hP 5000 0 0 A h (by decide) (by omega) (by omega) (fun i j hi hj => (hM i j hi hj).mono (by
        by_cases hc : i = k ∨ j = k
        · rw [if_pos hc]; exact Nat.le_refl _
        · rw [if_neg hc]; omega))
      simp only [f_X10_goThrough, e1, e2, ob_some]
      refine ih (k + 1) (x + 1) _ _ (ti_inc hx (by omega)) hkr (by omega) (fun i j hi hj => (e3 i j hi hj).mono ?_)
      rw [Nat.pow_succ]
      by_cases hc : i = k ∨ j = k
      · rw [if_pos hc]; omega
      · rw [if_neg hc]; omega
def MP (r i j : Nat) (A h : Nat → Int32) : Prop := ∀ i' j', j' < r → (i' < i ∨ (i' = i ∧ j' < j)) → EV 1 (A (i' * 5 + j')) (h (5 * i' + j'))
theorem MP_upd {r i j : Nat} {A h : Nat → Int32} {a b : Int32} (hr : r ≤ 5) (hM : MP r i j A h) (hj : j < r) (hE : EV 1 a b) : MP r i (j + 1) (upd A (i * 5 + j) a) (upd h (5 * i + j) b) := by
  intro i' j' hj' hc'
  by_cases hc : i' = i ∧ j' = j
  · rw [upd_eq (by omega), upd_eq (by omega)]
    exact hE
  · rw [upd_ne (by omega), upd_ne (by omega)]
    exact hM i' j' hj' (by omega)
theorem dir17_L {Rr rows vi : Int32} {R g : Nat → Int32} {r i : Nat} (hR : RLM Rr R g r) (hT : TRU R g r) (hr : rows.toInt = ((i + 1 : Nat) : Int)) (hi : vi.toInt = (i : Int)) (hir : i < r) : ∀ (n j : Nat) (x : Int32) (A h : Nat → Int32), x.toInt = (j : Int) → j ≤ r → r < j + n → MP r i j A h → ∃ A' h', f_X10_addDirect_L17 rows Rr R vi n A x = some A' ∧ f_X12_goHalfway_L14 g vi n h x = some h' ∧ MP r i r A' h' := by
  have hr5 := hR.2.1
  have h3 := hR.2.2.1
  intro n
  induction n with
  | zero => intro j x A h hx hj hn; omega
  | succ n ih =>
    intro j x A h hx hj hn hM
    rw [f_X10_addDirect_L17, f_X12_goHalfway_L14]
    simp only [f_X6_size, zM3, ob_some, h3]
    by_cases hq : Rr ≤ x
    · have hjr : j = r := by
        rw [ti_le hR.1 hx] at hq
        omega
      rw [if_pos hq, if_pos hq]
      exact ⟨A, h, rfl, rfl, hjr ▸ hM⟩
    · have hjr : j < r := by
        rw [ti_le hR.1 hx] at hq
        omega
      rw [if_neg hq, if_neg hq]
      have hs : ∀ v, f_X6_set 25 5 rows A vi x v = some (upd A (i * 5 + j) v) := fun v => set_at (W := 5) (by decide) hr hi hx (by omega) (by omega) (by decide)
      have hw : ∀ v, wr h 25 (5 * vi + x) v = some (upd h (5 * i + j) v) := fun v => wr_to (cell_ti hi (by omega) hx (by omega)) (by omega)
      rw [hasTrust_c hR hT hi hir hx (by omega), trusted_m hi (by omega) hx (by omega)]
      simp only [ob_some, hs, hw]
      by_cases ht : g (30 + 5 * i + j) = 1
      · rw [if_pos ht]
        simp only [i10, if_false, ob_some]
        by_cases hv : vi = x
        · rw [if_pos hv, if_pos hv]
          exact ih (j + 1) (x + 1) _ _ (ti_inc hx (by omega)) hjr (by omega) (MP_upd hr5 hM hjr ⟨0, 0, rfl, rfl, Or.inl ⟨rfl, by omega⟩⟩)
        · rw [if_neg hv, if_neg hv]
          exact ih (j + 1) (x + 1) _ _ (ti_inc hx (by omega)) hjr (by omega) (MP_upd hr5 hM hjr ⟨1, 1, rfl, rfl, Or.inl ⟨rfl, by omega⟩⟩)
      · rw [if_neg ht]
        simp only [if_true, ob_some]
        by_cases hv : vi = x
        · rw [if_pos hv, if_pos hv]
          exact ih (j + 1) (x + 1) _ _ (ti_inc hx (by omega)) hjr (by omega) (MP_upd hr5 hM hjr ⟨0, 0, rfl, rfl, Or.inl ⟨rfl, by omega⟩⟩)
        · rw [if_neg hv, if_neg hv]
          exact ih (j + 1) (x + 1) _ _ (ti_inc hx (by omega)) hjr (by omega) (MP_upd hr5 hM hjr ⟨1000, 99, rfl, rfl, Or.inr ⟨rfl, rfl⟩⟩)
theorem dir_L {Rr : Int32} {R g : Nat → Int32} {r : Nat} (hR : RLM Rr R g r) (hT : TRU R g r) : ∀ (n i : Nat) (x y : Int32) (A h : Nat → Int32), x.toInt = (i : Int) → y.toInt = (i : Int) → i ≤ r → r < i + n → MP r i 0 A h → ∃ q A' h', f_X10_addDirect_L2 Rr R n y A x = some (q, A') ∧ f_X12_goHalfway_L2 g n h x = some h' ∧ q = Rr ∧ MP r r 0 A' h' := by
  have hr5 := hR.2.1
  have h3 := hR.2.2.1
  intro n
  induction n with
  | zero => intro i x y A h hx hy hi hn; omega
  | succ n ih =>
    intro i x y A h hx hy hi hn hM
    rw [f_X10_addDirect_L2, f_X12_goHalfway_L2]
    simp only [f_X6_size, zM3, ob_some, h3]
    by_cases hq : Rr ≤ x
    · have hir : i = r := by
        rw [ti_le hR.1 hx] at hq
        omega
      rw [if_pos hq, if_pos hq]
      exact ⟨y, A, h, rfl, rfl, ti_eq (by rw [hy, hR.1, hir]), hir ▸ hM⟩
    · have hir : i < r := by
        rw [ti_le hR.1 hx] at hq
        omega
      rw [if_neg hq, if_neg hq, addRow_in (tn := 25) (lim := 5) (L := 5) (by decide) hy (by omega)]
      simp only [ob_some]
      obtain ⟨A1, h1, e1, e2, e3⟩ := dir17_L hR hT (ti_inc hy (by omega)) hx hir 5000 0 0 A h (by decide) (by omega) (by omega) hM
      rw [e1, e2, ob_some, ob_some]
      exact ih (i + 1) (x + 1) (y + 1) _ _ (ti_inc hx (by omega)) (ti_inc hy (by omega)) hir (by omega) (fun i' j' hj' hc' => e3 i' j' hj' (by omega))
theorem cde49_L {Rr vi : Int32} {R g A h : Nat → Int32} {r i : Nat} {mk : Nat → Nat} (hR : RLM Rr R g r) (hm : ∀ i, i < r → R (i * 5 + 4) = Int32.ofNat (mk i) ∧ mk i < 2 ^ r) (hg : ∀ a v, a < r → v < r → (g (30 + 5 * a + v) = 1 ↔ (mk a).testBit v = true)) (hi : vi.toInt = (i : Int)) (hir : i < r) (hE : ∀ i j, i < r → j < r → EV 32 (A (i * 5 + j)) (h (5 * i + j))) : ∀ (n j : Nat) (x c : Int32) (away : Nat → Int32), x.toInt = (j : Int) → j ≤ r → r < j + n → ∃ c' away', f_X2_countDistanceErrors_L49 Rr R Rr A vi n c x = some c' ∧ f_X12_distanceErrors_L25 g h vi n away c x = some (away', c') := by
  have hr5 := hR.2.1
  have h3 := hR.2.2.1
  intro n
  induction n with
  | zero => intro j x c away hx hj hn; omega
  | succ n ih =>
    intro j x c away hx hj hn
    rw [f_X2_countDistanceErrors_L49, f_X12_distanceErrors_L25]
    simp only [f_X6_size, zM3, ob_some, h3]
    by_cases hq : Rr ≤ x
    · rw [if_pos hq, if_pos hq]
      exact ⟨c, away, rfl, rfl⟩
    · have hjr : j < r := by
        rw [ti_le hR.1 hx] at hq
        omega
      rw [if_neg hq, if_neg hq]
      have c1 := get_at (tn := 25) (W := 5) (w := 5) (f := A) (by decide) hR.1 hi hx hir (by omega) (by decide)
      have d1 : rd h 25 (5 * vi + x) = some (h (5 * i + j)) := rd_at (cell_ti hi (by omega) hx (by omega)) (by omega)
      obtain ⟨d, e1, e2⟩ := EV_due (hE i j hir hjr)
      obtain ⟨aw, e3⟩ := far_m (away := away) (by rw [h3]; exact hR.1) hr5 (fun i hi => (hm i hi).2) hg hi hir hx hjr
      have e4 := ref_c hR hm hi hir hx hjr
      simp only [f_X10_lengthOf, c1, d1, e1, e2, e3, e4, ob_some]
      by_cases hd : d = RA mk r i j 5 0
      · rw [if_pos hd, if_pos hd.symm]
        simp only [ob_some]
        exact ih (j + 1) (x + 1) _ _ (ti_inc hx (by omega)) hjr (by omega)
      · rw [if_neg hd, if_neg (fun z => hd z.symm)]
        simp only [ob_some]
        exact ih (j + 1) (x + 1) _ _ (ti_inc hx (by omega)) hjr (by omega)
theorem cde38_L {Rr : Int32} {R g A h : Nat → Int32} {r : Nat} {mk : Nat → Nat} (hR : RLM Rr R g r) (hm : ∀ i, i < r → R (i * 5 + 4) = Int32.ofNat (mk i) ∧ mk i < 2 ^ r) (hg : ∀ a v, a < r → v < r → (g (30 + 5 * a + v) = 1 ↔ (mk a).testBit v = true)) (hE : ∀ i j, i < r → j < r → EV 32 (A (i * 5 + j)) (h (5 * i + j))) : ∀ (n i : Nat) (x c : Int32) (away : Nat → Int32), x.toInt = (i : Int) → i ≤ r → r < i + n → ∃ c' away', f_X2_countDistanceErrors_L38 Rr R Rr A n c x = some c' ∧ f_X12_distanceErrors_L13 g h n away c x = some (away', c') := by
  have hr5 := hR.2.1
  have h3 := hR.2.2.1
  intro n
  induction n with
  | zero => intro i x c away hx hi hn; omega
  | succ n ih =>
    intro i x c away hx hi hn
    rw [f_X2_countDistanceErrors_L38, f_X12_distanceErrors_L13]
    simp only [f_X6_size, zM3, ob_some, h3]
    by_cases hq : Rr ≤ x
    · rw [if_pos hq, if_pos hq]
      exact ⟨c, away, rfl, rfl⟩
    · have hir : i < r := by
        rw [ti_le hR.1 hx] at hq
        omega
      rw [if_neg hq, if_neg hq]
      obtain ⟨c1, a1, e1, e2⟩ := cde49_L hR hm hg hx hir hE 5000 0 0 c away (by decide) (by omega) (by omega)
      rw [e1, e2, ob_some, ob_some]
      exact ih (i + 1) (x + 1) _ _ (ti_inc hx (by omega)) hir (by omega)
theorem cde_all {Rr th : Int32} {R g away h : Nat → Int32} {r : Nat} (hR : RLM Rr R g r) (hT : TRU R g r) : ∃ c a1 h1, f_X11_distanceErrors Rr R = some c ∧ f_X12_distanceErrors th g away h = some (c, 0, a1, h1) := by
  have hr5 := hR.2.1
  obtain ⟨mk, hm, hg⟩ := TRU_bits hT hr5
  obtain ⟨q, A1, h1, e1, e2, e3, e4⟩ := dir_L hR hT 5000 0 0 0 (fun _ => 0) h (by decide) (by decide) (by omega) (by omega) (fun i' j' _ hc => by omega)
  subst e3
  obtain ⟨A2, h2, f1, f2, f3⟩ := go_L hR.1 hr5 hR.2.2.1 rfl 5000 0 0 A1 h1 (by decide) (by omega) (by omega) (fun i j hi hj => e4 i j hj (Or.inl hi))
  obtain ⟨c, a1, k1, k2⟩ := cde38_L hR hm hg f3 5000 0 0 0 away (by decide) (by omega) (by omega)
  refine ⟨c, a1, h2, ?_, ?_⟩
  · simp only [f_X11_distanceErrors, f_X2_countDistanceErrors, f_X2_cderest, f_X10_addDirect, e1, f1, k1, ob_some]
  · simp only [f_X12_distanceErrors, f_X12_goHalfway, e2, f2, k2, ob_some]
theorem hh46 (t : Nat) : H46 (REL (t + 1)) (REL t) := by
  intro nextPast pastCount i_count i_cells o_count o_cells p_start p_end p_kind p_value p_error p_errorAt p_d_time p_d_tolerance p_d_seed p_d_madeTickets p_d_cheesesOfText p_d_R_rows p_d_R_cells p_d_U_rows p_d_U_cells p_d_S_rows p_d_S_cells p_d_T_rows p_d_T_cells p_d_E_rows p_d_E_cells s_time s_tolerance s_seed s_madeTickets s_cheesesOfText s_R_rows s_R_cells s_U_rows s_U_cells s_S_rows s_S_cells s_T_rows s_T_cells s_E_rows s_E_cells sl pa m_undoable m_undoStart m_thrown m_inputLength m_position m_start m_token m_value m_letters m_code m_place m_outputLength m_s m_parsed m_tried m_remembered m_slots m_kept m_away m_input m_halfway m_output h
  have hX : RELX (t + 1) i_count i_cells m_inputLength m_input p_error m_code p_errorAt m_place o_count o_cells m_outputLength m_output s_time s_tolerance s_seed s_madeTickets s_cheesesOfText s_R_rows s_R_cells s_U_rows s_U_cells s_S_rows s_S_cells s_T_rows s_T_cells s_E_rows s_E_cells m_s sl m_slots m_kept nextPast pastCount pa m_undoable m_undoStart m_remembered := h
  obtain ⟨ht, hin, her, hou, hst, hsl, hun⟩ := hX
  have hst1 := hst.mono (tbt_le t) (mbt_le t)
  have hsl1 := hsl.mono (tbt_le t) (mbt_le t)
  have hun1 := hun.mono (tbt_le t) (mbt_le t)
  have htb := tbt_max (t + 1)
  have hmb := mbt_max (t + 1)
  have H := RELX.mk (show t ≤ 512 by omega) hin her hou hst1 hsl1 hun1
  obtain ⟨r, u, s, k, e, ⟨y0, y1, y2, y7, y9⟩, ⟨hR, hR2, hR3⟩, ⟨hU, hU2⟩, ⟨hS, hS2⟩, hT, hE, ⟨z1, z2, z3, z4, z5, z6⟩, hRI, hUI, hSI, hTI, hEI, hUZ⟩ := id hst
  obtain ⟨g3, g4, g5, g6, g8⟩ := ST_gs (tb := 0) (mb := 0) (tm := 0) (tol := 0) (seed := 0) (made := 0) (cot := 0) hR hU hS hT hE
  obtain ⟨c, a1, h1, e1, e2⟩ := cde_all (th := m_thrown) (away := m_away) (h := m_halfway) hR hR3
  exact ⟨c, (c, 0, a1, h1), e1, e2, rfl, H⟩
