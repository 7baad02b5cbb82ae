/-! PURE: writing a ticket: names and numbers come out byte by byte alike. -/
theorem div_nat {N p : Nat} (hN : N < 2147483648) (hp : 0 < p) (hp2 : p < 2147483648) : Int32.ofNat N / Int32.ofNat p = Int32.ofNat (N / p) := by
  have h : Int32.ofNat p ≠ -1 := fun z => by
    have h2 := congrArg Int32.toInt z
    rw [ti_nat hp2, show (-1 : Int32).toInt = -1 by decide] at h2
    omega
  refine ti_eq ?_
  rw [Int32.toInt_div_of_ne_right _ _ h, ti_nat hN, ti_nat hp2, ti_nat (Nat.lt_of_le_of_lt (Nat.div_le_self N p) hN)]
  rfl
theorem dv_nat {N p : Nat} (hN : N < 2147483648) (hp : 0 < p) (hp2 : p < 2147483648) : dv (Int32.ofNat N) (Int32.ofNat p) = some (Int32.ofNat (N / p)) := by
  unfold dv
  rw [if_neg (fun z => by
    have h2 := congrArg Int32.toInt z
    rw [ti_nat hp2, show (0 : Int32).toInt = 0 by decide] at h2
    omega), div_nat hN hp hp2]
theorem irm10 {q : Nat} (hq : q < 2147483648) : irm (Int32.ofNat q) 10 = Int32.ofNat (q % 10) := by
  have hd : Int32.ofNat q / 10 = Int32.ofNat (q / 10) := div_nat (p := 10) hq (by decide) (by decide)
  have t1 : (Int32.ofNat (q / 10) * 10).toInt = ((q / 10 : Nat) : Int) * 10 := ti_mul (ti_nat (by omega)) (by decide) (by omega) (by omega)
  unfold irm
  rw [hd]
  exact ti_eq (by rw [ti_sub (ti_nat hq) t1 (by omega) (by omega), ti_nat (by omega)]; omega)
theorem irm27 {q : Nat} (hq : q < 2147483648) : irm (Int32.ofNat q) 27 = Int32.ofNat (q % 27) := by
  have hd : Int32.ofNat q / 27 = Int32.ofNat (q / 27) := div_nat (p := 27) hq (by decide) (by decide)
  have t1 : (Int32.ofNat (q / 27) * 27).toInt = ((q / 27 : Nat) : Int) * 27 := ti_mul (ti_nat (by omega)) (by decide) (by omega) (by omega)
  unfold irm
  rw [hd]
  exact ti_eq (by rw [ti_sub (ti_nat hq) t1 (by omega) (by omega), ti_nat (by omega)]; omega)
theorem by_dec : ∀ k, k < 128 → Int32.ofNat k &&& 255 = Int32.ofNat k ∧ (Int32.ofNat k).toInt8.toInt32.toInt8.toInt32 = Int32.ofNat k := by decide +kernel
theorem nn_of {x : Int32} (h : 0 ≤ x.toInt) : ∃ N : Nat, x = Int32.ofNat N ∧ N < 2147483648 := by
  have h2 := Int32.toInt_lt x
  have h3 : x.toInt = ((x.toInt.toNat : Nat) : Int) := by omega
  exact ⟨x.toInt.toNat, ofNat_of h3, by omega⟩
def PS (n : Nat) (x y : Int32 × (Nat → Int32)) : Prop := OUTn n x.1 x.2 y.1 y.2
theorem pr_one {n c : Nat} {x y : Int32 × (Nat → Int32)} (h : PS n x y) (hn : n < 60) (hc : c < 128) : ∃ x' y', f_X0_add 64 x.1 x.2 (Int32.ofNat c) = some x' ∧ f_X12_print y.1 y.2 (Int32.ofNat c) = some y' ∧ PS (n + 1) x' y' := by
  obtain ⟨h1, h2, h3, h4⟩ := h
  have h5 : y.1.toInt = (n : Int) := by rw [← h3]; exact h1
  refine ⟨(x.1 + 1, upd x.2 n (Int32.ofNat c)), (y.1 + 1, upd y.2 n (Int32.ofNat c)), ?_, ?_, ti_inc h1 (by omega), by omega, ?_, ?_⟩
  · unfold f_X0_add
    rw [if_neg (by rw [ti_lt h1 (b := 0) (by decide)]; omega), if_neg (by rw [ti_le (ti_nat (by decide)) h1]; omega), (by_dec c hc).1, wr_to h1 (by omega), ob_some]
  · unfold f_X12_print
    rw [(by_dec c hc).2, wr_to h5 (by omega), ob_some]
  · show x.1 + 1 = y.1 + 1
    rw [h3]
  · intro k hk
    show upd x.2 n (Int32.ofNat c) k = upd y.2 n (Int32.ofNat c) k
    by_cases hkn : k = n
    · rw [upd_eq hkn, upd_eq hkn]
    · rw [upd_ne hkn, upd_ne hkn]
      exact h4 k (by omega)
theorem p48 (d : Nat) : 48 + Int32.ofNat d = Int32.ofNat (48 + d) := nat_add 48 d
theorem p96 (d : Nat) : 96 + Int32.ofNat d = Int32.ofNat (96 + d) := nat_add 96 d
theorem ten_le {j : Nat} (h : j ≤ 9) : 10 ^ j ≤ 1000000000 := Nat.pow_le_pow_right (n := 10) (j := 9) (by decide) h
theorem ten_pos (j : Nat) : 0 < 10 ^ j := Nat.pow_pos (by decide)
theorem ten_div {j : Nat} (h : j ≤ 9) : Int32.ofNat (10 ^ j) / 10 = Int32.ofNat (10 ^ j / 10) := by
  have h1 := ten_le h
  exact div_nat (p := 10) (by omega) (by decide) (by decide)
theorem ten_down (j : Nat) : 10 ^ (j + 1) / 10 = 10 ^ j := by
  rw [Nat.pow_succ]
  exact Nat.mul_div_cancel _ (by decide)
theorem ten_gt {j : Nat} (h : j ≤ 9) : ¬ Int32.ofNat (10 ^ j) ≤ 0 := by
  have h1 := ten_le h
  have h2 := ten_pos j
  rw [ti_le (ti_nat (by omega)) (b := 0) (by decide)]
  omega
theorem numE5 {v z : Int32} {f : Nat} {x : Int32 × (Nat → Int32)} : f_X0_addNumber_L5 64 v (f + 1) x.1 x.2 z (Int32.ofNat 0) = some x := by
  rw [f_X0_addNumber_L5, if_pos (by decide)]
theorem numE20 {v : Int32} {f : Nat} {x : Int32 × (Nat → Int32)} : f_X12_printNumber_L20 v (f + 1) x.1 x.2 (Int32.ofNat 0) = some x := by
  rw [f_X12_printNumber_L20, if_pos (by decide)]
theorem num_run {N : Nat} (hN : N < 2147483648) : ∀ (j n f1 f2 : Nat) (x y : Int32 × (Nat → Int32)), j ≤ 9 → j + 2 ≤ f1 → j + 2 ≤ f2 → PS n x y → n + j + 1 ≤ 60 → ∃ x' y', f_X0_addNumber_L5 64 (Int32.ofNat N) f1 x.1 x.2 1 (Int32.ofNat (10 ^ j)) = some x' ∧ f_X12_printNumber_L20 (Int32.ofNat N) f2 y.1 y.2 (Int32.ofNat (10 ^ j)) = some y' ∧ PS (n + j + 1) x' y' := by
  intro j
  induction j with
  | zero =>
    intro n f1 f2 x y hj h1 h2 hP hn
    obtain ⟨m1, rfl⟩ : ∃ m, f1 = m + 2 := ⟨f1 - 2, by omega⟩
    obtain ⟨m2, rfl⟩ : ∃ m, f2 = m + 2 := ⟨f2 - 2, by omega⟩
    obtain ⟨x1, y1, e1, e2, e3⟩ := pr_one (c := 48 + N / 10 ^ 0 % 10) hP (by omega) (by omega)
    refine ⟨x1, y1, ?_, ?_, e3⟩
    · rw [f_X0_addNumber_L5, if_neg (ten_gt (by decide)), dv_nat hN (ten_pos 0) (by decide), ob_some, if_neg n10, ob_some, if_neg n10, irm10 (Nat.lt_of_le_of_lt (Nat.div_le_self _ _) hN), p48, e1, ob_some, ob_some, ten_div (by decide)]
      exact numE5
    · rw [f_X12_printNumber_L20, if_neg (ten_gt (by decide)), dv_nat hN (ten_pos 0) (by decide), ob_some, irm10 (Nat.lt_of_le_of_lt (Nat.div_le_self _ _) hN), p48, e2, ob_some, ten_div (by decide)]
      exact numE20
  | succ j ih =>
    intro n f1 f2 x y hj h1 h2 hP hn
    obtain ⟨m1, rfl⟩ : ∃ m, f1 = m + 1 := ⟨f1 - 1, by omega⟩
    obtain ⟨m2, rfl⟩ : ∃ m, f2 = m + 1 := ⟨f2 - 1, by omega⟩
    obtain ⟨x1, y1, e1, e2, e3⟩ := pr_one (c := 48 + N / 10 ^ (j + 1) % 10) hP (by omega) (by omega)
    obtain ⟨x2, y2, e4, e5, e6⟩ := ih (n + 1) m1 m2 x1 y1 (by omega) (by omega) (by omega) e3 (by omega)
    have hb := ten_le hj
    refine ⟨x2, y2, ?_, ?_, by rw [show n + (j + 1) + 1 = n + 1 + j + 1 by omega]; exact e6⟩
    · rw [f_X0_addNumber_L5, if_neg (ten_gt hj), dv_nat hN (ten_pos _) (by omega), ob_some, if_neg n10, ob_some, if_neg n10, irm10 (Nat.lt_of_le_of_lt (Nat.div_le_self _ _) hN), p48, e1, ob_some, ob_some, ten_div hj, ten_down]
      exact e4
    · rw [f_X12_printNumber_L20, if_neg (ten_gt hj), dv_nat hN (ten_pos _) (by omega), ob_some, irm10 (Nat.lt_of_le_of_lt (Nat.div_le_self _ _) hN), p48, e2, ob_some, ten_div hj, ten_down]
      exact e5
theorem num_skip {N d : Nat} (hN : N < 2147483648) (hd : d = 0 ∨ 10 ^ d ≤ N) (hN2 : N < 10 ^ (d + 1)) : ∀ (i f : Nat) (x : Int32 × (Nat → Int32)), d + i ≤ 9 → f_X0_addNumber_L5 64 (Int32.ofNat N) (f + i + 1) x.1 x.2 0 (Int32.ofNat (10 ^ (d + i))) = f_X0_addNumber_L5 64 (Int32.ofNat N) (f + 1) x.1 x.2 1 (Int32.ofNat (10 ^ d)) := by
  intro i
  induction i with
  | zero =>
    intro f x h9
    have hb := ten_le (j := d) (by omega)
    have hp := ten_pos d
    have hq : N / 10 ^ d < 2147483648 := Nat.lt_of_le_of_lt (Nat.div_le_self _ _) hN
    have hj : (if 0 < irm (Int32.ofNat (N / 10 ^ d)) 10 then some (1 : Int32) else if Int32.ofNat (10 ^ d) = 1 then some 1 else some 0) = some 1 := by
      rcases hd with hd | hd
      · subst hd
        by_cases h : 0 < irm (Int32.ofNat (N / 10 ^ 0)) 10
        · rw [if_pos h]
        · rw [if_neg h, if_pos (by decide)]
      · have h1 : 1 ≤ N / 10 ^ d := (Nat.le_div_iff_mul_le hp).mpr (by omega)
        have h2 : N / 10 ^ d < 10 := (Nat.div_lt_iff_lt_mul hp).mpr (by rw [Nat.pow_succ] at hN2; omega)
        rw [if_pos (by rw [irm10 hq, ti_lt (a := 0) (by decide) (ti_nat (by omega))]; omega)]
    show f_X0_addNumber_L5 64 (Int32.ofNat N) (f + 1) x.1 x.2 0 (Int32.ofNat (10 ^ d)) = _
    rw [f_X0_addNumber_L5, if_neg (ten_gt (by omega)), dv_nat hN hp (by omega), ob_some, if_pos rfl, hj, ob_some, f_X0_addNumber_L5, if_neg (ten_gt (by omega)), dv_nat hN hp (by omega), ob_some, if_neg n10, if_neg n10, ob_some, if_neg n10]
  | succ i ih =>
    intro f x h9
    have hb := ten_le h9
    have hp := ten_pos (d + (i + 1))
    have hgt : 10 ^ (d + 1) ≤ 10 ^ (d + (i + 1)) := Nat.pow_le_pow_right (by decide) (by omega)
    have hq : N / 10 ^ (d + (i + 1)) = 0 := Nat.div_eq_of_lt (by omega)
    have h10 : 10 ≤ 10 ^ (d + (i + 1)) := Nat.le_trans (by rw [Nat.pow_succ]; have := ten_pos d; omega) hgt
    rw [show f + (i + 1) + 1 = (f + i + 1) + 1 by omega, f_X0_addNumber_L5, if_neg (ten_gt h9), dv_nat hN hp (by omega), ob_some, if_pos rfl, hq, if_neg (by decide), if_neg (fun z => by
      have h2 := congrArg Int32.toInt z
      rw [ti_nat (by omega), show (1 : Int32).toInt = 1 by decide] at h2
      omega), ob_some, if_pos rfl, ob_some, ten_div h9, show 10 ^ (d + (i + 1)) / 10 = 10 ^ (d + i) from ten_down (d + i)]
    exact ih f x (by omega)
theorem len_L {N : Nat} (hN : N < 2147483648) : ∀ (n j : Nat), j ≤ 9 → 9 < j + n → (j = 0 ∨ 10 ^ j ≤ N) → ∃ d, d ≤ 9 ∧ f_X12_printNumber_L2 (Int32.ofNat N) n (Int32.ofNat (10 ^ j)) = some (Int32.ofNat (10 ^ d)) ∧ (d = 0 ∨ 10 ^ d ≤ N) ∧ N < 10 ^ (d + 1) := by
  intro n
  induction n with
  | zero => intro j hj hn; omega
  | succ n ih =>
    intro j hj hn h
    have hb := ten_le hj
    have hp := ten_pos j
    rw [f_X12_printNumber_L2, dv_nat hN hp (by omega), ob_some]
    by_cases hq : N / 10 ^ j ≤ 9
    · rw [if_pos (by rw [ti_le (ti_nat (by omega)) (b := 9) (by decide)]; omega)]
      refine ⟨j, hj, rfl, h, ?_⟩
      have h2 := (Nat.div_lt_iff_lt_mul hp).mp (show N / 10 ^ j < 10 by omega)
      rw [Nat.pow_succ]
      omega
    · have h3 : N / 10 ^ j < 2147483648 := Nat.lt_of_le_of_lt (Nat.div_le_self _ _) hN
      rw [if_neg (by rw [ti_le (ti_nat h3) (b := 9) (by decide)]; omega)]
      have h2 := (Nat.le_div_iff_mul_le hp).mp (show 10 ≤ N / 10 ^ j by omega)
      have h9 : j + 1 ≤ 9 := by
        refine Classical.byContradiction fun z => ?_
        have : j = 9 := by omega
        subst this
        omega
      have hm : Int32.ofNat (10 ^ j) * 10 = Int32.ofNat (10 ^ (j + 1)) := (Int32.ofNat_mul (10 ^ j) 10).symm
      rw [hm]
      exact ih (j + 1) h9 (by omega) (Or.inr (by rw [Nat.pow_succ]; omega))
theorem ob_eta {s : Option (Int32 × (Nat → Int32))} : (s.bind fun o => some (o.1, o.2)) = s := by cases s <;> rfl
theorem num_both {N n : Nat} {x y : Int32 × (Nat → Int32)} (hN : N < 2147483648) (hP : PS n x y) (hn : n + 10 ≤ 60) : ∃ d x' y', d ≤ 10 ∧ f_X0_addNumber 64 x.1 x.2 (Int32.ofNat N) = some x' ∧ f_X12_printNumber y.1 y.2 (Int32.ofNat N) = some y' ∧ PS (n + d) x' y' := by
  obtain ⟨d, h1, h2, h3, h4⟩ := len_L hN 5000 0 (by decide) (by decide) (Or.inl rfl)
  obtain ⟨x1, y1, e1, e2, e3⟩ := num_run hN d n (4999 - (9 - d) + 1) 5000 x y h1 (by omega) (by omega) hP (by omega)
  have h5 := num_skip hN h3 h4 (9 - d) (4999 - (9 - d)) x (by omega)
  rw [show 4999 - (9 - d) + (9 - d) + 1 = 5000 by omega, show d + (9 - d) = 9 by omega, e1] at h5
  refine ⟨d + 1, x1, y1, by omega, ?_, ?_, e3⟩
  · unfold f_X0_addNumber
    rw [ob_eta]
    exact h5
  · unfold f_X12_printNumber
    have h6 : f_X12_printNumber_L2 (Int32.ofNat N) 5000 1 = some (Int32.ofNat (10 ^ d)) := h2
    rw [h6, ob_some, e2, ob_some]
def stepC (k : Nat) (s : Int32 × (Nat → Int32)) : Option (Int32 × (Nat → Int32)) := if k = 0 then some s else f_X0_add 64 s.1 s.2 (Int32.ofNat k)
def stepM (k : Nat) (s : Int32 × (Nat → Int32)) : Option (Int32 × (Nat → Int32)) := if k = 0 then some s else f_X12_print s.1 s.2 (Int32.ofNat (96 + k))
theorem an_step {A s n : Nat} {oc : Int32} {ob : Nat → Int32} (hs : s + 8 ≤ 32) : f_X0_addName_L3 64 (Int32.ofNat A) (n + 1) oc ob (nI s) = (stepC (A / 2 ^ s % 2 ^ 8) (oc, ob)).bind fun t => f_X0_addName_L3 64 (Int32.ofNat A) n t.1 t.2 (nI s + (-8)) := by
  have h8 : A / 2 ^ s % 2 ^ 8 < 256 := Nat.mod_lt _ (by decide)
  rw [f_X0_addName_L3, if_neg (by rw [ti_lt (show (nI s).toInt = (s : Int) from ti_nat (by omega)) (b := 0) (by decide)]; omega), byte_of hs]
  unfold stepC
  by_cases h : A / 2 ^ s % 2 ^ 8 = 0
  · rw [if_pos h, h, if_pos (by decide), ob_some]
  · rw [if_neg h, if_neg (fun z => by
      have h2 := congrArg Int32.toInt z
      rw [ti_nat (by omega), show (0 : Int32).toInt = 0 by decide] at h2
      omega)]
theorem an24 {A n : Nat} {oc : Int32} {ob : Nat → Int32} : f_X0_addName_L3 64 (Int32.ofNat A) (n + 1) oc ob 24 = (stepC (A / 16777216 % 256) (oc, ob)).bind fun t => f_X0_addName_L3 64 (Int32.ofNat A) n t.1 t.2 16 := an_step (s := 24) (by decide)
theorem an16 {A n : Nat} {oc : Int32} {ob : Nat → Int32} : f_X0_addName_L3 64 (Int32.ofNat A) (n + 1) oc ob 16 = (stepC (A / 65536 % 256) (oc, ob)).bind fun t => f_X0_addName_L3 64 (Int32.ofNat A) n t.1 t.2 8 := an_step (s := 16) (by decide)
theorem an8 {A n : Nat} {oc : Int32} {ob : Nat → Int32} : f_X0_addName_L3 64 (Int32.ofNat A) (n + 1) oc ob 8 = (stepC (A / 256 % 256) (oc, ob)).bind fun t => f_X0_addName_L3 64 (Int32.ofNat A) n t.1 t.2 0 := an_step (s := 8) (by decide)
theorem an0 {A n : Nat} {oc : Int32} {ob : Nat → Int32} : f_X0_addName_L3 64 (Int32.ofNat A) (n + 1) oc ob 0 = (stepC (A / 1 % 256) (oc, ob)).bind fun t => f_X0_addName_L3 64 (Int32.ofNat A) n t.1 t.2 (-8) := an_step (s := 0) (by decide)
theorem anE {v oc : Int32} {ob : Nat → Int32} {n : Nat} : f_X0_addName_L3 64 v (n + 1) oc ob (-8) = some (oc, ob) := by
  rw [f_X0_addName_L3, if_pos (by decide)]
theorem an_all {A : Nat} {x : Int32 × (Nat → Int32)} : f_X0_addName 64 x.1 x.2 (Int32.ofNat A) = (stepC (A / 16777216 % 256) x).bind fun s => (stepC (A / 65536 % 256) s).bind fun s => (stepC (A / 256 % 256) s).bind fun s => (stepC (A / 1 % 256) s).bind fun s => some s := by
  have h : ∀ n, f_X0_addName_L3 64 (Int32.ofNat A) (n + 5) x.1 x.2 24 = (stepC (A / 16777216 % 256) x).bind fun s => (stepC (A / 65536 % 256) s).bind fun s => (stepC (A / 256 % 256) s).bind fun s => (stepC (A / 1 % 256) s).bind fun s => some s := fun n => by
    simp only [an24, an16, an8, an0, anE]
  unfold f_X0_addName
  rw [ob_eta]
  exact h 4995
theorem pn_step {N p n : Nat} {oc : Int32} {ob : Nat → Int32} (hN : N < 2147483648) (hp : 0 < p) (hp2 : p < 2147483648) : f_X12_printName_L4 (Int32.ofNat N) (n + 1) oc ob (Int32.ofNat p) = (stepM (N / p % 27) (oc, ob)).bind fun t => f_X12_printName_L4 (Int32.ofNat N) n t.1 t.2 (Int32.ofNat p / 27) := by
  have h8 : N / p % 27 < 27 := Nat.mod_lt _ (by decide)
  rw [f_X12_printName_L4, if_neg (by rw [ti_le (ti_nat hp2) (b := 0) (by decide)]; omega), dv_nat hN hp hp2, ob_some, irm27 (Nat.lt_of_le_of_lt (Nat.div_le_self _ _) hN), p96]
  unfold stepM
  by_cases h : N / p % 27 = 0
  · rw [if_pos h, h, if_pos (by decide)]
  · rw [if_neg h, if_neg (by rw [ti_le (ti_nat (by omega)) (b := 0) (by decide)]; omega), ob_eta]
theorem pn3 {N n : Nat} {oc : Int32} {ob : Nat → Int32} (hN : N < 2147483648) : f_X12_printName_L4 (Int32.ofNat N) (n + 1) oc ob 19683 = (stepM (N / 19683 % 27) (oc, ob)).bind fun t => f_X12_printName_L4 (Int32.ofNat N) n t.1 t.2 729 := by
  have h := pn_step (n := n) (oc := oc) (ob := ob) (p := 19683) hN (by decide) (by decide)
  rw [show Int32.ofNat 19683 / 27 = 729 by decide] at h
  exact h
theorem pn2 {N n : Nat} {oc : Int32} {ob : Nat → Int32} (hN : N < 2147483648) : f_X12_printName_L4 (Int32.ofNat N) (n + 1) oc ob 729 = (stepM (N / 729 % 27) (oc, ob)).bind fun t => f_X12_printName_L4 (Int32.ofNat N) n t.1 t.2 27 := by
  have h := pn_step (n := n) (oc := oc) (ob := ob) (p := 729) hN (by decide) (by decide)
  rw [show Int32.ofNat 729 / 27 = 27 by decide] at h
  exact h
theorem pn1 {N n : Nat} {oc : Int32} {ob : Nat → Int32} (hN : N < 2147483648) : f_X12_printName_L4 (Int32.ofNat N) (n + 1) oc ob 27 = (stepM (N / 27 % 27) (oc, ob)).bind fun t => f_X12_printName_L4 (Int32.ofNat N) n t.1 t.2 1 := by
  have h := pn_step (n := n) (oc := oc) (ob := ob) (p := 27) hN (by decide) (by decide)
  rw [show Int32.ofNat 27 / 27 = 1 by decide] at h
  exact h
theorem pn0 {N n : Nat} {oc : Int32} {ob : Nat → Int32} (hN : N < 2147483648) : f_X12_printName_L4 (Int32.ofNat N) (n + 1) oc ob 1 = (stepM (N / 1 % 27) (oc, ob)).bind fun t => f_X12_printName_L4 (Int32.ofNat N) n t.1 t.2 0 := by
  have h := pn_step (n := n) (oc := oc) (ob := ob) (p := 1) hN (by decide) (by decide)
  rw [show Int32.ofNat 1 / 27 = 0 by decide] at h
  exact h
theorem pnE {v oc : Int32} {ob : Nat → Int32} {n : Nat} : f_X12_printName_L4 v (n + 1) oc ob 0 = some (oc, ob) := by
  rw [f_X12_printName_L4, if_pos (by decide)]
theorem pn_all {N : Nat} {x : Int32 × (Nat → Int32)} (hN : N < 2147483648) : f_X12_printName x.1 x.2 (Int32.ofNat N) = (stepM (N / 19683 % 27) x).bind fun s => (stepM (N / 729 % 27) s).bind fun s => (stepM (N / 27 % 27) s).bind fun s => (stepM (N / 1 % 27) s).bind fun s => some s := by
  have h : ∀ n, f_X12_printName_L4 (Int32.ofNat N) (n + 5) x.1 x.2 19683 = (stepM (N / 19683 % 27) x).bind fun s => (stepM (N / 729 % 27) s).bind fun s => (stepM (N / 27 % 27) s).bind fun s => (stepM (N / 1 % 27) s).bind fun s => some s := fun n => by
    simp only [pn3 hN, pn2 hN, pn1 hN, pn0 hN, pnE]
  unfold f_X12_printName
  rw [ob_eta]
  exact h 4995
theorem sC0 {s : Int32 × (Nat → Int32)} : stepC 0 s = some s := rfl
theorem sM0 {s : Int32 × (Nat → Int32)} : stepM 0 s = some s := rfl
theorem st_both {n k : Nat} {x y : Int32 × (Nat → Int32)} (hP : PS n x y) (hn : n < 60) (h1 : 1 ≤ k) (h2 : k ≤ 26) : ∃ x' y', stepC (96 + k) x = some x' ∧ stepM k y = some y' ∧ PS (n + 1) x' y' := by
  obtain ⟨x1, y1, e1, e2, e3⟩ := pr_one (c := 96 + k) hP hn (by omega)
  refine ⟨x1, y1, ?_, ?_, e3⟩
  · unfold stepC
    rw [if_neg (by omega)]
    exact e1
  · unfold stepM
    rw [if_neg (by omega)]
    exact e2
theorem by2 {P Q : Nat} (hP : P < 256) (hQ : Q < 256) : (P * 256 + Q) / 16777216 % 256 = 0 ∧ (P * 256 + Q) / 65536 % 256 = 0 ∧ (P * 256 + Q) / 256 % 256 = P ∧ (P * 256 + Q) / 1 % 256 = Q := ⟨by omega, by omega, by omega, by omega⟩
theorem by3 {P Q U : Nat} (hP : P < 256) (hQ : Q < 256) (hU : U < 256) : (P * 65536 + Q * 256 + U) / 16777216 % 256 = 0 ∧ (P * 65536 + Q * 256 + U) / 65536 % 256 = P ∧ (P * 65536 + Q * 256 + U) / 256 % 256 = Q ∧ (P * 65536 + Q * 256 + U) / 1 % 256 = U := ⟨by omega, by omega, by omega, by omega⟩
theorem by4 {P Q U Z : Nat} (hP : P < 256) (hQ : Q < 256) (hU : U < 256) (hZ : Z < 256) : (P * 16777216 + Q * 65536 + U * 256 + Z) / 16777216 % 256 = P ∧ (P * 16777216 + Q * 65536 + U * 256 + Z) / 65536 % 256 = Q ∧ (P * 16777216 + Q * 65536 + U * 256 + Z) / 256 % 256 = U ∧ (P * 16777216 + Q * 65536 + U * 256 + Z) / 1 % 256 = Z := ⟨by omega, by omega, by omega, by omega⟩
theorem nm_both {n : Nat} {a b : Int32} {x y : Int32 × (Nat → Int32)} (hA : NAME a b) (hP : PS n x y) (hn : n + 4 ≤ 60) : ∃ d x' y', d ≤ 4 ∧ f_X0_addName 64 x.1 x.2 a = some x' ∧ f_X12_printName y.1 y.2 b = some y' ∧ PS (n + d) x' y' := by
  obtain ⟨p, q, u, z, h1, h2, h3, h4, h5, h6, h7, hB, hc⟩ := hA
  have m3 : (p * 19683 + q * 729 + u * 27 + z) / 19683 % 27 = p := by omega
  have m2 : (p * 19683 + q * 729 + u * 27 + z) / 729 % 27 = q := by omega
  have m1 : (p * 19683 + q * 729 + u * 27 + z) / 27 % 27 = u := by omega
  have m0 : (p * 19683 + q * 729 + u * 27 + z) / 1 % 27 = z := by omega
  have hM := pn_all (x := y) (N := p * 19683 + q * 729 + u * 27 + z) (by omega)
  rw [m3, m2, m1, m0] at hM
  rw [ofNat_of hB, hM]
  obtain ⟨x1, y1, e1, e2, e3⟩ := st_both hP (by omega) h1 h2
  rcases hc with ⟨c1, c2⟩ | ⟨c1, c2, c3⟩ | ⟨c1, c2, c3⟩ | ⟨c1, c3⟩
  · have k3 : (96 + p) / 16777216 % 256 = 0 := by omega
    have k2 : (96 + p) / 65536 % 256 = 0 := by omega
    have k1 : (96 + p) / 256 % 256 = 0 := by omega
    have k0 : (96 + p) / 1 % 256 = 96 + p := by omega
    have hu : u = 0 := h6 c1
    have hz : z = 0 := h7 hu
    refine ⟨1, x1, y1, by decide, ?_, ?_, e3⟩
    · rw [ofNat_of c2, an_all, k3, k2, k1, k0]
      simp only [sC0, e1, ob_some]
    · rw [c1, hu, hz]
      simp only [sM0, e2, ob_some]
  · obtain ⟨k3, k2, k1, k0⟩ := by2 (P := 96 + p) (Q := 96 + q) (by omega) (by omega)
    have hz : z = 0 := h7 c2
    obtain ⟨x2, y2, f1, f2, f3⟩ := st_both e3 (by omega) c1 h3
    refine ⟨2, x2, y2, by decide, ?_, ?_, f3⟩
    · rw [ofNat_of c3, an_all, k3, k2, k1, k0]
      simp only [sC0, e1, f1, ob_some]
    · rw [c2, hz]
      simp only [sM0, e2, f2, ob_some]
  · obtain ⟨k3, k2, k1, k0⟩ := by3 (P := 96 + p) (Q := 96 + q) (U := 96 + u) (by omega) (by omega) (by omega)
    have hq1 : 1 ≤ q := by
      refine Classical.byContradiction fun w => ?_
      have := h6 (by omega)
      omega
    obtain ⟨x2, y2, f1, f2, f3⟩ := st_both e3 (by omega) hq1 h3
    obtain ⟨x3, y3, g1, g2, g3⟩ := st_both f3 (by omega) c1 h4
    refine ⟨3, x3, y3, by decide, ?_, ?_, g3⟩
    · rw [ofNat_of c3, an_all, k3, k2, k1, k0]
      simp only [sC0, e1, f1, g1, ob_some]
    · rw [c2]
      simp only [sM0, e2, f2, g2, ob_some]
  · obtain ⟨k3, k2, k1, k0⟩ := by4 (P := 96 + p) (Q := 96 + q) (U := 96 + u) (Z := 96 + z) (by omega) (by omega) (by omega) (by omega)
    have hu1 : 1 ≤ u := by
      refine Classical.byContradiction fun w => ?_
      have := h7 (by omega)
      omega
    have hq1 : 1 ≤ q := by
      refine Classical.byContradiction fun w => ?_
      have := h6 (by omega)
      omega
    obtain ⟨x2, y2, f1, f2, f3⟩ := st_both e3 (by omega) hq1 h3
    obtain ⟨x3, y3, g1, g2, g3⟩ := st_both f3 (by omega) hu1 h4
    obtain ⟨x4, y4, j1, j2, j3⟩ := st_both g3 (by omega) c1 h5
    refine ⟨4, x4, y4, by decide, ?_, ?_, j3⟩
    · rw [ofNat_of c3, an_all, k3, k2, k1, k0]
      simp only [e1, f1, g1, j1, ob_some]
    · simp only [e2, f2, g2, j2, ob_some]
theorem nn_row {x : Int32} {n : Nat} (h0 : 0 ≤ x.toInt) (h1 : x.toInt < (n : Int)) : ∃ k : Nat, x.toInt = (k : Int) ∧ k < n := ⟨x.toInt.toNat, by omega, by omega⟩
theorem q01 : ((0 : Int32) = 1) = False := eq_false (by decide)
theorem q00 : ((0 : Int32) = 0) = True := eq_true rfl
theorem q11 : ((1 : Int32) = 1) = True := eq_true rfl
theorem q10 : ((1 : Int32) = 0) = False := eq_false (by decide)
theorem k00 : ((0 : Nat) = 0) = True := eq_true rfl
theorem hh59 (t : Nat) : H59 (REL (t + 1)) (REL t) := by
  intro nextPast pastCount i_count i_cells o_count o_cells p_start p_end p_kind p_value p_error p_errorAt p_d_time p_d_tolerance p_d_seed p_d_madeTickets p_d_cheesesOfText p_d_R_rows p_d_R_cells p_d_U_rows p_d_U_cells p_d_S_rows p_d_S_cells p_d_T_rows p_d_T_cells p_d_E_rows p_d_E_cells s_time s_tolerance s_seed s_madeTickets s_cheesesOfText s_R_rows s_R_cells s_U_rows s_U_cells s_S_rows s_S_cells s_T_rows s_T_cells s_E_rows s_E_cells sl pa m_undoable m_undoStart m_thrown m_inputLength m_position m_start m_token m_value m_letters m_code m_place m_outputLength m_s m_parsed m_tried m_remembered m_slots m_kept m_away m_input m_halfway m_output h
  have hX : RELX (t + 1) i_count i_cells m_inputLength m_input p_error m_code p_errorAt m_place o_count o_cells m_outputLength m_output s_time s_tolerance s_seed s_madeTickets s_cheesesOfText s_R_rows s_R_cells s_U_rows s_U_cells s_S_rows s_S_cells s_T_rows s_T_cells s_E_rows s_E_cells m_s sl m_slots m_kept nextPast pastCount pa m_undoable m_undoStart m_remembered := h
  obtain ⟨ht, hin, her, hou, hst, hsl, hun⟩ := hX
  have hst1 := hst.mono (tbt_le t) (mbt_le t)
  have hsl1 := hsl.mono (tbt_le t) (mbt_le t)
  have hun1 := hun.mono (tbt_le t) (mbt_le t)
  have htb := tbt_max (t + 1)
  have hmb := mbt_max (t + 1)
  have H := RELX.mk (show t ≤ 512 by omega) hin her hou hst1 hsl1 hun1
  intro v1
  obtain ⟨r, u, s, k, e, ⟨y0, y1, y2, y7, y9⟩, ⟨hR, hR2, hR3⟩, ⟨hU, hU2⟩, ⟨hS, hS2⟩, hT, hE, ⟨z1, z2, z3, z4, z5, z6⟩, hRI, hUI, hSI, hTI, hEI, hUZ⟩ := id hst
  obtain ⟨row, f1, f2, f3⟩ := find_all hT v1
  by_cases hq : row = -1
  case pos =>
    rw [hq] at f1 f2
    refine ⟨(4, 0, o_count, o_cells), (0, 1, m_outputLength, m_output), ?_, Or.inr rfl, ?_, rfl, (fun z => nomatch z), H⟩
    · simp only [f_X11_writeTicket, rowOf_none f1, ob_some, k40, if_false]
    · simp only [f_X12_writeTicket, noTicket_none f2, ob_some, i10, if_false]
  obtain ⟨i, li, ti, f4⟩ := f3.resolve_left hq
  have ct := rowOf_some f1 hq
  have mt : ∀ th, f_X12_noTicket th m_s v1 = some (0, 0) := fun th => noTicket_some f2 hq
  obtain ⟨ta, tb, tc, td, te, tf, tg, th, tj, -, -, tl⟩ := hTI i li
  have hu6 := hU.2.1
  have hr5 := hR.2.1
  have hs6 := hS.2.1
  have hk24 := hT.2.1
  have ta2 : 0 ≤ v1.toInt := by rw [← f4]; exact ta
  obtain ⟨N, hN1, hN2⟩ := nn_of ta2
  obtain ⟨M, hM1, hM2⟩ := nn_of th
  obtain ⟨uu, hu1, hu2⟩ := nn_row td te
  obtain ⟨rr, hr1, hr2⟩ := nn_row tf tg
  obtain ⟨d1, x1, w1, c1, e1, e2, e3⟩ := num_both (n := 0) (x := (0, o_cells)) (y := (0, m_output)) hN2 ⟨show (0 : Int32).toInt = ((0 : Nat) : Int) by decide, by decide, rfl, fun k hk => by omega⟩ (by omega)
  rw [← hN1] at e1 e2
  obtain ⟨x2, w2, e4, e5, e6⟩ := pr_one (c := 58) e3 (by omega) (by decide)
  obtain ⟨d3, x3, w3, c3, e7, e8, e9⟩ := nm_both (hU2 uu hu2) e6 (by omega)
  obtain ⟨x4, w4, e10, e11, e12⟩ := pr_one (c := 64) e9 (by omega) (by decide)
  obtain ⟨d5, x5, w5, c5, e13, e14, e15⟩ := nm_both (hR2 rr hr2) e12 (by omega)
  have E1 : f_X0_addNumber 64 0 o_cells v1 = some x1 := e1
  have E2 : f_X12_printNumber 0 m_output v1 = some w1 := e2
  have E4 : f_X0_add 64 x1.1 x1.2 58 = some x2 := e4
  have E5 : f_X12_print w1.1 w1.2 58 = some w2 := e5
  have E10 : f_X0_add 64 x3.1 x3.2 64 = some x4 := e10
  have E11 : f_X12_print w3.1 w3.2 64 = some w4 := e11
  have gA := tG2 hT ti li
  have gB := tG3 hT ti li
  have gC := tG1 hT ti li
  have gD := tG6 hT ti li
  have gE := tG9 hT ti li
  have rA : rd m_s 463 (103 + 10 * row + 2) = some (m_s (103 + 10 * i + 2)) := tM2 ti (by omega)
  have rB : rd m_s 463 (103 + 10 * row + 3) = some (m_s (103 + 10 * i + 3)) := tM3 ti (by omega)
  have rC : rd m_s 463 (103 + 10 * row + 1) = some (m_s (103 + 10 * i + 1)) := tM1 ti (by omega)
  have rD : rd m_s 463 (103 + 10 * row + 6) = some (m_s (103 + 10 * i + 6)) := tM6 ti (by omega)
  have rE : rd m_s 463 (103 + 10 * row + 9) = some (m_s (103 + 10 * i + 9)) := tM9 ti (by omega)
  have uA : f_X6_get 30 5 s_U_rows s_U_cells (m_s (103 + 10 * i + 2)) 0 = some (s_U_cells (uu * 5 + 0)) := uR0 hU.1 hu6 hu1 hu2
  have uB : rd m_s 463 (55 + 5 * m_s (103 + 10 * i + 2) + 0) = some (m_s (55 + 5 * uu + 0)) := uM0 hu1 (by omega)
  have vA : f_X6_get 25 5 s_R_rows s_R_cells (m_s (103 + 10 * i + 3)) 0 = some (s_R_cells (rr * 5 + 0)) := rR0 hR.1 hr5 hr1 hr2
  have vB : rd m_s 463 (10 + 4 * m_s (103 + 10 * i + 3) + 0) = some (m_s (10 + 4 * rr + 0)) := rM0 hr1 (by omega)
  rcases tc with ⟨tc, -⟩ | ⟨tc, tc2, tc3⟩
  · obtain ⟨x8, w8, e20, e21, e22⟩ := pr_one (c := 32) e15 (by omega) (by decide)
    obtain ⟨d9, x9, w9, c9_, e23, e24, e25⟩ := num_both hM2 e22 (by omega)
    rw [← hM1] at e23 e24
    have E20 : f_X0_add 64 x5.1 x5.2 32 = some x8 := e20
    have E21 : f_X12_print w5.1 w5.2 32 = some w8 := e21
    rcases tl with tl | tl
    · refine ⟨(0, x9.1, x9.1, x9.2), (w9.1, 0, w9.1, w9.2), ?_, Or.inl rfl, ?_, rfl, (fun _ => congrArg Int32.toInt64 e25.2.2.1), RELX.mk (show t ≤ 512 by omega) hin her ⟨_, e25⟩ hst1 hsl1 hun1⟩
      · simp only [f_X11_writeTicket, ct, f_X0_cut, f_X0_size, f_X7_canBeRenewed, E1, E4, gA, uA, e7, E10, gB, vA, e13, gC, tc,  E20, gD, e23, gE, tl, q01, q11, q00, k00, if_true, if_false, ob_some]
      · simp only [f_X12_writeTicket, mt, f2, f_X12_ofTicket, f_X12_ofUser, f_X12_ofRealm, f_X12_ofService, E2, E5, rA, uB, e8, E11, rB, vB, e14, rC, tc,  E21, rD, e24, rE, tl, q01, q11, q00, if_true, if_false, ob_some]
    · obtain ⟨x10, w10, e26, e27, e28⟩ := pr_one (c := 43) e25 (by omega) (by decide)
      have E26 : f_X0_add 64 x9.1 x9.2 43 = some x10 := e26
      have E27 : f_X12_print w9.1 w9.2 43 = some w10 := e27
      refine ⟨(0, x10.1, x10.1, x10.2), (w10.1, 0, w10.1, w10.2), ?_, Or.inl rfl, ?_, rfl, (fun _ => congrArg Int32.toInt64 e28.2.2.1), RELX.mk (show t ≤ 512 by omega) hin her ⟨_, e28⟩ hst1 hsl1 hun1⟩
      · simp only [f_X11_writeTicket, ct, f_X0_cut, f_X0_size, f_X7_canBeRenewed, E1, E4, gA, uA, e7, E10, gB, vA, e13, gC, tc,  E20, gD, e23, gE, tl, E26, q01, q11, q10, k00, if_true, if_false, ob_some]
      · simp only [f_X12_writeTicket, mt, f2, f_X12_ofTicket, f_X12_ofUser, f_X12_ofRealm, f_X12_ofService, E2, E5, rA, uB, e8, E11, rB, vB, e14, rC, tc,  E21, rD, e24, rE, tl, E27, q01, q11, q00, if_true, if_false, ob_some]
  · obtain ⟨ss, hs1, hs2⟩ := nn_row tc2 tc3
    obtain ⟨x6, w6, e16, e17, e18⟩ := pr_one (c := 47) e15 (by omega) (by decide)
    obtain ⟨d7, x7, w7, c7, e29, e30, e31⟩ := nm_both (hS2 ss hs2) e18 (by omega)
    have E16 : f_X0_add 64 x5.1 x5.2 47 = some x6 := e16
    have E17 : f_X12_print w5.1 w5.2 47 = some w6 := e17
    have gF := tG4 hT ti li
    have rF : rd m_s 463 (103 + 10 * row + 4) = some (m_s (103 + 10 * i + 4)) := tM4 ti (by omega)
    have sA : f_X6_get 18 3 s_S_rows s_S_cells (m_s (103 + 10 * i + 4)) 0 = some (s_S_cells (ss * 3 + 0)) := vR0 hS.1 hs6 hs1 hs2
    have sB : rd m_s 463 (85 + 3 * m_s (103 + 10 * i + 4) + 0) = some (m_s (85 + 3 * ss + 0)) := vM0 hs1 (by omega)
    obtain ⟨x8, w8, e20, e21, e22⟩ := pr_one (c := 32) e31 (by omega) (by decide)
    obtain ⟨d9, x9, w9, c9_, e23, e24, e25⟩ := num_both hM2 e22 (by omega)
    rw [← hM1] at e23 e24
    have E20 : f_X0_add 64 x7.1 x7.2 32 = some x8 := e20
    have E21 : f_X12_print w7.1 w7.2 32 = some w8 := e21
    rcases tl with tl | tl
    · refine ⟨(0, x9.1, x9.1, x9.2), (w9.1, 0, w9.1, w9.2), ?_, Or.inl rfl, ?_, rfl, (fun _ => congrArg Int32.toInt64 e25.2.2.1), RELX.mk (show t ≤ 512 by omega) hin her ⟨_, e25⟩ hst1 hsl1 hun1⟩
      · simp only [f_X11_writeTicket, ct, f_X0_cut, f_X0_size, f_X7_canBeRenewed, E1, E4, gA, uA, e7, E10, gB, vA, e13, gC, tc, E16, gF, sA, e29, E20, gD, e23, gE, tl, q01, q11, q00, k00, if_true, if_false, ob_some]
      · simp only [f_X12_writeTicket, mt, f2, f_X12_ofTicket, f_X12_ofUser, f_X12_ofRealm, f_X12_ofService, E2, E5, rA, uB, e8, E11, rB, vB, e14, rC, tc, E17, rF, sB, e30, E21, rD, e24, rE, tl, q01, q11, q00, if_true, if_false, ob_some]
    · obtain ⟨x10, w10, e26, e27, e28⟩ := pr_one (c := 43) e25 (by omega) (by decide)
      have E26 : f_X0_add 64 x9.1 x9.2 43 = some x10 := e26
      have E27 : f_X12_print w9.1 w9.2 43 = some w10 := e27
      refine ⟨(0, x10.1, x10.1, x10.2), (w10.1, 0, w10.1, w10.2), ?_, Or.inl rfl, ?_, rfl, (fun _ => congrArg Int32.toInt64 e28.2.2.1), RELX.mk (show t ≤ 512 by omega) hin her ⟨_, e28⟩ hst1 hsl1 hun1⟩
      · simp only [f_X11_writeTicket, ct, f_X0_cut, f_X0_size, f_X7_canBeRenewed, E1, E4, gA, uA, e7, E10, gB, vA, e13, gC, tc, E16, gF, sA, e29, E20, gD, e23, gE, tl, E26, q01, q11, q10, k00, if_true, if_false, ob_some]
      · simp only [f_X12_writeTicket, mt, f2, f_X12_ofTicket, f_X12_ofUser, f_X12_ofRealm, f_X12_ofService, E2, E5, rA, uB, e8, E11, rB, vB, e14, rC, tc, E17, rF, sB, e30, E21, rD, e24, rE, tl, E27, q01, q11, q00, if_true, if_false, ob_some]
