/-! PURE: tables as lists of rows. -/
/-- the cells of a table hold the rows of a list -/
def TB (W : Nat) (C : Nat → Int32) (L : List Row) : Prop := ∀ i g, L[i]? = some g → ∀ c, c < W → C (i * W + c) = g c
theorem cell_ix {i W j : Nat} : nI i * nI W + nI j = nI (i * W + j) := by rw [pk_mul, nI_add]
theorem ix_lt {i W j n N : Nat} (hi : i < n) (hj : j < W) (hN : n * W ≤ N) : i * W + j < N := by
  have h : (i + 1) * W ≤ n * W := Nat.mul_le_mul_right W hi
  rw [Nat.succ_mul] at h
  omega
theorem get_at {N W : Nat} {w r v c : Int32} {C : Nat → Int32} {n i j : Nat} (hw : w = nI W) (hr : r = nI n) (hv : v = nI i) (hc : c = nI j) (hi : i < n) (hj : j < W) (hN : n * W ≤ N) (hN2 : N < 2 ^ 31) (hn : n < 2 ^ 31) : f_X6_get N w r C v c = some (C (i * W + j)) := by
  have hx := ix_lt hi hj hN
  subst hw hr hv hc
  unfold f_X6_get
  rw [cell_ix, if_neg (nI_pos (by omega)), if_neg (nI_ge hi hn), if_neg (nI_pos (by omega)), if_neg (show ¬ Int32.ofNat N ≤ nI (i * W + j) from nI_ge hx hN2)]
  show Option.bind (some 1) _ = _
  rw [Option.bind_some, if_neg (by decide), rd_nI9 hx hN2]
  rfl
theorem set_at {N W : Nat} {w r v c x : Int32} {C : Nat → Int32} {n i j : Nat} (hw : w = nI W) (hr : r = nI n) (hv : v = nI i) (hc : c = nI j) (hi : i < n) (hj : j < W) (hN : n * W ≤ N) (hN2 : N < 2 ^ 31) (hn : n < 2 ^ 31) : f_X6_set N w r C v c x = some (upd C (i * W + j) x) := by
  have hx := ix_lt hi hj hN
  subst hw hr hv hc
  unfold f_X6_set
  rw [cell_ix, if_neg (nI_pos (by omega)), if_neg (nI_ge hi hn), if_neg (nI_pos (by omega)), if_neg (show ¬ Int32.ofNat N ≤ nI (i * W + j) from nI_ge hx hN2), wr_nI9 hx hN2]
  rfl
/-- a cell of a row -/
theorem get_tb {N W : Nat} {w r v c : Int32} {C : Nat → Int32} {L : List Row} {i j : Nat} {g : Row} (h : TB W C L) (hg : L[i]? = some g) (hw : w = nI W) (hr : r = nI L.length) (hv : v = nI i) (hc : c = nI j) (hj : j < W) (hN : L.length * W ≤ N) (hN2 : N < 2 ^ 31) (hn : L.length < 2 ^ 31) : f_X6_get N w r C v c = some (g j) := by
  rw [get_at hw hr hv hc (List.getElem?_eq_some_iff.mp hg).1 hj hN hN2 hn, h i g hg j hj]
theorem getT {r v c : Int32} {C : Nat → Int32} {L : List Row} {i j : Nat} {g : Row} (h : TB 10 C L) (hg : L[i]? = some g) (hr : r = nI L.length) (hv : v = nI i) (hc : c = nI j) (hj : j < 10) (hl : L.length ≤ 24) : f_X6_get 240 10 r C v c = some (g j) := get_tb h hg rfl hr hv hc hj (by omega) (by decide) (by omega)
theorem getE {r v c : Int32} {C : Nat → Int32} {L : List Row} {i j : Nat} {g : Row} (h : TB 4 C L) (hg : L[i]? = some g) (hr : r = nI L.length) (hv : v = nI i) (hc : c = nI j) (hj : j < 4) (hl : L.length ≤ 30) : f_X6_get 120 4 r C v c = some (g j) := get_tb h hg rfl hr hv hc hj (by omega) (by decide) (by omega)
theorem has_at {N n i : Nat} {r v : Int32} (hr : r = nI n) (hv : v = nI i) (hi : i < n) (hn : n < 2 ^ 31) : f_X6_has N r v = some 1 := by
  subst hr hv
  unfold f_X6_has
  rw [if_neg (nI_pos (by omega)), if_neg (nI_ge hi hn)]
/-- the first row with a number -/
theorem find_L {N W : Nat} {w r c x : Int32} {C : Nat → Int32} {L : List Row} {i j : Nat} {g : Row} (h : TB W C L) (hg : L[i]? = some g) (hx : g j = x) (hb : ∀ k f, k < i → L[k]? = some f → f j ≠ x) (hw : w = nI W) (hr : r = nI L.length) (hc : c = nI j) (hj : j < W) (hN : L.length * W ≤ N) (hN2 : N < 2 ^ 31) (hn : L.length < 2 ^ 31) : ∀ m k fu, k + m = i → m < fu → f_X6_rowWith_L2 N w r C c x fu (nI k) = some (nI i) := by
  have hi := (List.getElem?_eq_some_iff.mp hg).1
  intro m
  induction m with
  | zero =>
    intro k fu hk hf
    obtain rfl : k = i := by omega
    obtain ⟨fu, rfl⟩ : ∃ f, fu = f + 1 := ⟨fu - 1, by omega⟩
    unfold f_X6_rowWith_L2
    rw [if_neg (show ¬ r ≤ nI k by rw [hr]; exact nI_ge hi hn), get_tb h hg hw hr rfl hc hj hN hN2 hn, Option.bind_some, if_pos hx]
  | succ m ih =>
    intro k fu hk hf
    obtain ⟨fu, rfl⟩ : ∃ f, fu = f + 1 := ⟨fu - 1, by omega⟩
    obtain ⟨f, hf2⟩ : ∃ f, L[k]? = some f := ⟨_, List.getElem?_eq_getElem (by omega)⟩
    unfold f_X6_rowWith_L2
    rw [if_neg (show ¬ r ≤ nI k by rw [hr]; exact nI_ge (by omega) hn), get_tb h hf2 hw hr rfl hc hj hN hN2 hn, Option.bind_some, if_neg (hb k f (by omega) hf2), nI_1]
    exact ih (k + 1) fu (by omega) (by omega)
theorem find_tb {N W : Nat} {w r c x : Int32} {C : Nat → Int32} {L : List Row} {i j : Nat} {g : Row} (h : TB W C L) (hg : L[i]? = some g) (hx : g j = x) (hb : ∀ k f, k < i → L[k]? = some f → f j ≠ x) (hw : w = nI W) (hr : r = nI L.length) (hc : c = nI j) (hj : j < W) (hN : L.length * W ≤ N) (hN2 : N < 2 ^ 31) (hn : L.length < 5000) : f_X6_rowWith N w r C c x = some (nI i) := by
  have hi := (List.getElem?_eq_some_iff.mp hg).1
  exact find_L h hg hx hb hw hr hc hj hN hN2 (by omega) i 0 5000 (by omega) (by omega)
/-- removing a row -/
def shf (W a b : Nat) (C : Nat → Int32) : Nat → Int32 := fun j => if a ≤ j ∧ j < b then C (j + W) else C j
theorem shf_step {W a b : Nat} {C : Nat → Int32} (h : a < b) (hW : 0 < W) : shf W (a + 1) b (upd C a (C (a + W))) = shf W a b C := by
  funext j
  unfold shf upd
  by_cases h1 : j = a
  · subst h1
    rw [if_neg (by omega), if_pos rfl, if_pos (by omega)]
  · by_cases h2 : a ≤ j ∧ j < b
    · rw [if_pos (by omega), if_neg (by omega), if_pos h2]
    · rw [if_neg (by omega), if_neg h1, if_neg h2]
theorem shf_end {W b : Nat} {C : Nat → Int32} : shf W b b C = C := by
  funext j
  unfold shf
  rw [if_neg (by omega)]
theorem rem_L {N W n : Nat} {w r : Int32} (hw : w = nI W) (hr : r = nI n) (hn0 : 0 < n) (hW : 0 < W) (hN : n * W ≤ N) (hN2 : N < 2 ^ 31) (hn : n < 2 ^ 31) : ∀ m a fu C, a + m = (n - 1) * W → m < fu → f_X6_removeRow_L20 N w r fu C (nI a) = some (shf W a ((n - 1) * W) C) := by
  have h1 : n * W = (n - 1) * W + W := by
    obtain ⟨k, rfl⟩ : ∃ k, n = k + 1 := ⟨n - 1, by omega⟩
    rw [Nat.succ_mul]
    rfl
  have hb : (r - 1) * w = nI ((n - 1) * W) := by rw [hr, hw, show nI n - 1 = nI (n - 1) from pk_sub (a := n) (b := 1) (by omega), pk_mul]
  intro m
  induction m with
  | zero =>
    intro a fu C ha hf
    obtain ⟨fu, rfl⟩ : ∃ f, fu = f + 1 := ⟨fu - 1, by omega⟩
    unfold f_X6_removeRow_L20
    rw [hb, if_pos (nI_le (by omega) (by omega)), show a = (n - 1) * W by omega, shf_end]
  | succ m ih =>
    intro a fu C ha hf
    obtain ⟨fu, rfl⟩ : ∃ f, fu = f + 1 := ⟨fu - 1, by omega⟩
    unfold f_X6_removeRow_L20
    rw [hb, if_neg (nI_ge (by omega) (by omega)), if_neg (nI_pos (by omega)), if_neg (show ¬ Int32.ofNat N ≤ nI a from nI_ge (by omega) hN2), hw, nI_add, if_neg (nI_pos (by omega)), if_neg (show ¬ Int32.ofNat N ≤ nI (a + W) from nI_ge (by omega) hN2), rd_nI9 (by omega) hN2, Option.bind_some, wr_nI9 (by omega) hN2, Option.bind_some, nI_1, ← hw, ih (a + 1) fu _ (by omega) (by omega), shf_step (by omega) hW]
theorem rem_tb {N W : Nat} {w r v : Int32} {C : Nat → Int32} {L : List Row} {i : Nat} (h : TB W C L) (hi : i < L.length) (hw : w = nI W) (hr : r = nI L.length) (hv : v = nI i) (hW : 0 < W) (hN : L.length * W ≤ N) (hN2 : N < 4000) (hn : L.length < 2 ^ 31) : ∃ C', f_X6_removeRow N w r C v = some (nI (L.eraseIdx i).length, C') ∧ TB W C' (L.eraseIdx i) := by
  have h1 : L.length * W = (L.length - 1) * W + W := by
    obtain ⟨k, hk⟩ : ∃ k, L.length = k + 1 := ⟨L.length - 1, by omega⟩
    rw [hk, Nat.succ_mul]
    rfl
  have h2 : i * W ≤ (L.length - 1) * W := Nat.mul_le_mul_right W (by omega)
  refine ⟨shf W (i * W) ((L.length - 1) * W) C, ?_, ?_⟩
  · unfold f_X6_removeRow
    rw [hv, if_neg (nI_pos (by omega)), hr, if_pos (nI_lt hi hn), hw, pk_mul, rem_L rfl rfl (by omega) hW hN (by omega) hn ((L.length - 1) * W - i * W) (i * W) 5000 C (by omega) (by omega), Option.bind_some, show nI L.length - 1 = nI (L.length - 1) from pk_sub (a := L.length) (b := 1) (by omega), List.length_eraseIdx_of_lt hi]
  · intro k g hg c hc
    have hk := (List.getElem?_eq_some_iff.mp hg).1
    rw [List.length_eraseIdx_of_lt hi] at hk
    rw [era_at] at hg
    have h3 : k * W + c < (L.length - 1) * W := ix_lt hk hc (Nat.le_refl _)
    unfold shf
    by_cases h4 : k < i
    · rw [if_pos h4] at hg
      have h5 : k * W + c < i * W := ix_lt h4 hc (Nat.le_refl _)
      rw [if_neg (by omega)]
      exact h k g hg c hc
    · rw [if_neg h4] at hg
      have h5 : i * W ≤ k * W := Nat.mul_le_mul_right W (by omega)
      rw [if_pos (by omega), show k * W + c + W = (k + 1) * W + c by rw [Nat.succ_mul]; omega]
      exact h (k + 1) g hg c hc
/-- a row that is written -/
theorem TB_set {W i : Nat} {C C' : Nat → Int32} {L : List Row} {g : Row} (h : TB W C L) (h1 : ∀ j, (j < i * W ∨ i * W + W ≤ j) → C' j = C j) (h2 : ∀ c, c < W → C' (i * W + c) = g c) : TB W C' (L.set i g) := by
  intro k f hf c hc
  rw [List.getElem?_set] at hf
  by_cases hk : i = k
  · subst hk
    rw [if_pos rfl] at hf
    split at hf
    · cases hf
      exact h2 c hc
    · cases hf
  · rw [if_neg hk] at hf
    rw [h1]
    · exact h k f hf c hc
    · rcases Nat.lt_or_gt_of_ne hk with h3 | h3
      · have := Nat.mul_le_mul_right W (show i + 1 ≤ k from h3)
        rw [Nat.succ_mul] at this
        omega
      · have := Nat.mul_le_mul_right W (show k + 1 ≤ i from h3)
        rw [Nat.succ_mul] at this
        omega
theorem TB_add {W : Nat} {C C' : Nat → Int32} {L : List Row} {g : Row} (h : TB W C L) (h1 : ∀ j, j < L.length * W → C' j = C j) (h2 : ∀ c, c < W → C' (L.length * W + c) = g c) : TB W C' (L ++ [g]) := by
  intro k f hf c hc
  by_cases hk : k < L.length
  · rw [List.getElem?_append_left hk] at hf
    rw [h1 _ (ix_lt hk hc (Nat.le_refl _))]
    exact h k f hf c hc
  · have hk2 : k = L.length := by
      have := (List.getElem?_eq_some_iff.mp hf).1
      rw [List.length_append, List.length_singleton] at this
      omega
    subst hk2
    rw [List.getElem?_append_right (Nat.le_refl _), Nat.sub_self] at hf
    cases hf
    exact h2 c hc
theorem isAlive_tb {r v t : Int32} {C : Nat → Int32} {L : List Row} {i : Nat} {g : Row} (h : TB 10 C L) (hg : L[i]? = some g) (hr : r = nI L.length) (hv : v = nI i) (hl : L.length ≤ 24) : f_X7_isAlive r C v t = some (if live t g = true then 1 else 0) := by
  unfold f_X7_isAlive
  rw [getT (c := 6) (j := 6) h hg hr hv rfl (by decide) hl, Option.bind_some]
  unfold live
  by_cases h6 : g 6 ≤ t
  · rw [if_pos h6, if_neg (by simpa using h6)]
  · rw [if_neg h6, if_pos (by simpa using h6)]
theorem alive_L {r t : Int32} {C : Nat → Int32} {L : List Row} (h : TB 10 C L) (hr : r = nI L.length) (hl : L.length ≤ 24) : ∀ m k fu c, k + m = L.length → m < fu → f_X7_countAlive_L4 r C t fu (nI c) (nI k) = some (nI (c + (L.drop k).countP (live t))) := by
  intro m
  induction m with
  | zero =>
    intro k fu c hk hf
    obtain ⟨fu, rfl⟩ : ∃ f, fu = f + 1 := ⟨fu - 1, by omega⟩
    unfold f_X7_countAlive_L4 f_X6_size
    rw [Option.bind_some, hr, if_pos (nI_le (by omega) (by omega)), List.drop_of_length_le (by omega)]
    rfl
  | succ m ih =>
    intro k fu c hk hf
    obtain ⟨fu, rfl⟩ : ∃ f, fu = f + 1 := ⟨fu - 1, by omega⟩
    have hk2 : k < L.length := by omega
    have hg : L[k]? = some L[k] := List.getElem?_eq_getElem hk2
    unfold f_X7_countAlive_L4 f_X6_size
    rw [Option.bind_some, if_neg (by rw [hr]; exact nI_ge (by omega) (by omega)), isAlive_tb h hg hr rfl hl, Option.bind_some]
    have hd : (L.drop k).countP (live t) = (L.drop (k + 1)).countP (live t) + (if live t L[k] = true then 1 else 0) := by
      rw [List.drop_eq_getElem_cons hk2, List.countP_cons]
    by_cases hv : live t L[k] = true
    · rw [if_pos hv, if_neg (by decide), Option.bind_some, nI_1 k, nI_1 c, ih (k + 1) fu (c + 1) (by omega) (by omega), hd, if_pos hv]
      congr 2
      omega
    · rw [if_neg hv, if_pos rfl, Option.bind_some, nI_1 k, show nI c + 0 = nI c from nI_add c 0, ih (k + 1) fu c (by omega) (by omega), hd, if_neg hv]
      rfl
theorem alive_tb {r t : Int32} {C : Nat → Int32} {L : List Row} (h : TB 10 C L) (hr : r = nI L.length) (hl : L.length ≤ 24) : f_X7_countAlive r C t = some (nI (L.countP (live t))) := by
  unfold f_X7_countAlive
  rw [show (0 : Int32) = nI 0 from rfl, alive_L h hr hl L.length 0 5000 0 (by omega) (by omega), Option.bind_some, List.drop_zero, Nat.zero_add]
