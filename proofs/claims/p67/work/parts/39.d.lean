/-! PURE: the letters of the text, as the parser sees them. -/
/-- the input holds a text -/
def INT9 (M : List Nat) (ic : Int32) (ib : Nat → Int32) : Prop := ic = nI M.length ∧ M.length ≤ 500 ∧ (∀ c ∈ M, c < 128) ∧ ∀ j, j < M.length → ib j = nI (M.getD j 0)
theorem drop_at {M r : List Nat} {p c : Nat} (h : M.drop p = c :: r) : p < M.length ∧ M.getD p 0 = c ∧ c ∈ M ∧ M.drop (p + 1) = r := by
  have h1 : p < M.length := by
    apply Classical.byContradiction
    intro hn
    rw [List.drop_of_length_le (by omega)] at h
    cases h
  rw [List.drop_eq_getElem_cons h1] at h
  injection h with h2 h3
  refine ⟨h1, ?_, ?_, h3⟩
  · rw [List.getD_eq_getElem?_getD, List.getElem?_eq_getElem h1]
    exact h2
  · rw [← h2]
    exact List.getElem_mem h1
theorem drop_nil {M : List Nat} {p : Nat} (h : M.drop p = []) : M.length ≤ p := List.drop_eq_nil_iff.mp h
theorem drop_len {M w r : List Nat} {p : Nat} (h : M.drop p = w ++ r) (hw : w ≠ []) : p + w.length ≤ M.length := by
  have h1 := congrArg List.length h
  rw [List.length_drop, List.length_append] at h1
  have h2 : 0 < w.length := List.length_pos_iff.mpr hw
  omega
theorem drop_app {M w r : List Nat} {p : Nat} (h : M.drop p = w ++ r) : M.drop (p + w.length) = r := by
  rw [← List.drop_drop, h, List.drop_left]
theorem at_c {M r : List Nat} {ic : Int32} {ib : Nat → Int32} {p c : Nat} (hI : INT9 M ic ib) (h : M.drop p = c :: r) : f_X0_at 600 ic ib (nI p) = some (nI c) := by
  obtain ⟨h1, h2, h3, h4⟩ := hI
  obtain ⟨g1, g2, -, -⟩ := drop_at h
  unfold f_X0_at
  rw [h1, if_neg (nI_pos (by omega)), if_neg (nI_ge g1 (by omega)), if_neg (show ¬ Int32.ofNat 600 ≤ nI p from nI_ge (b := 600) (by omega) (by decide)), Option.bind_some, if_neg (by decide), rd_nI9 (by omega) (by decide), Option.bind_some, h4 p g1, g2]
theorem at_e {M : List Nat} {ic : Int32} {ib : Nat → Int32} {p : Nat} (hI : INT9 M ic ib) (hp : p < 2 ^ 31) (h : M.length ≤ p) : f_X0_at 600 ic ib (nI p) = some (-1) := by
  obtain ⟨h1, h2, -⟩ := hI
  unfold f_X0_at
  rw [h1, if_neg (nI_pos hp), if_pos (nI_le h hp), Option.bind_some, if_pos rfl]
theorem c_lt {M r : List Nat} {ic : Int32} {ib : Nat → Int32} {p c : Nat} (hI : INT9 M ic ib) (h : M.drop p = c :: r) : c < 128 := hI.2.2.1 c (drop_at h).2.2.1
/-- blanks: none, or one -/
theorem blank0 {M r : List Nat} {ic : Int32} {ib : Nat → Int32} {p c : Nat} (hI : INT9 M ic ib) (h : M.drop p = c :: r) (h1 : c ≠ 32) (h2 : c ≠ 10) (fu : Nat) : f_X0_endOfBlanks_L2 600 ic ib (fu + 1) (nI p) = some (nI p) := by
  have hc := c_lt hI h
  have ha := at_c hI h
  obtain ⟨g1, -⟩ := drop_at h
  rw [f_X0_endOfBlanks_L2, if_neg (by rw [hI.1]; exact nI_ge g1 (by have := hI.2.1; omega)), ha, Option.bind_some, if_neg (show ¬ nI c = 32 from fun z => h1 ((nI_eq (a := c) (b := 32) (by omega) (by decide)).mp z)), Option.bind_some, if_neg (show ¬ nI c = 10 from fun z => h2 ((nI_eq (a := c) (b := 10) (by omega) (by decide)).mp z))]
theorem blankE {M : List Nat} {ic : Int32} {ib : Nat → Int32} {p : Nat} (hI : INT9 M ic ib) (hp : p < 2 ^ 31) (h : M.length ≤ p) (fu : Nat) : f_X0_endOfBlanks_L2 600 ic ib (fu + 1) (nI p) = some (nI p) := by
  rw [f_X0_endOfBlanks_L2, if_pos (by rw [hI.1]; exact nI_le h hp)]
theorem blank1 {M r : List Nat} {ic : Int32} {ib : Nat → Int32} {p : Nat} (hI : INT9 M ic ib) (h : M.drop p = 32 :: r) (fu : Nat) : f_X0_endOfBlanks_L2 600 ic ib (fu + 1) (nI p) = f_X0_endOfBlanks_L2 600 ic ib fu (nI (p + 1)) := by
  have ha := at_c hI h
  obtain ⟨g1, -⟩ := drop_at h
  rw [f_X0_endOfBlanks_L2, if_neg (by rw [hI.1]; exact nI_ge g1 (by have := hI.2.1; omega)), ha, Option.bind_some, if_pos (show nI 32 = 32 from rfl), nI_1]
/-- a run of signs -/
theorem run_L {M r : List Nat} {ic lo hi : Int32} {ib : Nat → Int32} {a b : Nat} (hI : INT9 M ic ib) (hlo : lo = nI a) (hhi : hi = nI b) (ha : a < 200) (hb : b < 200) (hr : ∀ c s, r = c :: s → c < a ∨ b < c) : ∀ (w : List Nat) (p fu : Nat), M.drop p = w ++ r → (∀ c ∈ w, a ≤ c ∧ c ≤ b) → w.length < fu → f_X0_endOfRun_L3 600 ic ib lo hi fu (nI p) = some (nI (p + w.length)) ∨ M.length < p := by
  intro w
  induction w with
  | nil =>
    intro p fu h _ hf
    obtain ⟨fu, rfl⟩ : ∃ f, fu = f + 1 := ⟨fu - 1, by omega⟩
    rw [List.nil_append] at h
    by_cases hp : M.length < p
    · exact Or.inr hp
    · left
      cases r with
      | nil =>
        have h1 := drop_nil h
        rw [f_X0_endOfRun_L3, if_pos (by rw [hI.1]; exact nI_le h1 (by have := hI.2.1; omega))]
        rfl
      | cons c s =>
        have hc := c_lt hI h
        have ha2 := at_c hI h
        obtain ⟨g1, -⟩ := drop_at h
        rw [f_X0_endOfRun_L3, if_neg (by rw [hI.1]; exact nI_ge g1 (by have := hI.2.1; omega)), ha2, Option.bind_some, hlo, hhi]
        by_cases h3 : c < a
        · rw [if_pos (nI_lt h3 (by omega))]
          rfl
        · rw [if_neg (nI_nlt (by omega) (by omega)), Option.bind_some, if_pos (nI_lt (by rcases hr c s rfl with q | q <;> omega) (by omega))]
          rfl
  | cons c w ih =>
    intro p fu h hw hf
    obtain ⟨fu, rfl⟩ : ∃ f, fu = f + 1 := ⟨fu - 1, by omega⟩
    have h' : M.drop p = c :: (w ++ r) := h
    have hc := c_lt hI h'
    have ha2 := at_c hI h'
    obtain ⟨g1, -, -, g4⟩ := drop_at h'
    obtain ⟨q1, q2⟩ := hw c List.mem_cons_self
    left
    rw [f_X0_endOfRun_L3, if_neg (by rw [hI.1]; exact nI_ge g1 (by have := hI.2.1; omega)), ha2, Option.bind_some, hlo, hhi, if_neg (nI_nlt (by omega) (by omega)), Option.bind_some, if_neg (nI_nlt (by omega) (by omega)), nI_1, ← hlo, ← hhi]
    rcases ih (p + 1) fu g4 (fun d hd => hw d (List.mem_cons_of_mem _ hd)) (by simp at hf; omega) with q | q
    · rw [q, List.length_cons, show p + 1 + w.length = p + (w.length + 1) by omega]
    · omega
theorem run_w {M w r : List Nat} {ic lo hi : Int32} {ib : Nat → Int32} {a b p : Nat} (hI : INT9 M ic ib) (hlo : lo = nI a) (hhi : hi = nI b) (ha : a < 200) (hb : b < 200) (hr : ∀ c s, r = c :: s → c < a ∨ b < c) (h : M.drop p = w ++ r) (hw0 : w ≠ []) (hw : ∀ c ∈ w, a ≤ c ∧ c ≤ b) : f_X0_endOfRun 600 ic ib (nI p) lo hi = some (nI (p + w.length)) := by
  have hl := drop_len h hw0
  have h5 := hI.2.1
  unfold f_X0_endOfRun
  rcases run_L hI hlo hhi ha hb hr w p 5000 h hw (by omega) with q | q
  · rw [q, Option.bind_some]
  · omega
/-- a number's digits, read from the left -/
def dval (w : List Nat) (v : Nat) : Nat := w.foldl (fun v c => 10 * v + (c - 48)) v
theorem num_L {M r : List Nat} {ic e9 : Int32} {ib : Nat → Int32} (hI : INT9 M ic ib) : ∀ (w : List Nat) (p v fu : Nat), M.drop p = w ++ r → (∀ c ∈ w, 48 ≤ c ∧ c ≤ 57) → e9 = nI (p + w.length) → p + w.length < 1000 → w.length < fu → dval w v < 100000 → f_X0_numberBetween_L5 600 ic ib e9 fu (nI v) (nI p) = some (nI (dval w v)) := by
  intro w
  induction w with
  | nil =>
    intro p v fu h _ he hp hf _
    obtain ⟨fu, rfl⟩ : ∃ f, fu = f + 1 := ⟨fu - 1, by omega⟩
    rw [f_X0_numberBetween_L5, he, if_pos (nI_le (by simp) (by simp at hp; omega))]
    rfl
  | cons c w ih =>
    intro p v fu h hw he hp hf hd
    obtain ⟨fu, rfl⟩ : ∃ f, fu = f + 1 := ⟨fu - 1, by omega⟩
    have h' : M.drop p = c :: (w ++ r) := h
    have ha2 := at_c hI h'
    obtain ⟨g1, -, -, g4⟩ := drop_at h'
    obtain ⟨q1, q2⟩ := hw c List.mem_cons_self
    have hmono : ∀ (w : List Nat) (v : Nat), v ≤ dval w v := by
      intro w
      induction w with
      | nil => intro v; exact Nat.le_refl _
      | cons d w ih => intro v; exact Nat.le_trans (by omega) (ih (10 * v + (d - 48)))
    have hd2 : dval w (10 * v + (c - 48)) < 100000 := hd
    have hv := hmono w (10 * v + (c - 48))
    rw [f_X0_numberBetween_L5, he, if_neg (nI_ge (by simp) (by simp at hp ⊢; omega)), ha2, Option.bind_some, show (10 : Int32) * nI v + nI c - 48 = nI (10 * v + (c - 48)) by
      rw [show (10 : Int32) * nI v = nI (10 * v) from pk_mul 10 v, nI_add, show nI (10 * v + c) - 48 = nI (10 * v + c - 48) from pk_sub (a := 10 * v + c) (b := 48) (by omega), show 10 * v + c - 48 = 10 * v + (c - 48) by omega], show imin 100000000 (nI (10 * v + (c - 48))) = nI (10 * v + (c - 48)) from (imin_nI9 (a := 100000000) (by decide) (by omega)).trans (by rw [Nat.min_eq_right (by omega)]), nI_1, ← he]
    exact ih (p + 1) (10 * v + (c - 48)) fu g4 (fun d hd => hw d (List.mem_cons_of_mem _ hd)) (by rw [he, List.length_cons, show p + (w.length + 1) = p + 1 + w.length by omega]) (by simp at hp; omega) (by simp at hf; omega) hd2
theorem dgs_val : ∀ n, n < 1024 → dval (dgs n) 0 = n ∧ (∀ c ∈ dgs n, 48 ≤ c ∧ c ≤ 57) ∧ dgs n ≠ [] := by decide +kernel
theorem num_w {M r : List Nat} {ic : Int32} {ib : Nat → Int32} {p n : Nat} (hI : INT9 M ic ib) (hn : n < 1024) (h : M.drop p = dgs n ++ r) : f_X0_numberBetween 600 ic ib (nI p) (nI (p + (dgs n).length)) = some (nI n) := by
  obtain ⟨h1, h2, h3⟩ := dgs_val n hn
  have hl := drop_len h h3
  have h5 := hI.2.1
  unfold f_X0_numberBetween
  rw [show f_X0_numberBetween_L5 600 ic ib (nI (p + (dgs n).length)) 5000 0 (nI p) = _ from num_L hI (dgs n) p 0 5000 h h2 rfl (by omega) (by omega) (by rw [h1]; omega), Option.bind_some, h1]
