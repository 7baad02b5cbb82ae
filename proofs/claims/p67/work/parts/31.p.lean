/-! PURE: loops over the tables. -/
theorem TB_len {W : Nat} {C : Nat → Int32} {L L' : List Row} (h : TB W C L) (e : L = L') : TB W C L' := by subst e; exact h
/-- what is dead goes -/
theorem dead_L {t : Int32} : ∀ (m fu : Nat) (A B : List Row) (r v : Int32) (C : Nat → Int32), A.length = m → m < fu → TB 10 C (A ++ B) → r = nI (A ++ B).length → v = nI A.length - 1 → (A ++ B).length ≤ 24 → ∃ C', f_X7_removeDead_L9 t fu r C v = some (nI (A.filter (live t) ++ B).length, C') ∧ TB 10 C' (A.filter (live t) ++ B) := by
  intro m
  induction m with
  | zero =>
    intro fu A B r v C hA hf h hr hv hl
    obtain ⟨fu, rfl⟩ : ∃ f, fu = f + 1 := ⟨fu - 1, by omega⟩
    obtain rfl : A = [] := List.eq_nil_of_length_eq_zero hA
    refine ⟨C, ?_, h⟩
    unfold f_X7_removeDead_L9
    rw [if_pos (show v < 0 by rw [hv]; decide), hr]
    rfl
  | succ m ih =>
    intro fu A B r v C hA hf h hr hv hl
    obtain ⟨fu, rfl⟩ : ∃ f, fu = f + 1 := ⟨fu - 1, by omega⟩
    obtain ⟨A9, x9, rfl⟩ : ∃ A9 x9, A = A9 ++ [x9] := by
      rcases List.eq_nil_or_concat A with h | ⟨A9, x9, h⟩
      · rw [h] at hA; cases hA
      · exact ⟨A9, x9, by rw [h]; simp⟩
    have hA9 : A9.length = m := by rw [List.length_append, List.length_singleton] at hA; omega
    have hl2 : A9.length + 1 + B.length ≤ 24 := by simp at hl; omega
    have hv1 : v = nI A9.length := by rw [hv, List.length_append, List.length_singleton]; exact pk_sub (a := A9.length + 1) (b := 1) (by omega)
    have hg : ((A9 ++ [x9]) ++ B)[A9.length]? = some x9 := at_mid
    have hv2 : v + (-1) = nI A9.length - 1 := by rw [hv1, Int32.sub_eq_add_neg]
    unfold f_X7_removeDead_L9
    rw [if_neg (show ¬ v < 0 by rw [hv1]; exact nI_pos (by omega)), isAlive_tb h hg hr hv1 hl, Option.bind_some]
    by_cases hx : live t x9 = true
    · rw [if_pos hx, if_neg (by decide)]
      obtain ⟨C', h1, h2⟩ := ih fu A9 ([x9] ++ B) r (v + (-1)) C hA9 (by omega) (TB_len h (by rw [List.append_assoc])) (by rw [hr, List.append_assoc]) hv2 (by rw [← List.append_assoc]; exact hl)
      have e : (A9 ++ [x9]).filter (live t) ++ B = A9.filter (live t) ++ ([x9] ++ B) := by simp [hx]
      exact ⟨C', by rw [h1, e], by rw [e]; exact h2⟩
    · rw [if_neg hx, if_pos rfl]
      obtain ⟨C1, h1, h2⟩ := rem_tb (N := 240) (w := 10) (r := r) (v := v) h (List.getElem?_eq_some_iff.mp hg).1 rfl hr hv1 (by decide) (by omega) (by decide) (by omega)
      rw [era_mid] at h1 h2
      obtain ⟨C', h3, h4⟩ := ih fu A9 B (nI (A9 ++ B).length) (v + (-1)) C1 hA9 (by omega) h2 rfl hv2 (by rw [List.length_append]; omega)
      have e : (A9 ++ [x9]).filter (live t) ++ B = A9.filter (live t) ++ B := by simp [hx]
      exact ⟨C', by rw [h1, Option.bind_some, h3, e], by rw [e]; exact h4⟩
theorem dead_tb {t r : Int32} {C : Nat → Int32} {L : List Row} (h : TB 10 C L) (hr : r = nI L.length) (hl : L.length ≤ 24) : ∃ C', f_X7_removeDead r C t = some (nI L.length - nI (L.filter (live t)).length, nI (L.filter (live t)).length, C') ∧ TB 10 C' (L.filter (live t)) := by
  obtain ⟨C', h1, h2⟩ := dead_L (t := t) L.length 5000 L [] r (r - 1) C rfl (by omega) (by rw [List.append_nil]; exact h) (by rw [List.append_nil]; exact hr) (by rw [hr]) (by rw [List.append_nil]; exact hl)
  rw [List.append_nil] at h1 h2
  refine ⟨C', ?_, h2⟩
  unfold f_X7_removeDead f_X6_size
  rw [Option.bind_some, h1, Option.bind_some, Option.bind_some, hr]
/-- old uses go -/
def young (b : Int32) (w : Row) : Bool := decide (b ≤ w 3)
theorem forget_L {b : Int32} : ∀ (m fu : Nat) (A B : List Row) (r v : Int32) (C : Nat → Int32), A.length = m → m < fu → TB 4 C (A ++ B) → r = nI (A ++ B).length → v = nI A.length - 1 → (A ++ B).length ≤ 30 → ∃ C', f_X9_forgetBefore_L7 b fu r C v = some (nI (A.filter (young b) ++ B).length, C') ∧ TB 4 C' (A.filter (young b) ++ B) := by
  intro m
  induction m with
  | zero =>
    intro fu A B r v C hA hf h hr hv hl
    obtain ⟨fu, rfl⟩ : ∃ f, fu = f + 1 := ⟨fu - 1, by omega⟩
    obtain rfl : A = [] := List.eq_nil_of_length_eq_zero hA
    refine ⟨C, ?_, h⟩
    unfold f_X9_forgetBefore_L7
    rw [if_pos (show v < 0 by rw [hv]; decide), hr]
    rfl
  | succ m ih =>
    intro fu A B r v C hA hf h hr hv hl
    obtain ⟨fu, rfl⟩ : ∃ f, fu = f + 1 := ⟨fu - 1, by omega⟩
    obtain ⟨A9, x9, rfl⟩ : ∃ A9 x9, A = A9 ++ [x9] := by
      rcases List.eq_nil_or_concat A with h | ⟨A9, x9, h⟩
      · rw [h] at hA; cases hA
      · exact ⟨A9, x9, by rw [h]; simp⟩
    have hA9 : A9.length = m := by rw [List.length_append, List.length_singleton] at hA; omega
    have hl2 : A9.length + 1 + B.length ≤ 30 := by simp at hl; omega
    have hv1 : v = nI A9.length := by rw [hv, List.length_append, List.length_singleton]; exact pk_sub (a := A9.length + 1) (b := 1) (by omega)
    have hg : ((A9 ++ [x9]) ++ B)[A9.length]? = some x9 := at_mid
    have hv2 : v + (-1) = nI A9.length - 1 := by rw [hv1, Int32.sub_eq_add_neg]
    unfold f_X9_forgetBefore_L7
    rw [if_neg (show ¬ v < 0 by rw [hv1]; exact nI_pos (by omega)), getE (c := 3) (j := 3) h hg hr hv1 rfl (by decide) hl, Option.bind_some]
    by_cases hx : b ≤ x9 3
    · have hy : young b x9 = true := decide_eq_true hx
      rw [if_pos hx]
      obtain ⟨C', h1, h2⟩ := ih fu A9 ([x9] ++ B) r (v + (-1)) C hA9 (by omega) (TB_len h (by rw [List.append_assoc])) (by rw [hr, List.append_assoc]) hv2 (by rw [← List.append_assoc]; exact hl)
      have e : (A9 ++ [x9]).filter (young b) ++ B = A9.filter (young b) ++ ([x9] ++ B) := by simp [hy]
      exact ⟨C', by rw [h1, e], by rw [e]; exact h2⟩
    · have hy : young b x9 = false := decide_eq_false hx
      rw [if_neg hx]
      obtain ⟨C1, h1, h2⟩ := rem_tb (N := 120) (w := 4) (r := r) (v := v) h (List.getElem?_eq_some_iff.mp hg).1 rfl hr hv1 (by decide) (by omega) (by decide) (by omega)
      rw [era_mid] at h1 h2
      obtain ⟨C', h3, h4⟩ := ih fu A9 B (nI (A9 ++ B).length) (v + (-1)) C1 hA9 (by omega) h2 rfl hv2 (by rw [List.length_append]; omega)
      have e : (A9 ++ [x9]).filter (young b) ++ B = A9.filter (young b) ++ B := by simp [hy]
      exact ⟨C', by rw [h1, Option.bind_some, h3, e], by rw [e]; exact h4⟩
theorem forget_tb {b r : Int32} {C : Nat → Int32} {L : List Row} (h : TB 4 C L) (hr : r = nI L.length) (hl : L.length ≤ 30) : ∃ C', f_X9_forgetBefore r C b = some (nI (L.filter (young b)).length, C') ∧ TB 4 C' (L.filter (young b)) := by
  obtain ⟨C', h1, h2⟩ := forget_L (b := b) L.length 5000 L [] r (r - 1) C rfl (by omega) (by rw [List.append_nil]; exact h) (by rw [List.append_nil]; exact hr) (by rw [hr]) (by rw [List.append_nil]; exact hl)
  rw [List.append_nil] at h1 h2
  refine ⟨C', ?_, h2⟩
  unfold f_X9_forgetBefore f_X6_size
  rw [Option.bind_some, h1, Option.bind_some]
/-- is a use known -/
def known (a b c d : Int32) (w : Row) : Bool := decide (w 0 = a) && (decide (w 1 = b) && (decide (w 2 = c) && decide (d ≤ w 3)))
theorem knows_L {a b c d r : Int32} {C : Nat → Int32} {L : List Row} (h : TB 4 C L) (hr : r = nI L.length) (hl : L.length ≤ 30) : ∀ m k fu, k + m = L.length → m + 1 < fu → f_X9_knows_L6 r C a b c d fu 0 (nI k) = some (if (L.drop k).any (known a b c d) = true then 1 else 0) := by
  intro m
  induction m with
  | zero =>
    intro k fu hk hf
    obtain ⟨fu, rfl⟩ : ∃ f, fu = f + 1 := ⟨fu - 1, by omega⟩
    unfold f_X9_knows_L6 f_X6_size
    rw [Option.bind_some, hr, if_pos (nI_le (by omega) (by omega)), List.drop_of_length_le (by omega)]
    rfl
  | succ m ih =>
    intro k fu hk hf
    obtain ⟨fu, rfl⟩ : ∃ f, fu = f + 1 := ⟨fu - 1, by omega⟩
    have hk2 : k < L.length := by omega
    have hg : L[k]? = some L[k] := List.getElem?_eq_getElem hk2
    have hd : (L.drop k).any (known a b c d) = (known a b c d L[k] || (L.drop (k + 1)).any (known a b c d)) := by rw [List.drop_eq_getElem_cons hk2, List.any_cons]
    have G : ∀ j, j < 4 → ∀ cc, cc = nI j → f_X6_get 120 4 r C (nI k) cc = some (L[k] j) := fun j hj cc hc => get_tb h hg rfl hr rfl hc hj (by omega) (by decide) (by omega)
    have hn := ih (k + 1) fu (by omega) (by omega)
    unfold f_X9_knows_L6 f_X6_size
    rw [Option.bind_some, if_neg (by rw [hr]; exact nI_ge (by omega) (by omega)), if_pos rfl, G 0 (by decide) 0 rfl, Option.bind_some, nI_1 k, hd]
    by_cases h0 : L[k] 0 = a
    · rw [if_pos h0, G 1 (by decide) 1 rfl, Option.bind_some]
      by_cases h1 : L[k] 1 = b
      · rw [if_pos h1, G 2 (by decide) 2 rfl, Option.bind_some]
        by_cases h2 : L[k] 2 = c
        · rw [if_pos h2, G 3 (by decide) 3 rfl, Option.bind_some]
          by_cases h3 : L[k] 3 < d
          · have hk0 : known a b c d L[k] = false := by unfold known; simp [h0, h1, h2, h3]
            rw [if_pos h3, hn, hk0, Bool.false_or]
          · have hk1 : known a b c d L[k] = true := by unfold known; simp [h0, h1, h2, Int32.not_lt.mp h3]
            rw [if_neg h3, hk1, Bool.true_or, if_pos rfl]
            obtain ⟨fu, rfl⟩ : ∃ f, fu = f + 1 := ⟨fu - 1, by omega⟩
            unfold f_X9_knows_L6 f_X6_size
            rw [Option.bind_some]
            split
            · rfl
            · rw [if_neg (by decide)]
        · have hk0 : known a b c d L[k] = false := by unfold known; simp [h2]
          rw [if_neg h2, hn, hk0, Bool.false_or]
      · have hk0 : known a b c d L[k] = false := by unfold known; simp [h1]
        rw [if_neg h1, hn, hk0, Bool.false_or]
    · have hk0 : known a b c d L[k] = false := by unfold known; simp [h0]
      rw [if_neg h0, hn, hk0, Bool.false_or]
theorem knows_tb {a b c d r : Int32} {C : Nat → Int32} {L : List Row} (h : TB 4 C L) (hr : r = nI L.length) (hl : L.length ≤ 30) : f_X9_knows r C a b c d = some (if L.any (known a b c d) = true then 1 else 0) := by
  unfold f_X9_knows
  rw [show f_X9_knows_L6 r C a b c d 5000 0 0 = _ from knows_L h hr hl L.length 0 5000 (by omega) (by omega), Option.bind_some, List.drop_zero]
  by_cases hx : L.any (known a b c d) = true
  · rw [if_pos hx]; rfl
  · rw [if_neg hx]; rfl
/-- lives are right -/
theorem lifeE_L {r : Int32} {C : Nat → Int32} {L : List Row} (h : TB 10 C L) (hr : r = nI L.length) (hl : L.length ≤ 24) (hok : ∀ g ∈ L, ¬ g 6 ≤ g 5 ∧ g 6 ≤ g 7) : ∀ m k fu, k + m = L.length → m < fu → f_X7_countLifeErrors_L4 r C fu 0 (nI k) = some 0 := by
  intro m
  induction m with
  | zero =>
    intro k fu hk hf
    obtain ⟨fu, rfl⟩ : ∃ f, fu = f + 1 := ⟨fu - 1, by omega⟩
    unfold f_X7_countLifeErrors_L4 f_X6_size
    rw [Option.bind_some, hr, if_pos (nI_le (by omega) (by omega))]
  | succ m ih =>
    intro k fu hk hf
    obtain ⟨fu, rfl⟩ : ∃ f, fu = f + 1 := ⟨fu - 1, by omega⟩
    have hk2 : k < L.length := by omega
    have hg : L[k]? = some L[k] := List.getElem?_eq_getElem hk2
    have G : ∀ j, j < 10 → ∀ cc, cc = nI j → f_X6_get 240 10 r C (nI k) cc = some (L[k] j) := fun j hj cc hc => get_tb h hg rfl hr rfl hc hj (by omega) (by decide) (by omega)
    obtain ⟨h1, h2⟩ := hok L[k] (List.getElem_mem hk2)
    unfold f_X7_countLifeErrors_L4 f_X6_size
    rw [Option.bind_some, if_neg (by rw [hr]; exact nI_ge (by omega) (by omega)), G 6 (by decide) 6 rfl, Option.bind_some, G 5 (by decide) 5 rfl, Option.bind_some, if_neg h1, G 7 (by decide) 7 rfl, Option.bind_some, if_pos h2, Option.bind_some, nI_1 k]
    exact ih (k + 1) fu (by omega) (by omega)
theorem lifeE_tb {r : Int32} {C : Nat → Int32} {L : List Row} (h : TB 10 C L) (hr : r = nI L.length) (hl : L.length ≤ 24) (hok : ∀ g ∈ L, ¬ g 6 ≤ g 5 ∧ g 6 ≤ g 7) : f_X11_lifeErrors r C = some 0 := by
  unfold f_X11_lifeErrors f_X7_countLifeErrors
  rw [show f_X7_countLifeErrors_L4 r C 5000 0 0 = f_X7_countLifeErrors_L4 r C 5000 0 (nI 0) from rfl, lifeE_L h hr hl hok L.length 0 5000 (by omega) (by omega)]
  rfl
