/-! PURE: a use is kept on both sides, the oldest one makes room. -/
theorem remind_L {k : Nat} (hk : k ≤ 29) : ∀ (n p : Nat) (f : Nat → Int32) (x : Int32), (f 8).toInt = (k : Int) → x.toInt = (p : Int) → 343 + 4 * k < p + n → 343 ≤ p → p ≤ 343 + 4 * k → f_X12_remindUse_L21 n f x = some (shf f p (343 + 4 * k) 4) := by
  intro n
  induction n with
  | zero => intro p f x h6 hx hn hp hp2; omega
  | succ n ih =>
    intro p f x h6 hx hn hp hp2
    have hb : (343 + 4 * f 8).toInt = ((343 + 4 * k : Nat) : Int) := aff_ti (by decide) (by decide) h6 (by omega)
    rw [f_X12_remindUse_L21]
    simp only [zM8, f_X12_ofUse, ob_some]
    by_cases hq : 343 + 4 * f 8 ≤ x
    · rw [if_pos hq]
      have : 343 + 4 * k ≤ p := by
        rw [ti_le hb hx] at hq
        omega
      rw [shf_none this]
    · rw [if_neg hq]
      have hlt : p < 343 + 4 * k := by
        rw [ti_le hb hx] at hq
        omega
      have hx4 : (x + 4).toInt = ((p + 4 : Nat) : Int) := off_ti hx (C := 4) (by decide) (by omega)
      have hp4 : p + 4 < 463 := by omega
      have hp0 : p < 463 := by omega
      simp only [rd_at (f := f) hx4 hp4, wr_to (f := f) hx hp0, ob_some]
      rw [ih (p + 1) _ (x + 1) (by rw [upd_ne (by omega)]; exact h6) (ti_inc hx (by omega)) (by omega) (by omega) (by omega), shf_step (by omega) hlt]
theorem room_same {Er : Int32} {E g : Nat → Int32} {e : Nat} (hE : USE Er E g e) (hEI : EIN g e) : ∃ Er1 E1 g1 e1, (f_X6_isFull 120 30 Er).bind (fun o1 => Option.bind (if o1 = 0 then some (Er, E) else ((f_X6_removeRow 120 4 Er E 0).bind fun o3 => some (o3.1, o3.2))) fun j2 => some j2) = some (Er1, E1) ∧ (if g 8 = 30 then ((rd g 463 8).bind fun x3 => (wr g 463 8 (x3 - 1)).bind fun g4 => (f_X12_remindUse_L21 5000 g4 343).bind fun o9 => some o9) else some g) = some g1 ∧ USE Er1 E1 g1 e1 ∧ e1 < 30 ∧ EIN g1 e1 ∧ ∀ j, j ≠ 8 → (j < 343 ∨ 463 ≤ j) → g1 j = g j := by
  obtain ⟨h1, h2, h3, h4⟩ := hE
  have l30 : (30 : Int32).toInt = 30 := by decide
  by_cases hf : Er < 30
  · have he : e < 30 := by
      rw [ti_lt h1 l30] at hf
      omega
    have h8 : ¬ g 8 = 30 := by
      rw [h3, ti_iff h1 l30]
      omega
    refine ⟨Er, E, g, e, ?_, if_neg h8, ⟨h1, h2, h3, h4⟩, he, hEI, fun j _ _ => rfl⟩
    unfold f_X6_isFull
    rw [if_pos hf]
    rfl
  · have he : e = 30 := by
      rw [ti_lt h1 l30] at hf
      omega
    subst he
    have h8 : g 8 = 30 := by
      rw [h3, ti_iff h1 l30]
      omega
    have hEr : (Er - 1).toInt = ((29 : Nat) : Int) := by rw [ti_sub h1 ti_one (by omega) (by omega)]; omega
    have h81 : (g 8 - 1).toInt = ((29 : Nat) : Int) := by rw [h3]; exact hEr
    have hrm := remove_at (tn := 120) (W := 4) (w := 4) (rows := Er) (x := 0) (i := 0) (f := E) (by decide) (by decide) h1 (by decide) (by decide) (by decide) (by decide)
    have hrl := remind_L (k := 29) (by decide) 5000 343 (upd g 8 (g 8 - 1)) 343 (by rw [upd_eq rfl]; exact h81) (by decide) (by decide) (by decide) (by decide)
    refine ⟨Er - 1, shf E 0 ((30 - 1) * 4) 4, shf (upd g 8 (g 8 - 1)) 343 (343 + 4 * 29) 4, 29, ?_, ?_, ⟨hEr, by decide, ?_, fun q c hq hc => ?_⟩, by decide, fun q hq => ?_, fun j hj1 hj2 => ?_⟩
    · unfold f_X6_isFull
      rw [if_neg hf, ob_some, if_neg n10, hrm]
      rfl
    · rw [if_pos h8]
      simp only [zM8, zW8, ob_some, hrl]
    · rw [shf_lo (by decide), upd_eq rfl, h3]
    · rw [shf_in (by omega) (by omega), shf_in (by omega) (by omega), upd_ne (by omega), show q * 4 + c + 4 = (q + 1) * 4 + c by omega, show 343 + 4 * q + c + 4 = 343 + 4 * (q + 1) + c by omega]
      exact h4 (q + 1) c (by omega) hc
    · rw [shf_lo (j := 0) (by decide), shf_lo (j := 1) (by decide), shf_in (by omega) (by omega), upd_ne (by decide), upd_ne (by decide), upd_ne (by omega), show 343 + 4 * q + 3 + 4 = 343 + 4 * (q + 1) + 3 by omega]
      exact hEI (q + 1) (by omega)
    · rcases hj2 with hj2 | hj2
      · rw [shf_lo hj2, upd_ne hj1]
      · rw [shf_hi (by omega), upd_ne hj1]
theorem use_same {Er ow sv : Int32} {E g : Nat → Int32} {e o : Nat} (hE : USE Er E g e) (hEI : EIN g e) (h1 : 0 ≤ (g 1).toInt) (ho : ow.toInt = (o : Int)) (ho6 : o < 6) : ∃ Er' E' g' e', f_X9_addUse Er E ow sv (g 0 + g (55 + 5 * o + 3)) (g 0) = some (Er', E') ∧ f_X12_remindUse g ow sv = some g' ∧ USE Er' E' g' e' ∧ EIN g' e' ∧ ∀ j, j ≠ 8 → (j < 343 ∨ 463 ≤ j) → g' j = g j := by
  obtain ⟨Er1, E1, g1, e1, c1, c2, c3, he, c4, c5⟩ := room_same hE hEI
  have hr1 : (Er1 + 1).toInt = ((e1 + 1 : Nat) : Int) := ti_inc c3.1 (by omega)
  have h30 : e1 + 1 ≤ 30 := by omega
  have hee : e1 < e1 + 1 := by omega
  have hadd : f_X6_addRow 120 30 Er1 = some (Er1, Er1 + 1) := by
    unfold f_X6_addRow
    rw [if_pos (by rw [ti_lt c3.1 (b := 30) (by decide)]; omega), Int32.add_sub_cancel]
  have g18 : (g1 8).toInt = (e1 : Int) := by rw [c3.2.2.1]; exact c3.1
  have g10 : g1 0 = g 0 := c5 0 (by decide) (Or.inl (by decide))
  have g11 : g1 1 = g 1 := c5 1 (by decide) (Or.inl (by decide))
  have g1o : g1 (55 + 5 * o + 3) = g (55 + 5 * o + 3) := c5 _ (by omega) (Or.inl (by omega))
  refine ⟨Er1 + 1, upd (upd (upd (upd E1 (e1 * 4 + 0) ow) (e1 * 4 + 1) sv) (e1 * 4 + 2) (g 0 + g (55 + 5 * o + 3))) (e1 * 4 + 3) (g 0), upd (upd (upd (upd (upd g1 (343 + 4 * e1 + 0) ow) (343 + 4 * e1 + 1) sv) (343 + 4 * e1 + 2) (g 0 + g (55 + 5 * o + 3))) (343 + 4 * e1 + 3) (g 0)) 8 (g1 8 + 1), e1 + 1, ?_, ?_, ⟨hr1, h30, ?_, fun q c hq hc => ?_⟩, fun q hq => ?_, fun j hj1 hj2 => ?_⟩
  · have e1' : f_X9_addUse Er E ow sv (g 0 + g (55 + 5 * o + 3)) (g 0) = ((f_X6_isFull 120 30 Er).bind (fun o1 => Option.bind (if o1 = 0 then some (Er, E) else ((f_X6_removeRow 120 4 Er E 0).bind fun o3 => some (o3.1, o3.2))) fun j2 => some j2)).bind fun j2 => (f_X6_addRow 120 30 j2.1).bind fun o4 => (f_X6_set 120 4 o4.2 j2.2 o4.1 0 ow).bind fun o5 => (f_X6_set 120 4 o4.2 o5 o4.1 1 sv).bind fun o6 => (f_X6_set 120 4 o4.2 o6 o4.1 2 (g 0 + g (55 + 5 * o + 3))).bind fun o7 => (f_X6_set 120 4 o4.2 o7 o4.1 3 (g 0)).bind fun o8 => some (o4.2, o8) := by
      unfold f_X9_addUse
      cases f_X6_isFull 120 30 Er with
      | none => rfl
      | some o1 =>
        rw [ob_some, ob_some]
        cases (if o1 = 0 then some (Er, E) else ((f_X6_removeRow 120 4 Er E 0).bind fun o3 => some (o3.1, o3.2))) with
        | none => rfl
        | some j2 => rfl
    rw [e1', c1]
    simp only [ob_some, hadd, eS0 hr1 h30 c3.1 hee, eS1 hr1 h30 c3.1 hee, eS2 hr1 h30 c3.1 hee, eS3 hr1 h30 c3.1 hee]
  · unfold f_X12_remindUse
    rw [zM8] at c2
    rw [zM8, ob_some, c2]
    simp only [ob_some, zM8, zM0, zW8, f_X12_ofUse, f_X12_ofUser, eW0 g18 he, eW1 g18 he, eW2 g18 he, eW3 g18 he, uM3 ho ho6]
    simp (disch := omega) only [upd_ne, g10, g1o]
  · rw [upd_eq rfl, c3.2.2.1]
  · by_cases hqe : q = e1
    · subst hqe
      rcases (show c = 0 ∨ c = 1 ∨ c = 2 ∨ c = 3 by omega) with rfl | rfl | rfl | rfl
      · simp (disch := omega) only [upd_ne, upd_eq]
      · simp (disch := omega) only [upd_ne, upd_eq]
      · simp (disch := omega) only [upd_ne, upd_eq]
      · simp (disch := omega) only [upd_ne, upd_eq]
    · simp (disch := omega) only [upd_ne]
      exact c3.2.2.2 q c (by omega) hc
  · by_cases hqe : q = e1
    · subst hqe
      simp (disch := omega) only [upd_ne, upd_eq, g10, g11]
      omega
    · simp (disch := omega) only [upd_ne]
      exact c4 q (by omega)
  · simp (disch := omega) only [upd_ne]
    exact c5 j hj1 hj2
