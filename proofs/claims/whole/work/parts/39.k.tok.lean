/-! PURE: a token is taken on both sides. -/
def TOK (n : Nat) (mi : Nat → Int32) (a b : Nat) (st kd va tk mv lt : Int32) : Prop := a ≤ b ∧ b ≤ n ∧ ((kd = 0 ∧ tk = 0 ∧ va = 0 ∧ mv = 0 ∧ lt = 0) ∨ (kd = 1 ∧ tk = 3 ∧ a < b ∧ mv = 0 ∧ lt.toInt = ((b - a : Nat) : Int) ∧ ∃ m, f_X12_nameFrom mi st lt = some m ∧ NMV va m) ∨ (kd = 2 ∧ tk = 2 ∧ a < b ∧ lt = 0 ∧ DIG va mv) ∨ (kd = 3 ∧ tk = 1 ∧ a < b ∧ mv = 0 ∧ lt = 0 ∧ va = mi a))
theorem take_same {n b : Nat} {ic ml en : Int32} {ib mi : Nat → Int32} (h : INPn n ic ib ml mi) (hen : en.toInt = (b : Int)) (hb : b ≤ n) (st kd va st2 tk mv lt : Int32) : ∃ (a' b' : Nat) (st' en' kd' va' tk' mv' lt' : Int32), f_X1_take st en kd va 0 ic ib = some (va, st', en', kd', va') ∧ f_X12_advance ml en st2 tk mv lt mi = some (en', st', tk', mv', lt') ∧ st'.toInt = (a' : Int) ∧ en'.toInt = (b' : Int) ∧ b ≤ a' ∧ TOK n mi a' b' st' kd' va' tk' mv' lt' := by
  have hn := h.2.1
  have l48 : (48 : Int32).toInt = 48 := by decide
  have l57 : (57 : Int32).toInt = 57 := by decide
  have l97 : (97 : Int32).toInt = 97 := by decide
  have l122 : (122 : Int32).toInt = 122 := by decide
  obtain ⟨a, y, hy, hba, han, e1, e2⟩ := blanks_L h 5000 b en hen hb (by omega)
  have c1 : f_X0_endOfBlanks 600 ic ib en = some y := by
    unfold f_X0_endOfBlanks
    rw [e1]
    rfl
  by_cases hk : a < n
  · obtain ⟨hr1, hr2⟩ := (h.2.2.2 a hk).2
    have hne : ¬ mi a = -1 := fun e => by
      rw [e] at hr1
      revert hr1
      decide
    by_cases hw : 97 ≤ (mi a).toInt ∧ (mi a).toInt ≤ 122
    · obtain ⟨q, z, hz, hq1, hq2, r1, r2, r3⟩ := run_L h l97 l122 5000 a y hy han (by omega)
      have hlt : a < q := by
        refine Classical.byContradiction fun hn2 => ?_
        have hqa : q = a := by omega
        have := r3 (by omega)
        rw [hqa] at this
        omega
      obtain ⟨c, f1, f2⟩ := letters_L h hz hq2 r3 5000 a 0 y 0 hy hq1 (by omega) r2 (by decide) (Nat.zero_le a)
      have f3 : c.toInt = ((q - a : Nat) : Int) := by rw [f2]; omega
      obtain ⟨nc, nm, g1, g2, g3⟩ := name_same h hy hz f3 hq1 hq2
      refine ⟨a, q, y, z, 1, nc, 3, 0, c, ?_, ?_, hy, hz, hba, hq1, hq2, Or.inr (Or.inl ⟨rfl, rfl, hlt, rfl, f3, nm, g2, g3⟩)⟩
      · simp only [f_X1_take, if_true, c1, at_c h hy, byt_in hk, ob_some]
        rw [if_neg hne, if_neg (by rw [ti_lt rfl l97]; omega), if_neg (by rw [ti_lt l122 rfl]; omega)]
        simp only [f_X0_endOfRun, r1, g1, ob_some]
      · simp only [f_X12_advance, e2, byteAt_m h hy, byt_in hk, ob_some]
        rw [if_neg hne, isLetter_m, if_pos hw]
        simp only [ob_some, i10, if_false, f1]
    · by_cases hd : 48 ≤ (mi a).toInt ∧ (mi a).toInt ≤ 57
      · obtain ⟨q, z, hz, hq1, hq2, r1, r2, r3⟩ := run_L h l48 l57 5000 a y hy han (by omega)
        have hlt : a < q := by
          refine Classical.byContradiction fun hn2 => ?_
          have hqa : q = a := by omega
          have := r3 (by omega)
          rw [hqa] at this
          omega
        obtain ⟨c', m', f1, f2, f3⟩ := digits_L h hz hq2 r3 5000 a y 0 0 hy hq1 (by omega) r2 ⟨by decide, by decide, Or.inl ⟨by decide, rfl⟩⟩
        refine ⟨a, q, y, z, 2, c', 2, m', 0, ?_, ?_, hy, hz, hba, hq1, hq2, Or.inr (Or.inr (Or.inl ⟨rfl, rfl, hlt, rfl, f3⟩))⟩
        · simp only [f_X1_take, if_true, c1, at_c h hy, byt_in hk, ob_some]
          rw [if_neg hne, if_pos (by rw [ti_lt rfl l97]; omega), if_neg (by rw [ti_lt rfl l48]; omega), if_neg (by rw [ti_lt l57 rfl]; omega)]
          simp only [f_X0_endOfRun, f_X0_numberBetween, r1, f1, ob_some]
        · simp only [f_X12_advance, e2, byteAt_m h hy, byt_in hk, ob_some]
          rw [if_neg hne, isLetter_m, if_neg hw]
          simp only [ob_some, if_true, between_m (v := mi a) rfl l48 l57, if_pos hd, i10, if_false, f2]
      · have hy1 := ti_inc hy (by omega)
        refine ⟨a, a + 1, y, y + 1, 3, mi a, 1, 0, 0, ?_, ?_, hy, hy1, hba, by omega, by omega, Or.inr (Or.inr (Or.inr ⟨rfl, rfl, by omega, rfl, rfl, rfl⟩))⟩
        · simp only [f_X1_take, if_true, c1, at_c h hy, byt_in hk, ob_some]
          rw [if_neg hne]
          by_cases h1 : mi a < 97
          · rw [if_pos h1]
            by_cases h2 : mi a < 48
            · rw [if_pos h2]
            · rw [if_neg h2, if_pos (by rw [ti_lt rfl l48] at h2; rw [ti_lt l57 rfl]; omega)]
          · rw [if_neg h1, if_pos (by rw [ti_lt rfl l97] at h1; rw [ti_lt l122 rfl]; omega)]
            by_cases h2 : mi a < 48
            · rw [if_pos h2]
            · rw [if_neg h2, if_pos (by rw [ti_lt rfl l48] at h2; rw [ti_lt l57 rfl]; omega)]
        · simp only [f_X12_advance, e2, byteAt_m h hy, byt_in hk, ob_some]
          rw [if_neg hne, isLetter_m, if_neg hw]
          simp only [ob_some, if_true, between_m (v := mi a) rfl l48 l57, if_neg hd]
  · have han2 : a = n := by omega
    refine ⟨a, a, y, y, 0, 0, 0, 0, 0, ?_, ?_, hy, hy, hba, Nat.le_refl a, han, Or.inl ⟨rfl, rfl, rfl, rfl, rfl⟩⟩
    · simp only [f_X1_take, if_true, c1, at_c h hy, byt_out (mi := mi) (show n ≤ a by omega), ob_some]
    · simp only [f_X12_advance, e2, byteAt_m h hy, byt_out (mi := mi) (show n ≤ a by omega), ob_some, if_true]
