/-! PURE: a life that is inherited. -/
theorem i01' : ¬ ((0 : Int32) = 1) := by decide
theorem inherit_c {tm Rr Tr x ow y sv nu ke a b c : Int32} {R T T1 g : Nat → Int32} {r k i j : Nat} (hR : RLM Rr R g r) (hT : TKT Tr T g k) (hk : k < 24) (h0 : g 0 = tm) (hx : x.toInt = (i : Int)) (hi : i < k) (hy : y.toInt = (j : Int)) (hj : j < r) (hrn : g (103 + 10 * i + 9) = 0 ∨ g (103 + 10 * i + 9) = 1) (hc : NEWC T T1 k nu ow y sv tm a b ke c) : ∃ T2, f_X5_inheritLife tm Rr R (Tr + 1) T1 Tr x = some T2 ∧ NEWC T T2 k nu ow y sv tm (imin (g 0 + g (10 + 4 * j + 1)) (g (103 + 10 * i + 6))) (if g (103 + 10 * i + 9) = 1 then imax (imin (g 0 + g (10 + 4 * j + 1)) (g (103 + 10 * i + 6))) (imin (g 0 + g (10 + 4 * j + 2)) (g (103 + 10 * i + 7))) else imin (g 0 + g (10 + 4 * j + 1)) (g (103 + 10 * i + 6))) ke (g (103 + 10 * i + 9)) := by
  have hr1 : (Tr + 1).toInt = ((k + 1 : Nat) : Int) := ti_inc hT.1 (by omega)
  have h24 : k + 1 ≤ 24 := by omega
  have hik : i < k + 1 := by omega
  have cf := hc.2.2.2.2.2.2.2.2.2.2
  have c3 := hc.2.2.2.1
  have r6 : T1 (i * 10 + 6) = g (103 + 10 * i + 6) := by rw [cf _ (by omega), hT.2.2.2 i 6 hi (by decide)]
  have r7 : T1 (i * 10 + 7) = g (103 + 10 * i + 7) := by rw [cf _ (by omega), hT.2.2.2 i 7 hi (by decide)]
  have r9 : T1 (i * 10 + 9) = g (103 + 10 * i + 9) := by rw [cf _ (by omega), hT.2.2.2 i 9 hi (by decide)]
  obtain ⟨T2, d1, d6, d7, d9, df⟩ := setLife_c (tm := tm) (R := R) (T := T1) (rn := if g (103 + 10 * i + 9) = 1 then 1 else 0) (me := g (103 + 10 * i + 6)) (ml := g (103 + 10 * i + 7)) hR.1 hR.2.1 hr1 h24 hT.1 hj (by rw [c3]; exact hy)
  rw [hR.2.2.2 j 1 hj (by decide) (by decide), ← h0] at d6
  rw [hR.2.2.2 j 1 hj (by decide) (by decide), hR.2.2.2 j 2 hj (by decide) (by decide), ← h0] at d7
  refine ⟨T2, ?_, NEWC_life hc df d6 ?_ ?_⟩
  · simp only [f_X5_inheritLife, f_X7_canBeRenewed, tR6 hr1 h24 hx hik, tR7 hr1 h24 hx hik, tR9 hr1 h24 hx hik, r6, r7, r9, ob_some, if_some, d1]
  · rw [d7]
    rcases hrn with e | e
    · rw [e, if_neg i01', if_neg i01', if_pos rfl]
    · rw [e, if_pos rfl, if_pos rfl, if_neg n10]
  · rw [d9]
    rcases hrn with e | e
    · rw [e, if_neg i01', if_pos rfl]
    · rw [e, if_pos rfl, if_neg n10]
