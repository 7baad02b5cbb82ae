/-! PURE: an offset read on both sides. -/
theorem neg0 : -(0 : Int32) = 0 := by decide
theorem off_same {n a b : Nat} {ic ml st en kd va tk mv lt : Int32} {ib mi : Nat → Int32} (h : INPn n ic ib ml mi) (hP : PST n mi a b st en kd va tk mv lt) (er ea : Int32) : ∃ (d st1 en1 kd1 va1 er1 ea1 : Int32), f_X1_clockWord st en kd va er ea ic ib = some (d, st1, en1, kd1, va1, er1, ea1) ∧ ∃ (a' b' : Nat) (v v' st' en' kd' va' tk' mv' lt' er' ea' : Int32), (if d = 0 then some (0, st1, en1, kd1, va1, er1, ea1) else (f_X1_number st1 en1 kd1 va1 er1 ea1 ic ib 1 9).bind fun o10 => some (d * o10.1, o10.2.1, o10.2.2.1, o10.2.2.2.1, o10.2.2.2.2.1, o10.2.2.2.2.2.1, o10.2.2.2.2.2.2)) = some (v, st', en', kd', va', er', ea') ∧ f_X12_clockHere ml en st tk mv lt er ea mi = some (v', en', st', tk', mv', lt', er', ea') ∧ PST n mi a' b' st' en' kd' va' tk' mv' lt' ∧ a ≤ a' ∧ (er' = 0 → er = 0 ∧ b ≤ a' ∧ v' = v) := by
  obtain ⟨c1, f1, f2, f3, -⟩ := is_same (w := 6) h hP (by decide)
  obtain ⟨c2, g1, g2, g3, -⟩ := is_same (w := 7) h hP (by decide)
  obtain ⟨c3, k1, k2, k3, -⟩ := is_same (w := 8) h hP (by decide)
  have hok : (RQ st er ea (if c1 = 0 then (if c2 = 0 then (if c3 = 0 then 0 else 1) else 1) else 1) 1).1 = 0 → er = 0 := fun z => (RQ_ok (by decide) z).1
  generalize hq : RQ st er ea (if c1 = 0 then (if c2 = 0 then (if c3 = 0 then 0 else 1) else 1) else 1) 1 = q at hok
  obtain ⟨a1, b1, st1, en1, kd1, va1, tk1, mv1, lt1, h1, h2, h3, h4, h5⟩ := next_same h hP q.1
  have hC : f_X1_clockWord st en kd va er ea ic ib = some (if c2 = 0 then (if c1 = 0 then -1 else 1) else 0, st1, en1, kd1, va1, q.1, q.2) := by
    unfold f_X1_clockWord
    simp only [f1, g1, k1, ob_some, if_some, require_c, hq, h1]
    by_cases e2 : c2 = 0
    · rw [if_pos e2, if_pos e2]
      by_cases e1 : c1 = 0
      · rw [if_pos e1, if_pos e1]
      · rw [if_neg e1, if_neg e1]
    · rw [if_neg e2, if_neg e2]
  have hM : f_X12_clockHere ml en st tk mv lt er ea mi = (Option.bind (if c2 = 0 then ((f_X12_number ml en1 st1 tk1 mv1 lt1 q.1 q.2 mi 1 9).bind fun o8 => some (o8.1, o8.2.1, o8.2.2.1, o8.2.2.2.1, o8.2.2.2.2.1, o8.2.2.2.2.2.1, o8.2.2.2.2.2.2.1, o8.2.2.2.2.2.2.2)) else some (0, en1, st1, tk1, mv1, lt1, q.1, q.2)) fun j7 => if c1 = 0 then some (-j7.1, j7.2.1, j7.2.2.1, j7.2.2.2.1, j7.2.2.2.2.1, j7.2.2.2.2.2.1, j7.2.2.2.2.2.2.1, j7.2.2.2.2.2.2.2) else some (j7.1, j7.2.1, j7.2.2.1, j7.2.2.2.1, j7.2.2.2.2.1, j7.2.2.2.2.2.1, j7.2.2.2.2.2.2.1, j7.2.2.2.2.2.2.2)) := by
    unfold f_X12_clockHere
    rw [f2, ob_some, g2, ob_some]
    have e : (if c1 = 0 then (if c2 = 0 then ((f_X12_is st tk lt mi 8).bind fun o4 => if o4 = 0 then some (0 : Int32) else some 1) else some 1) else some 1) = some (if c1 = 0 then (if c2 = 0 then (if c3 = 0 then 0 else 1) else 1) else 1) := by
      rw [k2, ob_some, if_some, if_some, if_some]
    rw [e, ob_some, check_m, hq, ob_some, h2, ob_some]
  refine ⟨_, _, _, _, _, _, _, hC, ?_⟩
  by_cases e2 : c2 = 0
  · obtain ⟨a', b', st', en', kd', va', tk', mv', lt', er', ea', v, n1, n2, n3, n4, n5⟩ := number_same h h3 (lo := 1) (hi := 9) (l := 1) (u := 9) (by decide) (by decide) (by decide) q.1 q.2
    by_cases e1 : c1 = 0
    · refine ⟨a', b', -1 * va1, -v, st', en', kd', va', tk', mv', lt', er', ea', ?_, ?_, n3, by omega, fun z => ?_⟩
      · rw [if_pos e2, if_pos e1, if_neg (by decide), n1]
        rfl
      · rw [hM, if_pos e2, n2, ob_some, ob_some, if_pos e1]
      · obtain ⟨z1, z2, z3, -, -⟩ := n5 z
        exact ⟨hok z1, by have := h5 z1; omega, by rw [z3, Int32.neg_eq_neg_one_mul]⟩
    · refine ⟨a', b', 1 * va1, v, st', en', kd', va', tk', mv', lt', er', ea', ?_, ?_, n3, by omega, fun z => ?_⟩
      · rw [if_pos e2, if_neg e1, if_neg n10, n1]
        rfl
      · rw [hM, if_pos e2, n2, ob_some, ob_some, if_neg e1]
      · obtain ⟨z1, z2, z3, -, -⟩ := n5 z
        exact ⟨hok z1, by have := h5 z1; omega, by rw [z3, Int32.one_mul]⟩
  · refine ⟨a1, b1, 0, 0, st1, en1, kd1, va1, tk1, mv1, lt1, q.1, q.2, ?_, ?_, h3, h4, fun z => ⟨hok z, h5 z, rfl⟩⟩
    · rw [if_neg e2, if_pos rfl]
    · rw [hM, if_neg e2, ob_some]
      by_cases e1 : c1 = 0
      · rw [if_pos e1, neg0]
      · rw [if_neg e1]
