/-! PURE: words, numbers, semicolons read on both sides. -/
theorem sch_at {w k : Nat} {x : Int32} (hx : x.toInt = (k : Int)) (hk : k < lenJS.getD w 0) : sch w x = some (schv w k) := by
  unfold sch
  rw [ti_clamp hx, if_neg]
  rintro (h | h)
  · exact ti_neg hx (by omega) h
  · omega
theorem text_zero {ic v1 x : Int32} {ib : Nat → Int32} {w f : Nat} (hf : 0 < f) : f_X0_isText_L20 600 ic ib v1 w f 0 x = some 0 := by
  match f, hf with
  | f + 1, _ => rw [f_X0_isText_L20, if_pos rfl]
theorem text_L {n a w : Nat} {ic ml st tk lt : Int32} {ib mi : Nat → Int32} (h : INPn n ic ib ml mi) (hw : lenJS.getD w 0 ≤ 600) (hst : st.toInt = (a : Int)) (hlt : lt.toInt = ((lenJS.getD w 0 : Nat) : Int)) (han : a + lenJS.getD w 0 ≤ n) : ∀ (f k : Nat) (x : Int32), x.toInt = (k : Int) → k ≤ lenJS.getD w 0 → lenJS.getD w 0 < k + f → ∃ c, f_X0_isText_L20 600 ic ib st w f 1 x = some c ∧ f_X12_is_L23 st tk lt mi w f x = some c ∧ (c = 0 ∨ c = 1) := by
  have hn := h.2.1
  have hsl : (slen w).toInt = ((lenJS.getD w 0 : Nat) : Int) := ti_nat (by omega)
  intro f
  induction f with
  | zero => intro k x hx hk hf; omega
  | succ f ih =>
    intro k x hx hk hf
    rw [f_X0_isText_L20, f_X12_is_L23, if_neg (show ¬ (1 : Int32) = 0 by decide)]
    by_cases hq : k < lenJS.getD w 0
    · have hsx : (st + x).toInt = ((a + k : Nat) : Int) := off_ti hst hx (by omega)
      rw [if_neg (by rw [ti_le hsl hx]; omega), if_neg (by rw [ti_le hlt hx]; omega)]
      simp only [at_c h hsx, byt_in (mi := mi) (show a + k < n by omega), rd_at (f := mi) (L := 600) hsx (by omega), sch_at hx hq, ob_some]
      by_cases he : mi (a + k) = schv w k
      · rw [if_pos he, if_pos he]
        exact ih (k + 1) (x + 1) (ti_inc hx (by omega)) hq (by omega)
      · rw [if_neg he, if_neg he]
        exact ⟨0, text_zero (by omega), rfl, Or.inl rfl⟩
    · rw [if_pos (by rw [ti_le hsl hx]; omega), if_pos (by rw [ti_le hlt hx]; omega)]
      exact ⟨1, rfl, rfl, Or.inr rfl⟩
def PST (n : Nat) (mi : Nat → Int32) (a b : Nat) (st en kd va tk mv lt : Int32) : Prop := st.toInt = (a : Int) ∧ en.toInt = (b : Int) ∧ TOK n mi a b st kd va tk mv lt
theorem kd1 {n a b : Nat} {mi : Nat → Int32} {st kd va tk mv lt : Int32} (h : TOK n mi a b st kd va tk mv lt) : kd = 1 ↔ tk = 3 := by
  obtain ⟨-, -, ⟨rfl, rfl, -⟩ | ⟨rfl, rfl, -⟩ | ⟨rfl, rfl, -⟩ | ⟨rfl, rfl, -⟩⟩ := h <;> decide
theorem kd2 {n a b : Nat} {mi : Nat → Int32} {st kd va tk mv lt : Int32} (h : TOK n mi a b st kd va tk mv lt) : kd = 2 ↔ tk = 2 := by
  obtain ⟨-, -, ⟨rfl, rfl, -⟩ | ⟨rfl, rfl, -⟩ | ⟨rfl, rfl, -⟩ | ⟨rfl, rfl, -⟩⟩ := h <;> decide
theorem kd3 {n a b : Nat} {mi : Nat → Int32} {st kd va tk mv lt : Int32} (h : TOK n mi a b st kd va tk mv lt) : kd = 3 ↔ tk = 1 := by
  obtain ⟨-, -, ⟨rfl, rfl, -⟩ | ⟨rfl, rfl, -⟩ | ⟨rfl, rfl, -⟩ | ⟨rfl, rfl, -⟩⟩ := h <;> decide
theorem kd0 {n a b : Nat} {mi : Nat → Int32} {st kd va tk mv lt : Int32} (h : TOK n mi a b st kd va tk mv lt) : kd = 0 ↔ tk = 0 := by
  obtain ⟨-, -, ⟨rfl, rfl, -⟩ | ⟨rfl, rfl, -⟩ | ⟨rfl, rfl, -⟩ | ⟨rfl, rfl, -⟩⟩ := h <;> decide
theorem kd_long {n a b : Nat} {mi : Nat → Int32} {st kd va tk mv lt : Int32} (h : TOK n mi a b st kd va tk mv lt) (h0 : ¬ kd = 0) : a < b := by
  obtain ⟨-, -, ⟨rfl, rfl, -⟩ | ⟨rfl, rfl, h1, -⟩ | ⟨rfl, rfl, h1, -⟩ | ⟨rfl, rfl, h1, -⟩⟩ := h
  · exact absurd rfl h0
  · exact h1
  · exact h1
  · exact h1
theorem kd1_at {n a b : Nat} {mi : Nat → Int32} {st va tk mv lt : Int32} (h : TOK n mi a b st 1 va tk mv lt) : tk = 3 ∧ a < b ∧ lt.toInt = ((b - a : Nat) : Int) ∧ ∃ m, f_X12_nameFrom mi st lt = some m ∧ NMV va m := by
  obtain ⟨-, -, ⟨h1, -⟩ | ⟨-, h2, h3, -, h4, h5⟩ | ⟨h1, -⟩ | ⟨h1, -⟩⟩ := h
  · exact absurd h1 (by decide)
  · exact ⟨h2, h3, h4, h5⟩
  · exact absurd h1 (by decide)
  · exact absurd h1 (by decide)
theorem kd2_at {n a b : Nat} {mi : Nat → Int32} {st va tk mv lt : Int32} (h : TOK n mi a b st 2 va tk mv lt) : tk = 2 ∧ DIG va mv := by
  obtain ⟨-, -, ⟨h1, -⟩ | ⟨h1, -⟩ | ⟨-, h2, -, -, h3⟩ | ⟨h1, -⟩⟩ := h
  · exact absurd h1 (by decide)
  · exact absurd h1 (by decide)
  · exact ⟨h2, h3⟩
  · exact absurd h1 (by decide)
theorem kd3_at {n a b : Nat} {mi : Nat → Int32} {st va tk mv lt : Int32} (h : TOK n mi a b st 3 va tk mv lt) : tk = 1 ∧ va = mi a ∧ a < n := by
  obtain ⟨-, hb, ⟨h1, -⟩ | ⟨h1, -⟩ | ⟨h1, -⟩ | ⟨-, h2, h3, -, -, h4⟩⟩ := h
  · exact absurd h1 (by decide)
  · exact absurd h1 (by decide)
  · exact absurd h1 (by decide)
  · exact ⟨h2, h4, by omega⟩
theorem is_same {n a b w : Nat} {ic ml st en kd va tk mv lt : Int32} {ib mi : Nat → Int32} (h : INPn n ic ib ml mi) (hP : PST n mi a b st en kd va tk mv lt) (hw : lenJS.getD w 0 ≤ 600) : ∃ c, f_X1_isWord st en kd ic ib w = some c ∧ f_X12_is st tk lt mi w = some c ∧ (c = 0 ∨ c = 1) ∧ (c = 1 → kd = 1) := by
  obtain ⟨hst, hen, hT⟩ := hP
  have hab := hT.1
  have hbn := hT.2.1
  have hn := h.2.1
  by_cases hk : kd = 1
  · subst hk
    obtain ⟨h3, hlt, hl, -⟩ := kd1_at hT
    subst h3
    have hsl : (slen w).toInt = ((lenJS.getD w 0 : Nat) : Int) := ti_nat (by omega)
    have hes : (en - st).toInt = ((b - a : Nat) : Int) := by rw [ti_sub hen hst (by omega) (by omega)]; omega
    by_cases he : b - a = lenJS.getD w 0
    · obtain ⟨c, h1, h2, h4⟩ := text_L (tk := 3) h hw hst (lt := lt) (by rw [hl, he]) (by omega) 5000 0 0 (by decide) (by omega) (by omega)
      refine ⟨c, ?_, ?_, h4, fun _ => rfl⟩
      · unfold f_X1_isWord f_X0_isText
        rw [if_pos rfl, if_pos (by rw [ti_iff hes hsl]; omega)]
        show ((f_X0_isText_L20 600 ic ib st w 5000 1 0).bind _).bind _ = _
        rw [h1]
        rcases h4 with rfl | rfl
        · rfl
        · rfl
      · unfold f_X12_is
        rw [if_pos rfl, if_pos (by rw [ti_iff hl hsl]; omega)]
        exact h2
    · refine ⟨0, ?_, ?_, Or.inl rfl, fun z => absurd z (by decide)⟩
      · unfold f_X1_isWord f_X0_isText
        rw [if_pos rfl, if_neg (by rw [ti_iff hes hsl]; omega)]
        show ((f_X0_isText_L20 600 ic ib st w 5000 0 0).bind _).bind _ = _
        rw [text_zero (by decide)]
        rfl
      · unfold f_X12_is
        rw [if_pos rfl, if_neg (by rw [ti_iff hl hsl]; omega)]
  · refine ⟨0, ?_, ?_, Or.inl rfl, fun z => absurd z (by decide)⟩
    · unfold f_X1_isWord
      rw [if_neg hk]
    · unfold f_X12_is
      rw [if_neg (fun z => hk ((kd1 hT).mpr z))]
/-- the first error stays -/
def RQ (st er ea v c : Int32) : Int32 × Int32 := if er = 0 then (if v = 0 then (c, st) else (er, ea)) else (er, ea)
theorem require_c (st er ea v c : Int32) : f_X1_require st er ea v c = some (RQ st er ea v c) := by
  unfold f_X1_require RQ
  by_cases h : er = 0
  · rw [if_pos h, if_pos h, if_some]
  · rw [if_neg h, if_neg h]
theorem check_m (st er ea v c : Int32) : f_X12_check st er ea v c = some (if (RQ st er ea v c).1 = 0 then 1 else 0, RQ st er ea v c) := by
  unfold f_X12_check RQ
  by_cases h : er = 0
  · rw [if_pos h, if_pos h, if_some]
    generalize (if v = 0 then (c, st) else (er, ea)) = q
    show (if q.1 = 0 then some (1, q.1, q.2) else some (0, q.1, q.2)) = some (if q.1 = 0 then 1 else 0, q)
    by_cases h2 : q.1 = 0
    · rw [if_pos h2, if_pos h2]
    · rw [if_neg h2, if_neg h2]
  · rw [if_neg h, if_neg h]
    show (if er = 0 then some (1, er, ea) else some (0, er, ea)) = some (if er = 0 then 1 else 0, er, ea)
    rw [if_neg h, if_neg h]
theorem RQ_ok {st er ea v c : Int32} (hc : ¬ c = 0) (h : (RQ st er ea v c).1 = 0) : er = 0 ∧ ¬ v = 0 := by
  unfold RQ at h
  by_cases h1 : er = 0
  · rw [if_pos h1] at h
    by_cases h2 : v = 0
    · rw [if_pos h2] at h
      exact absurd h hc
    · exact ⟨h1, h2⟩
  · rw [if_neg h1] at h
    exact absurd h h1
theorem RQ_one {st er ea v c : Int32} (h : ¬ v = 0) : RQ st er ea v c = (er, ea) := by
  unfold RQ
  by_cases h1 : er = 0
  · rw [if_pos h1, if_neg h]
  · rw [if_neg h1]
theorem RQ_err {st er ea v c : Int32} (h : ¬ er = 0) : RQ st er ea v c = (er, ea) := if_neg h
theorem RQ_eq {st er ea v v' c : Int32} (h : er = 0 → (v = 0 ↔ v' = 0)) : RQ st er ea v c = RQ st er ea v' c := by
  by_cases h1 : er = 0
  · unfold RQ
    rw [if_pos h1, if_pos h1]
    by_cases h2 : v = 0
    · rw [if_pos h2, if_pos ((h h1).mp h2)]
    · rw [if_neg h2, if_neg (fun z => h2 ((h h1).mpr z))]
  · rw [RQ_err h1, RQ_err h1]
theorem next_same {n a b : Nat} {ic ml st en kd va tk mv lt : Int32} {ib mi : Nat → Int32} (h : INPn n ic ib ml mi) (hP : PST n mi a b st en kd va tk mv lt) (er : Int32) : ∃ (a' b' : Nat) (st' en' kd' va' tk' mv' lt' : Int32), f_X1_take st en kd va er ic ib = some (va, st', en', kd', va') ∧ f_X12_next ml en st tk mv lt er mi = some (en', st', tk', mv', lt') ∧ PST n mi a' b' st' en' kd' va' tk' mv' lt' ∧ a ≤ a' ∧ (er = 0 → b ≤ a') := by
  obtain ⟨hst, hen, hT⟩ := hP
  by_cases he : er = 0
  · subst he
    obtain ⟨a', b', st', en', kd', va', tk', mv', lt', h1, h2, h3, h4, h5, h6⟩ := take_same h hen hT.2.1 st kd va st tk mv lt
    refine ⟨a', b', st', en', kd', va', tk', mv', lt', h1, ?_, ⟨h3, h4, h6⟩, Nat.le_trans hT.1 h5, fun _ => h5⟩
    unfold f_X12_next
    rw [if_pos rfl, h2]
    rfl
  · refine ⟨a, b, st, en, kd, va, tk, mv, lt, ?_, ?_, ⟨hst, hen, hT⟩, Nat.le_refl a, fun z => absurd z he⟩
    · unfold f_X1_take
      rw [if_neg he]
    · unfold f_X12_next
      rw [if_neg he]
theorem one_ne : ¬ (1 : Int32) = 0 := by decide
theorem number_same {n a b : Nat} {ic ml st en kd va tk mv lt lo hi : Int32} {l u : Int} {ib mi : Nat → Int32} (h : INPn n ic ib ml mi) (hP : PST n mi a b st en kd va tk mv lt) (hlo : lo.toInt = l) (hhi : hi.toInt = u) (hu : u < 100000000) (er ea : Int32) : ∃ (a' b' : Nat) (st' en' kd' va' tk' mv' lt' er' ea' v : Int32), f_X1_number st en kd va er ea ic ib lo hi = some (va, st', en', kd', va', er', ea') ∧ f_X12_number ml en st tk mv lt er ea mi lo hi = some (v, en', st', tk', mv', lt', er', ea') ∧ PST n mi a' b' st' en' kd' va' tk' mv' lt' ∧ a ≤ a' ∧ (er' = 0 → er = 0 ∧ b ≤ a' ∧ v = va ∧ l ≤ va.toInt ∧ va.toInt ≤ u) := by
  have hT := hP.2.2
  have hj : (if kd = 2 then (1 : Int32) else 0) = (if tk = 2 then 1 else 0) := by
    by_cases hk : kd = 2
    · rw [if_pos hk, if_pos ((kd2 hT).mp hk)]
    · rw [if_neg hk, if_neg (fun z => hk ((kd2 hT).mpr z))]
  have hrng : f_X12_isBetween mv lo hi = some (if l ≤ mv.toInt ∧ mv.toInt ≤ u then 1 else 0) := between_m rfl hlo hhi
  have hC : (if va < lo then (0 : Int32) else if hi < va then 0 else 1) = (if l ≤ va.toInt ∧ va.toInt ≤ u then 1 else 0) := by
    by_cases h1 : va < lo
    · rw [if_pos h1, if_neg (by rw [ti_lt rfl hlo] at h1; omega)]
    · rw [if_neg h1]
      by_cases h2 : hi < va
      · rw [if_pos h2, if_neg (by rw [ti_lt hhi rfl] at h2; omega)]
      · rw [if_neg h2, if_pos (by rw [ti_lt rfl hlo] at h1; rw [ti_lt hhi rfl] at h2; omega)]
  have hsame : RQ st (RQ st er ea (if kd = 2 then 1 else 0) 1).1 (RQ st er ea (if kd = 2 then 1 else 0) 1).2 (if l ≤ va.toInt ∧ va.toInt ≤ u then 1 else 0) 2 = RQ st (RQ st er ea (if kd = 2 then 1 else 0) 1).1 (RQ st er ea (if kd = 2 then 1 else 0) 1).2 (if l ≤ mv.toInt ∧ mv.toInt ≤ u then 1 else 0) 2 := by
    refine RQ_eq (fun hz => ?_)
    obtain ⟨-, hk⟩ := RQ_ok (by decide) hz
    have hk2 : kd = 2 := Classical.byContradiction fun hn => hk (if_neg hn)
    subst hk2
    obtain ⟨-, d1, d2, ⟨d3, d4⟩ | ⟨d3, d4⟩⟩ := kd2_at hT
    · rw [d4]
    · have e1 : va.toInt = 100000000 := by rw [d4]; decide
      rw [if_neg (by omega), if_neg (by omega)]
  generalize hq : RQ st (RQ st er ea (if kd = 2 then 1 else 0) 1).1 (RQ st er ea (if kd = 2 then 1 else 0) 1).2 (if l ≤ va.toInt ∧ va.toInt ≤ u then 1 else 0) 2 = q at hsame
  obtain ⟨a', b', st', en', kd', va', tk', mv', lt', h1, h2, h3, h4, h5⟩ := next_same h hP q.1
  refine ⟨a', b', st', en', kd', va', tk', mv', lt', q.1, q.2, if q.1 = 0 then mv else lo, ?_, ?_, h3, h4, fun hz => ?_⟩
  · simp only [f_X1_number, if_some, hC, require_c, ob_some, hq, h1]
  · simp only [f_X12_number, if_some, ← hj, check_m, hrng, ob_some, ← hsame, h2]
  · rw [← hq] at hz
    obtain ⟨g1, g2⟩ := RQ_ok (by decide) hz
    obtain ⟨g3, g4⟩ := RQ_ok (by decide) g1
    have hk2 : kd = 2 := Classical.byContradiction fun hn => g4 (if_neg hn)
    have hr : l ≤ va.toInt ∧ va.toInt ≤ u := Classical.byContradiction fun hn => g2 (if_neg hn)
    rw [hq] at hz
    refine ⟨g3, h5 hz, ?_, hr.1, hr.2⟩
    rw [if_pos hz]
    subst hk2
    obtain ⟨-, d1, d2, ⟨d3, d4⟩ | ⟨d3, d4⟩⟩ := kd2_at hT
    · exact d4.symm
    · have e1 : va.toInt = 100000000 := by rw [d4]; decide
      omega
theorem semi_val {n a b : Nat} {mi : Nat → Int32} {st en kd va tk mv lt : Int32} (hn : n ≤ 600) (hP : PST n mi a b st en kd va tk mv lt) (er ea : Int32) : f_X12_semicolon st tk er ea mi = some (RQ st er ea (if kd = 3 ∧ va = 59 then 1 else 0) 1) := by
  obtain ⟨hst, hen, hT⟩ := hP
  have key : ∀ j : Int32, j = (if kd = 3 ∧ va = 59 then 1 else 0) → (f_X12_check st er ea j 1).bind (fun o3 => some (o3.2.1, o3.2.2)) = some (RQ st er ea (if kd = 3 ∧ va = 59 then 1 else 0) 1) := fun j hj => by
    rw [hj, check_m]
    rfl
  by_cases hk : kd = 3
  · subst hk
    obtain ⟨h1, h2, h3⟩ := kd3_at hT
    unfold f_X12_semicolon
    rw [if_pos h1, rd_at hst (by omega)]
    by_cases h59 : va = 59
    · show ((if mi a = 59 then some (1 : Int32) else some 0).bind _) = _
      rw [if_pos (by rw [← h2]; exact h59)]
      exact key 1 (by rw [if_pos ⟨rfl, h59⟩])
    · show ((if mi a = 59 then some (1 : Int32) else some 0).bind _) = _
      rw [if_neg (by rw [← h2]; exact h59)]
      exact key 0 (by rw [if_neg (fun z => h59 z.2)])
  · unfold f_X12_semicolon
    rw [if_neg (fun z => hk ((kd3 hT).mpr z))]
    exact key 0 (by rw [if_neg (fun z => hk z.1)])
theorem semi_c {ic st en kd va : Int32} {ib : Nat → Int32} (er ea v : Int32) : f_X1_semicolon st en kd va er ea ic ib v = (f_X1_take st en kd va (RQ st (RQ st er ea (if kd = 3 ∧ va = 59 then 1 else 0) 1).1 (RQ st er ea (if kd = 3 ∧ va = 59 then 1 else 0) 1).2 v 6).1 ic ib).bind fun o4 => some (if (RQ st (RQ st er ea (if kd = 3 ∧ va = 59 then 1 else 0) 1).1 (RQ st er ea (if kd = 3 ∧ va = 59 then 1 else 0) 1).2 v 6).1 = 0 then 1 else 0, o4.2.1, o4.2.2.1, o4.2.2.2.1, o4.2.2.2.2, RQ st (RQ st er ea (if kd = 3 ∧ va = 59 then 1 else 0) 1).1 (RQ st er ea (if kd = 3 ∧ va = 59 then 1 else 0) 1).2 v 6) := by
  have hj : (if kd = 3 then (if va = 59 then some (1 : Int32) else some 0) else some 0) = some (if kd = 3 ∧ va = 59 then 1 else 0) := by
    by_cases h1 : kd = 3
    · rw [if_pos h1]
      by_cases h2 : va = 59
      · rw [if_pos h2, if_pos ⟨h1, h2⟩]
      · rw [if_neg h2, if_neg (fun z => h2 z.2)]
    · rw [if_neg h1, if_neg (fun z => h1 z.1)]
  unfold f_X1_semicolon
  rw [hj]
  simp only [require_c, ob_some]
  generalize RQ st (RQ st er ea (if kd = 3 ∧ va = 59 then 1 else 0) 1).1 (RQ st er ea (if kd = 3 ∧ va = 59 then 1 else 0) 1).2 v 6 = q
  refine congrArg _ (funext fun o4 => ?_)
  by_cases h : q.1 = 0
  · rw [if_pos h, if_pos h]
  · rw [if_neg h, if_neg h]
/-- a statement's end that is allowed always -/
theorem finish_same {n a b : Nat} {ic ml st en kd va tk mv lt : Int32} {ib mi : Nat → Int32} (h : INPn n ic ib ml mi) (hP : PST n mi a b st en kd va tk mv lt) (er ea : Int32) : ∃ (a' b' : Nat) (st' en' kd' va' tk' mv' lt' er' ea' : Int32), f_X1_semicolon st en kd va er ea ic ib 1 = some (if er' = 0 then 1 else 0, st', en', kd', va', er', ea') ∧ f_X12_finish ml en st tk mv lt er ea mi = some (en', st', tk', mv', lt', er', ea') ∧ PST n mi a' b' st' en' kd' va' tk' mv' lt' ∧ a ≤ a' ∧ (er' = 0 → er = 0 ∧ b ≤ a') := by
  have hs := semi_val h.2.1 hP er ea
  have hc := semi_c (ic := ic) (st := st) (en := en) (kd := kd) (va := va) (ib := ib) er ea 1
  rw [RQ_one one_ne] at hc
  have hz : (RQ st er ea (if kd = 3 ∧ va = 59 then 1 else 0) 1).1 = 0 → er = 0 := fun z => (RQ_ok (by decide) z).1
  generalize RQ st er ea (if kd = 3 ∧ va = 59 then 1 else 0) 1 = q at hs hc hz
  obtain ⟨a', b', st', en', kd', va', tk', mv', lt', h1, h2, h3, h4, h5⟩ := next_same h hP q.1
  refine ⟨a', b', st', en', kd', va', tk', mv', lt', q.1, q.2, ?_, ?_, h3, h4, fun z => ⟨hz z, h5 z⟩⟩
  · rw [hc]
    show (f_X1_take st en kd va q.1 ic ib).bind _ = _
    rw [h1]
    rfl
  · unfold f_X12_finish
    rw [hs]
    show (f_X12_next ml en st tk mv lt q.1 mi).bind _ = _
    rw [h2]
    rfl
/-- a statement's end that may be refused -/
theorem mayDo_same {n a b : Nat} {ic ml st en kd va tk mv lt : Int32} {ib mi : Nat → Int32} (h : INPn n ic ib ml mi) (hP : PST n mi a b st en kd va tk mv lt) (er ea v r : Int32) (hv : er = 0 → (v = 0 ↔ ¬ r = 0)) : ∃ (a' b' : Nat) (st' en' kd' va' tk' mv' lt' er' ea' : Int32), f_X1_semicolon st en kd va er ea ic ib v = some (if er' = 0 then 1 else 0, st', en', kd', va', er', ea') ∧ f_X12_mayDo st tk er ea mi r = some (if er' = 0 then 1 else 0, er', ea') ∧ f_X12_next ml en st tk mv lt er' mi = some (en', st', tk', mv', lt') ∧ PST n mi a' b' st' en' kd' va' tk' mv' lt' ∧ a ≤ a' ∧ (er' = 0 → er = 0 ∧ ¬ v = 0 ∧ r = 0 ∧ b ≤ a') := by
  have hs := semi_val h.2.1 hP er ea
  have hc := semi_c (ic := ic) (st := st) (en := en) (kd := kd) (va := va) (ib := ib) er ea v
  have hz : (RQ st er ea (if kd = 3 ∧ va = 59 then 1 else 0) 1).1 = 0 → er = 0 := fun z => (RQ_ok (by decide) z).1
  generalize RQ st er ea (if kd = 3 ∧ va = 59 then 1 else 0) 1 = q at hs hc hz
  have hq : RQ st q.1 q.2 v 6 = RQ st q.1 q.2 (if q.1 = 0 then (if r = 0 then 1 else 0) else 1) 6 := RQ_eq (fun z => by
    rw [if_pos z, hv (hz z)]
    by_cases hr : r = 0
    · rw [if_pos hr]
      exact ⟨fun y => absurd hr y, fun y => absurd y one_ne⟩
    · rw [if_neg hr]
      exact ⟨fun _ => rfl, fun _ => hr⟩)
  have hok : (RQ st q.1 q.2 v 6).1 = 0 → er = 0 ∧ ¬ v = 0 ∧ r = 0 := fun z => by
    obtain ⟨z1, z2⟩ := RQ_ok (by decide) z
    have z3 := hz z1
    refine ⟨z3, z2, Classical.byContradiction fun z4 => z2 ((hv z3).mpr z4)⟩
  generalize RQ st q.1 q.2 v 6 = q2 at hc hq hok
  obtain ⟨a', b', st', en', kd', va', tk', mv', lt', h1, h2, h3, h4, h5⟩ := next_same h hP q2.1
  refine ⟨a', b', st', en', kd', va', tk', mv', lt', q2.1, q2.2, ?_, ?_, h2, h3, h4, fun z => ⟨(hok z).1, (hok z).2.1, (hok z).2.2, h5 z⟩⟩
  · rw [hc, h1]
    rfl
  · unfold f_X12_mayDo
    rw [hs]
    have e : (if q.1 = 0 then (if r = 0 then some (1 : Int32) else some 0) else some 1) = some (if q.1 = 0 then (if r = 0 then 1 else 0) else 1) := by
      rw [if_some, if_some]
    show ((if q.1 = 0 then (if r = 0 then some (1 : Int32) else some 0) else some 1).bind fun j2 => (f_X12_check st q.1 q.2 j2 6).bind _) = _
    rw [e]
    show (f_X12_check st q.1 q.2 _ 6).bind _ = _
    rw [check_m, ← hq]
    show (if q2.1 = 0 then some (1, q2.1, q2.2) else some (0, q2.1, q2.2)) = _
    by_cases hh : q2.1 = 0
    · rw [if_pos hh, if_pos hh]
    · rw [if_neg hh, if_neg hh]
