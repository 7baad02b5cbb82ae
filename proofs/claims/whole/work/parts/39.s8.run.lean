/-! PURE: a statement, all of them, the whole text. -/
theorem stmt_same {n a b : Nat} {tm tol seed made cot Rr : Int32} {R : Nat → Int32} {Ur : Int32} {U : Nat → Int32} {Vr : Int32} {V : Nat → Int32} {Tr : Int32} {T : Nat → Int32} {Er : Int32} {E : Nat → Int32} {g : Nat → Int32} {ic ml st en kd va tk mv lt : Int32} {ib mi : Nat → Int32} (h : INPn n ic ib ml mi) (hP : PST n mi a b st en kd va tk mv lt) (hk : ¬ kd = 0) (ea : Int32) (hST : ST (999 * a) a tm tol seed made cot Rr R Ur U Vr V Tr T Er E g) : ∃ (a' b' : Nat) (st' en' kd' va' tk' mv' lt' er' ea' : Int32) (tm' seed' made' cot' Rr' : Int32) (R' : Nat → Int32) (Ur' : Int32) (U' : Nat → Int32) (Vr' : Int32) (V' : Nat → Int32) (Tr' : Int32) (T' : Nat → Int32) (Er' : Int32) (E' g' : Nat → Int32), f_X1_readStatement st en kd va 0 ea ic ib tm tol seed made cot Rr R Ur U Vr V Tr T Er E = some (st', en', kd', va', er', ea', tm', seed', made', cot', Rr', R', Ur', U', Vr', V', Tr', T', Er', E') ∧ f_X12_readStatement ml en st tk mv lt 0 ea g mi = some (en', st', tk', mv', lt', er', ea', g') ∧ PST n mi a' b' st' en' kd' va' tk' mv' lt' ∧ (er' = 0 → a < a' ∧ ST (999 * a') a' tm' tol seed' made' cot' Rr' R' Ur' U' Vr' V' Tr' T' Er' E' g') := by
  obtain ⟨c10, f10, m10, -, -⟩ := is_same (w := 10) h hP (by decide)
  obtain ⟨c11, f11, m11, -, -⟩ := is_same (w := 11) h hP (by decide)
  obtain ⟨c12, f12, m12, -, -⟩ := is_same (w := 12) h hP (by decide)
  obtain ⟨c13, f13, m13, -, -⟩ := is_same (w := 13) h hP (by decide)
  obtain ⟨c14, f14, m14, -, -⟩ := is_same (w := 14) h hP (by decide)
  obtain ⟨c15, f15, m15, -, -⟩ := is_same (w := 15) h hP (by decide)
  obtain ⟨c16, f16, m16, -, -⟩ := is_same (w := 16) h hP (by decide)
  obtain ⟨c17, f17, m17, -, -⟩ := is_same (w := 17) h hP (by decide)
  obtain ⟨c18, f18, m18, -, -⟩ := is_same (w := 18) h hP (by decide)
  obtain ⟨c19, f19, m19, -, -⟩ := is_same (w := 19) h hP (by decide)
  obtain ⟨c20, f20, m20, -, -⟩ := is_same (w := 20) h hP (by decide)
  obtain ⟨c21, f21, m21, -, -⟩ := is_same (w := 21) h hP (by decide)
  by_cases h10 : c10 = 0
  case neg =>
    obtain ⟨a', b', st', en', kd', va', tk', mv', lt', er', ea', Rr1, R1, g', hc, hm, hp, hs⟩ := realm_st h hP hk ea hST
    refine ⟨a', b', st', en', kd', va', tk', mv', lt', er', ea', tm, seed, made, cot, Rr1, R1, Ur, U, Vr, V, Tr, T, Er, E, g', ?_, ?_, hp, hs⟩
    · simp only [f_X1_readStatement, ob_some, f10, if_neg h10, hc]
    · simp only [f_X12_readStatement, ob_some, m10, if_neg h10, hm]
  by_cases h11 : c11 = 0
  case neg =>
    obtain ⟨a', b', st', en', kd', va', tk', mv', lt', er', ea', R1, g', hc, hm, hp, hs⟩ := trust_st h hP hk ea hST
    refine ⟨a', b', st', en', kd', va', tk', mv', lt', er', ea', tm, seed, made, cot, Rr, R1, Ur, U, Vr, V, Tr, T, Er, E, g', ?_, ?_, hp, hs⟩
    · simp only [f_X1_readStatement, ob_some, f10, f11, if_pos h10, if_neg h11, hc]
    · simp only [f_X12_readStatement, ob_some, m10, m11, if_pos h10, if_neg h11, hm]
  by_cases h12 : c12 = 0
  case neg =>
    obtain ⟨a', b', st', en', kd', va', tk', mv', lt', er', ea', Ur1, U1, g', hc, hm, hp, hs⟩ := user_st h hP hk ea hST
    refine ⟨a', b', st', en', kd', va', tk', mv', lt', er', ea', tm, seed, made, cot, Rr, R, Ur1, U1, Vr, V, Tr, T, Er, E, g', ?_, ?_, hp, hs⟩
    · simp only [f_X1_readStatement, ob_some, f10, f11, f12, if_pos h10, if_pos h11, if_neg h12, hc]
    · simp only [f_X12_readStatement, ob_some, m10, m11, m12, if_pos h10, if_pos h11, if_neg h12, hm]
  by_cases h13 : c13 = 0
  case neg =>
    obtain ⟨a', b', st', en', kd', va', tk', mv', lt', er', ea', cot1, Vr1, V1, g', hc, hm, hp, hs⟩ := service_st h hP hk ea hST
    refine ⟨a', b', st', en', kd', va', tk', mv', lt', er', ea', tm, seed, made, cot1, Rr, R, Ur, U, Vr1, V1, Tr, T, Er, E, g', ?_, ?_, hp, hs⟩
    · simp only [f_X1_readStatement, ob_some, f10, f11, f12, f13, if_pos h10, if_pos h11, if_pos h12, if_neg h13, hc]
    · simp only [f_X12_readStatement, ob_some, m10, m11, m12, m13, if_pos h10, if_pos h11, if_pos h12, if_neg h13, hm]
  by_cases h14 : c14 = 0
  case neg =>
    obtain ⟨a', b', st', en', kd', va', tk', mv', lt', er', ea', seed1, made1, Tr1, T1, g', hc, hm, hp, hs⟩ := login_st h hP hk ea hST
    refine ⟨a', b', st', en', kd', va', tk', mv', lt', er', ea', tm, seed1, made1, cot, Rr, R, Ur, U, Vr, V, Tr1, T1, Er, E, g', ?_, ?_, hp, hs⟩
    · simp only [f_X1_readStatement, ob_some, f10, f11, f12, f13, f14, if_pos h10, if_pos h11, if_pos h12, if_pos h13, if_neg h14, hc]
    · simp only [f_X12_readStatement, ob_some, m10, m11, m12, m13, m14, if_pos h10, if_pos h11, if_pos h12, if_pos h13, if_neg h14, hm]
  by_cases h15 : c15 = 0
  case neg =>
    obtain ⟨a', b', st', en', kd', va', tk', mv', lt', er', ea', seed1, made1, Tr1, T1, g', hc, hm, hp, hs⟩ := refer_st h hP hk ea hST
    refine ⟨a', b', st', en', kd', va', tk', mv', lt', er', ea', tm, seed1, made1, cot, Rr, R, Ur, U, Vr, V, Tr1, T1, Er, E, g', ?_, ?_, hp, hs⟩
    · simp only [f_X1_readStatement, ob_some, f10, f11, f12, f13, f14, f15, if_pos h10, if_pos h11, if_pos h12, if_pos h13, if_pos h14, if_neg h15, hc]
    · simp only [f_X12_readStatement, ob_some, m10, m11, m12, m13, m14, m15, if_pos h10, if_pos h11, if_pos h12, if_pos h13, if_pos h14, if_neg h15, hm]
  by_cases h16 : c16 = 0
  case neg =>
    obtain ⟨a', b', st', en', kd', va', tk', mv', lt', er', ea', seed1, made1, Tr1, T1, g', hc, hm, hp, hs⟩ := request_st h hP hk ea hST
    refine ⟨a', b', st', en', kd', va', tk', mv', lt', er', ea', tm, seed1, made1, cot, Rr, R, Ur, U, Vr, V, Tr1, T1, Er, E, g', ?_, ?_, hp, hs⟩
    · simp only [f_X1_readStatement, ob_some, f10, f11, f12, f13, f14, f15, f16, if_pos h10, if_pos h11, if_pos h12, if_pos h13, if_pos h14, if_pos h15, if_neg h16, hc]
    · simp only [f_X12_readStatement, ob_some, m10, m11, m12, m13, m14, m15, m16, if_pos h10, if_pos h11, if_pos h12, if_pos h13, if_pos h14, if_pos h15, if_neg h16, hm]
  by_cases h17 : c17 = 0
  case neg =>
    obtain ⟨a', b', st', en', kd', va', tk', mv', lt', er', ea', seed1, T1, g', hc, hm, hp, hs⟩ := renew_st h hP hk ea hST
    refine ⟨a', b', st', en', kd', va', tk', mv', lt', er', ea', tm, seed1, made, cot, Rr, R, Ur, U, Vr, V, Tr, T1, Er, E, g', ?_, ?_, hp, hs⟩
    · simp only [f_X1_readStatement, ob_some, f10, f11, f12, f13, f14, f15, f16, f17, if_pos h10, if_pos h11, if_pos h12, if_pos h13, if_pos h14, if_pos h15, if_pos h16, if_neg h17, hc]
    · simp only [f_X12_readStatement, ob_some, m10, m11, m12, m13, m14, m15, m16, m17, if_pos h10, if_pos h11, if_pos h12, if_pos h13, if_pos h14, if_pos h15, if_pos h16, if_neg h17, hm]
  by_cases h18 : c18 = 0
  case neg =>
    obtain ⟨a', b', st', en', kd', va', tk', mv', lt', er', ea', U1, V1, Er1, E1, g', hc, hm, hp, hs⟩ := cheese_st h hP hk ea hST
    refine ⟨a', b', st', en', kd', va', tk', mv', lt', er', ea', tm, seed, made, cot, Rr, R, Ur, U1, Vr, V1, Tr, T, Er1, E1, g', ?_, ?_, hp, hs⟩
    · simp only [f_X1_readStatement, ob_some, f10, f11, f12, f13, f14, f15, f16, f17, f18, if_pos h10, if_pos h11, if_pos h12, if_pos h13, if_pos h14, if_pos h15, if_pos h16, if_pos h17, if_neg h18, hc]
    · simp only [f_X12_readStatement, ob_some, m10, m11, m12, m13, m14, m15, m16, m17, m18, if_pos h10, if_pos h11, if_pos h12, if_pos h13, if_pos h14, if_pos h15, if_pos h16, if_pos h17, if_neg h18, hm]
  by_cases h19 : c19 = 0
  case neg =>
    obtain ⟨a', b', st', en', kd', va', tk', mv', lt', er', ea', Tr1, T1, g', hc, hm, hp, hs⟩ := drop_st h hP hk ea hST
    refine ⟨a', b', st', en', kd', va', tk', mv', lt', er', ea', tm, seed, made, cot, Rr, R, Ur, U, Vr, V, Tr1, T1, Er, E, g', ?_, ?_, hp, hs⟩
    · simp only [f_X1_readStatement, ob_some, f10, f11, f12, f13, f14, f15, f16, f17, f18, f19, if_pos h10, if_pos h11, if_pos h12, if_pos h13, if_pos h14, if_pos h15, if_pos h16, if_pos h17, if_pos h18, if_neg h19, hc]
    · simp only [f_X12_readStatement, ob_some, m10, m11, m12, m13, m14, m15, m16, m17, m18, m19, if_pos h10, if_pos h11, if_pos h12, if_pos h13, if_pos h14, if_pos h15, if_pos h16, if_pos h17, if_pos h18, if_neg h19, hm]
  by_cases h20 : c20 = 0
  case neg =>
    obtain ⟨a', b', st', en', kd', va', tk', mv', lt', er', ea', Tr1, T1, g', hc, hm, hp, hs⟩ := sweep_st h hP hk ea hST
    refine ⟨a', b', st', en', kd', va', tk', mv', lt', er', ea', tm, seed, made, cot, Rr, R, Ur, U, Vr, V, Tr1, T1, Er, E, g', ?_, ?_, hp, hs⟩
    · simp only [f_X1_readStatement, ob_some, f10, f11, f12, f13, f14, f15, f16, f17, f18, f19, f20, if_pos h10, if_pos h11, if_pos h12, if_pos h13, if_pos h14, if_pos h15, if_pos h16, if_pos h17, if_pos h18, if_pos h19, if_neg h20, hc]
    · simp only [f_X12_readStatement, ob_some, m10, m11, m12, m13, m14, m15, m16, m17, m18, m19, m20, if_pos h10, if_pos h11, if_pos h12, if_pos h13, if_pos h14, if_pos h15, if_pos h16, if_pos h17, if_pos h18, if_pos h19, if_neg h20, hm]
  by_cases h21 : c21 = 0
  case neg =>
    obtain ⟨a', b', st', en', kd', va', tk', mv', lt', er', ea', tm1, Er1, E1, g', hc, hm, hp, hs⟩ := pass_st h hP hk ea hST
    refine ⟨a', b', st', en', kd', va', tk', mv', lt', er', ea', tm1, seed, made, cot, Rr, R, Ur, U, Vr, V, Tr, T, Er1, E1, g', ?_, ?_, hp, hs⟩
    · simp only [f_X1_readStatement, ob_some, f10, f11, f12, f13, f14, f15, f16, f17, f18, f19, f20, f21, if_pos h10, if_pos h11, if_pos h12, if_pos h13, if_pos h14, if_pos h15, if_pos h16, if_pos h17, if_pos h18, if_pos h19, if_pos h20, if_neg h21, hc]
    · simp only [f_X12_readStatement, ob_some, m10, m11, m12, m13, m14, m15, m16, m17, m18, m19, m20, m21, if_pos h10, if_pos h11, if_pos h12, if_pos h13, if_pos h14, if_pos h15, if_pos h16, if_pos h17, if_pos h18, if_pos h19, if_pos h20, if_neg h21, hm]
  refine ⟨a, b, st, en, kd, va, tk, mv, lt, (RQ st 0 ea 0 1).1, (RQ st 0 ea 0 1).2, tm, seed, made, cot, Rr, R, Ur, U, Vr, V, Tr, T, Er, E, g, ?_, ?_, hP, fun z => absurd rfl (RQ_ok (by decide) z).2⟩
  · simp only [f_X1_readStatement, ob_some, f10, f11, f12, f13, f14, f15, f16, f17, f18, f19, f20, f21, if_pos h10, if_pos h11, if_pos h12, if_pos h13, if_pos h14, if_pos h15, if_pos h16, if_pos h17, if_pos h18, if_pos h19, if_pos h20, if_pos h21, require_c]
  · simp only [f_X12_readStatement, ob_some, m10, m11, m12, m13, m14, m15, m16, m17, m18, m19, m20, m21, if_pos h10, if_pos h11, if_pos h12, if_pos h13, if_pos h14, if_pos h15, if_pos h16, if_pos h17, if_pos h18, if_pos h19, if_pos h20, if_pos h21, check_m]
theorem loop_L {n : Nat} {tol ic ml : Int32} {ib mi : Nat → Int32} (h : INPn n ic ib ml mi) : ∀ (f i a b : Nat) (x st en kd va tk mv lt er ea tm seed made cot Rr : Int32) (R : Nat → Int32) (Ur : Int32) (U : Nat → Int32) (Vr : Int32) (V : Nat → Int32) (Tr : Int32) (T : Nat → Int32) (Er : Int32) (E g : Nat → Int32), x.toInt = (i : Int) → i ≤ 600 → 600 < i + f → PST n mi a b st en kd va tk mv lt → (er = 0 → i ≤ a ∧ ST (999 * a) a tm tol seed made cot Rr R Ur U Vr V Tr T Er E g) → ∃ (a' : Nat) (st' en' kd' va' tk' mv' lt' er' ea' tm' seed' made' cot' Rr' : Int32) (R' : Nat → Int32) (Ur' : Int32) (U' : Nat → Int32) (Vr' : Int32) (V' : Nat → Int32) (Tr' : Int32) (T' : Nat → Int32) (Er' : Int32) (E' g' : Nat → Int32), f_X1_run_L26 ic ib tol f st en kd va er ea tm seed made cot Rr R Ur U Vr V Tr T Er E x = some (st', en', kd', va', er', ea', tm', seed', made', cot', Rr', R', Ur', U', Vr', V', Tr', T', Er', E') ∧ f_X12_read_L89 ml mi f en st tk mv lt er ea g = some (en', st', tk', mv', lt', er', ea', g') ∧ (er' = 0 → a' ≤ 600 ∧ ST (999 * a') a' tm' tol seed' made' cot' Rr' R' Ur' U' Vr' V' Tr' T' Er' E' g') := by
  have hn := h.2.1
  intro f
  induction f with
  | zero => intro i a b x st en kd va tk mv lt er ea tm seed made cot Rr R Ur U Vr V Tr T Er E g hx hi hf; omega
  | succ f ih =>
    intro i a b x st en kd va tk mv lt er ea tm seed made cot Rr R Ur U Vr V Tr T Er E g hx hi hf hP hS
    have hbn := hP.2.2.2.1
    have hab := hP.2.2.1
    rw [f_X1_run_L26, f_X12_read_L89]
    by_cases he : er = 0
    · rw [if_pos he, if_pos he]
      obtain ⟨hia, hST⟩ := hS he
      by_cases hk : kd = 0
      · rw [if_pos hk, if_pos ((kd0 hP.2.2).mp hk)]
        refine ⟨a, st, en, kd, va, tk, mv, lt, er, ea, tm, seed, made, cot, Rr, R, Ur, U, Vr, V, Tr, T, Er, E, g, ?_, rfl, fun _ => ⟨by omega, hST⟩⟩
        by_cases hq : 600 ≤ x
        · rw [if_pos hq]
        · rw [if_neg hq]
      · have hlt := kd_long hP.2.2 hk
        have hi6 : i < 600 := by omega
        rw [if_neg hk, if_neg (fun z => hk ((kd0 hP.2.2).mpr z)), if_neg (by rw [ti_le (a := 600) (by decide) hx]; omega), he]
        obtain ⟨a', b', st', en', kd', va', tk', mv', lt', er', ea', tm', seed', made', cot', Rr', R', Ur', U', Vr', V', Tr', T', Er', E', g', c1, c2, c3, c4⟩ := stmt_same h hP hk ea hST
        rw [c1, c2, ob_some, ob_some]
        exact ih (i + 1) a' b' (x + 1) st' en' kd' va' tk' mv' lt' er' ea' tm' seed' made' cot' Rr' R' Ur' U' Vr' V' Tr' T' Er' E' g' (ti_inc hx (by omega)) (by omega) (by omega) c3 (fun z => ⟨by have := (c4 z).1; omega, (c4 z).2⟩)
    · rw [if_neg he, if_neg he]
      refine ⟨a, st, en, kd, va, tk, mv, lt, er, ea, tm, seed, made, cot, Rr, R, Ur, U, Vr, V, Tr, T, Er, E, g, ?_, rfl, fun z => absurd z he⟩
      by_cases hq : 600 ≤ x
      · rw [if_pos hq]
      · rw [if_neg hq]
theorem zero_L : ∀ (f k : Nat) (x : Int32) (g : Nat → Int32), x.toInt = (k : Int) → k ≤ 463 → 463 < k + f → (∀ j, j < k → g j = 0) → ∃ g', f_X12_read_L17 f g x = some g' ∧ ∀ j, j < 463 → g' j = 0 := by
  intro f
  induction f with
  | zero => intro k x g hx hk hf; omega
  | succ f ih =>
    intro k x g hx hk hf hg
    rw [f_X12_read_L17]
    by_cases hq : 463 ≤ x
    · rw [if_pos hq]
      refine ⟨g, rfl, fun j hj => hg j ?_⟩
      rw [ti_le (a := 463) (by decide) hx] at hq
      omega
    · have hk2 : k < 463 := by
        rw [ti_le (a := 463) (by decide) hx] at hq
        omega
      rw [if_neg hq, wr_to hx hk2, ob_some]
      refine ih (k + 1) (x + 1) (upd g k 0) (ti_inc hx (by omega)) hk2 (by omega) (fun j hj => ?_)
      by_cases hjk : j = k
      · rw [upd_eq hjk]
      · rw [upd_ne hjk]
        exact hg j (by omega)
theorem empty_ST {tb mb : Nat} {tol seed : Int32} {R U V T E g : Nat → Int32} (hg : ∀ j, j ≠ 1 → j ≠ 2 → j < 463 → g j = 0) (h1 : g 1 = tol) (h2 : g 2 = seed) (ht0 : 0 ≤ tol.toInt) (ht9 : tol.toInt ≤ 9) : ST tb mb 0 tol seed 0 0 0 R 0 U 0 V 0 T 0 E g := by
  have z : ∀ j, j ≠ 1 → j ≠ 2 → j < 463 → (g j).toInt = 0 := fun j a b c => by rw [hg j a b c]; rfl
  refine ⟨0, 0, 0, 0, 0, ⟨hg 0 (by decide) (by decide) (by decide), h1, h2, hg 7 (by decide) (by decide) (by decide), hg 9 (by decide) (by decide) (by decide)⟩, ⟨⟨ti_zero, by decide, hg 3 (by decide) (by decide) (by decide), fun i c hi => by omega⟩, fun i hi => by omega, fun _ => 0, fun i hi => by omega, fun i j hi hj => ?_⟩, ⟨⟨ti_zero, by decide, hg 4 (by decide) (by decide) (by decide), fun i c hi => by omega⟩, fun i hi => by omega⟩, ⟨⟨ti_zero, by decide, hg 5 (by decide) (by decide) (by decide), fun i c hi => by omega⟩, fun i hi => by omega⟩, ⟨ti_zero, by decide, hg 6 (by decide) (by decide) (by decide), fun i c hi => by omega⟩, ⟨ti_zero, by decide, hg 8 (by decide) (by decide) (by decide), fun i c hi => by omega⟩, ?_, fun i hi => by omega, fun i hi => by omega, fun i hi => by omega, fun i hi => by omega, fun i hi => by omega, fun i h1 h2 => hg _ (by omega) (by omega) (by omega)⟩
  · rw [hg _ (by omega) (by omega) (by omega), if_neg (fun z => by omega)]
  · unfold ZIN
    rw [z 0 (by decide) (by decide) (by decide), z 7 (by decide) (by decide) (by decide), h1]
    omega
/-- the whole text -/
theorem run_same {n : Nat} {ic ml : Int32} {ib mi : Nat → Int32} (h : INPn n ic ib ml mi) (st en kd va er ea : Int32) (tm tol seed made cot Rr : Int32) (R : Nat → Int32) (Ur : Int32) (U : Nat → Int32) (Vr : Int32) (V : Nat → Int32) (Tr : Int32) (T : Nat → Int32) (Er : Int32) (E : Nat → Int32) (po sq tk mv lt co pl : Int32) (g : Nat → Int32) : ∃ (st' en' kd' va' tk' mv' lt' er' ea' tm' tol' seed' made' cot' Rr' : Int32) (R' : Nat → Int32) (Ur' : Int32) (U' : Nat → Int32) (Vr' : Int32) (V' : Nat → Int32) (Tr' : Int32) (T' : Nat → Int32) (Er' : Int32) (E' g' : Nat → Int32), f_X1_run st en kd va er ea ic ib tm tol seed made cot Rr R Ur U Vr V Tr T Er E = some (if er' = 0 then 1 else 0, st', en', kd', va', er', ea', tm', tol', seed', made', cot', Rr', R', Ur', U', Vr', V', Tr', T', Er', E') ∧ f_X12_read ml po sq tk mv lt co pl g mi = some (en', st', tk', mv', lt', er', ea', g') ∧ (er' = 0 → ST 600000 600 tm' tol' seed' made' cot' Rr' R' Ur' U' Vr' V' Tr' T' Er' E' g') := by
  have hn := h.2.1
  obtain ⟨gz, k1, k2⟩ := zero_L 5000 0 0 g (by decide) (by omega) (by omega) (fun j hj => by omega)
  obtain ⟨a0, b0, st0, en0, kd0, va0, tk0, mv0, lt0, c0, m0, p01, p02, -, p04⟩ := take_same h (b := 0) (en := 0) (by decide) (Nat.zero_le n) st kd va sq tk mv lt
  have p0 : PST n mi a0 b0 st0 en0 kd0 va0 tk0 mv0 lt0 := ⟨p01, p02, p04⟩
  obtain ⟨cg, fg1, fg2, fg3, -⟩ := is_same (w := 22) h p0 (by decide)
  generalize hq : RQ st0 0 (-1) cg 1 = q
  obtain ⟨a1, b1, st1, en1, kd1, va1, tk1, mv1, lt1, c1, m1, p1, l1, w1⟩ := next_same h p0 q.1
  obtain ⟨a2, b2, st2, en2, kd2, va2, tk2, mv2, lt2, er2, ea2, v2, c2, m2, p2, l2, w2⟩ := number_same h p1 (lo := 0) (hi := 9) (l := 0) (u := 9) (by decide) (by decide) (by decide) q.1 q.2
  obtain ⟨a3, b3, st3, en3, kd3, va3, tk3, mv3, lt3, er3, ea3, v3, c3, m3, p3, l3, w3⟩ := number_same h p2 (lo := 0) (hi := 1023) (l := 0) (u := 1023) (by decide) (by decide) (by decide) er2 ea2
  obtain ⟨a4, b4, st4, en4, kd4, va4, tk4, mv4, lt4, er4, ea4, c4, m4, p4, l4, w4⟩ := finish_same h p3 er3 ea3
  have hM : ∀ (x : Int32 × Int32 × Int32 × Int32 × Int32 × Int32 × Int32 × (Nat → Int32)), f_X12_read_L89 ml mi 5000 en4 st4 tk4 mv4 lt4 er4 ea4 (upd (upd gz 1 v2) 2 v3) = some x → f_X12_read ml po sq tk mv lt co pl g mi = some x := fun x hx => by
    simp only [f_X12_read, k1, m0, fg2, check_m, hq, m1, m2, m3, m4, zW1, zW2, hx, ob_some]
  by_cases hz : er4 = 0
  · obtain ⟨x3, -⟩ := w4 hz
    obtain ⟨x2, -, f3, s3, t3⟩ := w3 x3
    obtain ⟨x1, -, f2, s2, t2⟩ := w2 x2
    have hST : ST (999 * a4) a4 0 va1 va2 0 0 0 R 0 U 0 V 0 T 0 E (upd (upd gz 1 v2) 2 v3) := empty_ST (fun j h1 h2 h3 => by rw [upd_ne h2, upd_ne h1]; exact k2 j h3) (by rw [upd_ne (by decide), upd_eq rfl, f2]) (by rw [upd_eq rfl, f3]) s2 t2
    obtain ⟨a', st', en', kd', va', tk', mv', lt', er', ea', tm', seed', made', cot', Rr', R', Ur', U', Vr', V', Tr', T', Er', E', g', d1, d2, d3⟩ := loop_L (tol := va1) h 5000 0 a4 b4 0 st4 en4 kd4 va4 tk4 mv4 lt4 er4 ea4 0 va2 0 0 0 R 0 U 0 V 0 T 0 E (upd (upd gz 1 v2) 2 v3) (by decide) (by omega) (by omega) p4 (fun _ => ⟨Nat.zero_le _, hST⟩)
    refine ⟨st', en', kd', va', tk', mv', lt', er', ea', tm', va1, seed', made', cot', Rr', R', Ur', U', Vr', V', Tr', T', Er', E', g', ?_, hM _ d2, fun z => ST.mono (d3 z).2 (by have := (d3 z).1; omega) (d3 z).1⟩
    simp only [f_X1_run, f_X5_begin, f_X6_removeAll, f_X1_readGate, ob_some, c0, fg1, require_c, hq, c1, c2, c3, c4, if_pos hz, i10, if_false, d1]
    by_cases he : er' = 0
    · rw [if_pos he, if_pos he]
    · rw [if_neg he, if_neg he]
  · obtain ⟨a', st', en', kd', va', tk', mv', lt', er', ea', tm', seed', made', cot', Rr', R', Ur', U', Vr', V', Tr', T', Er', E', g', d1, d2, d3⟩ := loop_L (tol := tol) h 5000 0 a4 b4 0 st4 en4 kd4 va4 tk4 mv4 lt4 er4 ea4 tm seed made cot Rr R Ur U Vr V Tr T Er E (upd (upd gz 1 v2) 2 v3) (by decide) (by omega) (by omega) p4 (fun z => absurd z hz)
    refine ⟨st', en', kd', va', tk', mv', lt', er', ea', tm', tol, seed', made', cot', Rr', R', Ur', U', Vr', V', Tr', T', Er', E', g', ?_, hM _ d2, fun z => ST.mono (d3 z).2 (by have := (d3 z).1; omega) (d3 z).1⟩
    simp only [f_X1_run, f_X5_begin, f_X6_removeAll, f_X1_readGate, ob_some, c0, fg1, require_c, hq, c1, c2, c3, c4, if_neg hz, if_true, d1]
    by_cases he : er' = 0
    · rw [if_pos he, if_pos he]
    · rw [if_neg he, if_neg he]
