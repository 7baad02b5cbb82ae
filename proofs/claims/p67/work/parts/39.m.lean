/-! PURE: what stands when the text is loaded. -/
theorem cot_zero (x y : Int32) : ((0 + x + y) - (x + y)) - (0 + 0 + 0) = 0 := by
  rw [Int32.zero_add, Int32.sub_self]
  rfl
theorem start_rel {ce : Nat → Nat} {pw : Nat → Nat} {x : FX} {R0 U0 V0 : Nat → Int32} (hpw : ∀ u, pw u = ce (5 + u) / 4 % 100) (e1 : FX.s_time x = 0) (e2 : FX.s_tolerance x = nI (ce 0 % 4)) (e3 : FX.s_seed x = nI (ce 0 / 4 % 1024)) (e4 : FX.s_madeTickets x = 0) (e5 : FX.s_cheesesOfText x = 0 + nI (ce 8 / 4 % 6) + nI (ce 9 / 4 % 6)) (e6 : FX.s_R_rows x = 3) (e7 : FX.s_R_cells x = RT9 (ce 4) (RR9 (ce 3) 2 (RR9 (ce 2) 1 (RR9 (ce 1) 0 R0)))) (e8 : FX.s_U_rows x = 3) (e9 : FX.s_U_cells x = UU9 (ce 7) 2 (UU9 (ce 6) 1 (UU9 (ce 5) 0 U0))) (e10 : FX.s_S_rows x = 2) (e11 : FX.s_S_cells x = VV9 (ce 9) 1 (VV9 (ce 8) 0 V0)) (e12 : FX.s_T_rows x = 0) (e13 : FX.s_E_rows x = 0) (e14 : FX.nextPast x = nI 1) : GD 0 0 pw (mkB (ce 4)) x (hInit ce) [] [] := by
  obtain ⟨⟨-, r1, r2, r3, r4⟩, ⟨-, r6, r7, r8, r9⟩, ⟨-, r11, r12, r13, r14⟩⟩ := rows3 (A := RR9 (ce 1) 0 R0) (B := RR9 (ce 2) 1 (RR9 (ce 1) 0 R0)) (C := RR9 (ce 3) 2 (RR9 (ce 2) 1 (RR9 (ce 1) 0 R0))) rfl rfl rfl
  obtain ⟨⟨-, u1, u2, u3, u4⟩, ⟨-, u6, u7, u8, u9⟩, ⟨-, u11, u12, u13, u14⟩⟩ := rows3 (A := UU9 (ce 5) 0 U0) (B := UU9 (ce 6) 1 (UU9 (ce 5) 0 U0)) (C := UU9 (ce 7) 2 (UU9 (ce 6) 1 (UU9 (ce 5) 0 U0))) rfl rfl rfl
  refine ⟨⟨⟨e1, e2, e3, e4⟩, ⟨e6, ?_, ?_⟩, ⟨e8, ?_⟩, ⟨e10, ?_⟩, ⟨e12, ?_⟩, ⟨e13, ?_⟩, 1, by decide, e14⟩, ?_⟩
  · intro i hi
    rw [e7, RT_ne (by omega), RT_ne (by omega), RT_ne (by omega)]
    match i, hi with
    | 0, _ => exact ⟨r1, r2, r3⟩
    | 1, _ => exact ⟨r6, r7, r8⟩
    | 2, _ => exact ⟨r11, r12, r13⟩
  · rw [e7]
    exact RT_mask r4 r9 r14
  · intro i hi
    rw [e9, hpw]
    match i, hi with
    | 0, _ => exact ⟨u1, u2, u3, u4⟩
    | 1, _ => exact ⟨u6, u7, u8, u9⟩
    | 2, _ => exact ⟨u11, u12, u13, u14⟩
  · intro i hi
    rw [e11]
    have n1 : ∀ j, j < 3 → VV9 (ce 9) 1 (VV9 (ce 8) 0 V0) j = VV9 (ce 8) 0 V0 j := fun j hj => rowV_ne (by omega)
    match i, hi with
    | 0, _ => exact ⟨(n1 1 (by decide)).trans (rowV_at (k := 0)).2.1, (n1 2 (by decide)).trans (rowV_at (k := 0)).2.2⟩
    | 1, _ => exact ⟨(rowV_at (k := 1)).2.1, (rowV_at (k := 1)).2.2⟩
  · intro i g h
    rw [List.getElem?_nil] at h
    cases h
  · intro i g h
    rw [List.getElem?_nil] at h
    cases h
  · refine ⟨⟨0, ce 0 % 4, by decide, rfl, Nat.mod_lt _ (by decide), rfl, fun w hw => nomatch hw⟩, ⟨0, by decide, rfl, fun w hw => nomatch hw⟩, List.Pairwise.nil, by decide, by decide, ?_, ?_, ?_⟩
    · intro i hi
      match i, hi with
      | 0, _ => exact ⟨⟨1 + ce 1 % 60, by omega, by omega, rfl⟩, ⟨ce 1 / 64 % 200, by omega, rfl⟩, ⟨ce 5 % 3, by omega, rfl⟩⟩
      | 1, _ => exact ⟨⟨1 + ce 2 % 60, by omega, by omega, rfl⟩, ⟨ce 2 / 64 % 200, by omega, rfl⟩, ⟨ce 6 % 3, by omega, rfl⟩⟩
      | 2, _ => exact ⟨⟨1 + ce 3 % 60, by omega, by omega, rfl⟩, ⟨ce 3 / 64 % 200, by omega, rfl⟩, ⟨ce 7 % 3, by omega, rfl⟩⟩
    · intro i hi
      match i, hi with
      | 0, _ => exact ⟨ce 8 % 3, by omega, rfl⟩
      | 1, _ => exact ⟨ce 9 % 3, by omega, rfl⟩
    · rw [e5]
      exact cot_zero _ _
theorem load_ok {np pc ic ps pe pk pv pr pa0 d1 d2 d3 d4 d5 d6 d7 d8 d9 d0 t1 t2 t3 t4 t5 t6 t7 t8 t9 t0 : Int32} {ib D6 D7 D8 D9 D0 T6 T7 T8 T9 T0 : Nat → Int32} {pa : Nat → Option SV} {s e k v er ea tm tol sd md ct rr ur sr tr er2 : Int32} {R U V T E : Nat → Int32} (hnp : np = nI 0) (hr : f_X1_run ps pe pk pv pr pa0 ic ib d1 d2 d3 d4 d5 d6 D6 d7 D7 d8 D8 d9 D9 d0 D0 = some (1, s, e, k, v, er, ea, tm, tol, sd, md, ct, rr, R, ur, U, sr, V, tr, T, er2, E)) : ∃ pc' pa', f_X11_load np pc ic ib ps pe pk pv pr pa0 d1 d2 d3 d4 d5 d6 D6 d7 D7 d8 D8 d9 D9 d0 D0 t1 t2 t3 t4 t5 t6 T6 t7 T7 t8 T8 t9 T9 t0 T0 pa = some (0, tr, nI 1, pc', 0, s, e, k, v, er, ea, tm, tol, sd, md, ct, rr, R, ur, U, sr, V, tr, T, er2, E, tm, tol, sd, md, ct, rr, R, ur, U, sr, V, tr, T, er2, E, pa') := by
  obtain ⟨pc', pa', h⟩ := remember_eq (a := 0) (np := np) (pc := pc) (s1 := t1) (s2 := t2) (s3 := t3) (s4 := t4) (s5 := t5) (s6 := t6) (c6 := T6) (s7 := t7) (c7 := T7) (s8 := t8) (c8 := T8) (s9 := t9) (c9 := T9) (s0 := t0) (c0 := T0) (pa := pa) (by decide) hnp
  refine ⟨pc', pa', ?_⟩
  unfold f_X11_load f_X0_cut f_X6_size
  rw [hr, Option.bind_some, Option.bind_some]
  dsimp only
  rw [if_neg (by decide), h, Option.bind_some]
  dsimp only
  rw [if_pos rfl, Option.bind_some]
theorem init_cnt : (f_X11_init.map (fun o => o.1)) = some 0 := by decide +kernel
