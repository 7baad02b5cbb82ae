/-! PURE: both sides start alike. -/
theorem hinit : HINIT (REL 512) := by
  obtain ⟨o80, o81, o82, o83, o84, e0, e1, e2, e3, e4, hc, hb⟩ := texts_c
  obtain ⟨mi, hm1, hm2⟩ := text_m
  have hA : INPn 304 o84.1 o84.2 304 mi := ⟨by rw [hc]; decide, by decide, hc, fun k hk => ⟨by rw [hb k hk, hm2 k hk], by rw [hm2 k hk]; exact mi_b k hk⟩⟩
  have hB : INPn 304 o84.1 o84.2 304 MI := ⟨by rw [hc]; decide, by decide, hc, fun k hk => ⟨hb k hk, mi_b k hk⟩⟩
  have hC : INPn 304 304 MI 304 MI := ⟨by decide, by decide, rfl, fun k hk => ⟨rfl, mi_b k hk⟩⟩
  obtain ⟨st, en, kd, va, tk, mv, lt, er, ea, tm, tol, seed, made, cot, Rr, R, Ur, U, Vr, V, Tr, T, Er, E, g, c1, c2, c3⟩ := run_same hA 0 0 0 0 0 (-1) 0 0 0 0 0 0 (fun _ => 0) 0 (fun _ => 0) 0 (fun _ => 0) 0 (fun _ => 0) 0 (fun _ => 0) 0 0 0 0 0 0 (-1) (fun _ => 0)
  obtain ⟨st2, en2, kd2, va2, tk2, mv2, lt2, er2, ea2, tm2, tol2, seed2, made2, cot2, Rr2, R2, Ur2, U2, Vr2, V2, Tr2, T2, Er2, E2, g2, d1, d2, d3⟩ := run_same hB 0 0 0 0 0 (-1) 0 0 0 0 0 0 (fun _ => 0) 0 (fun _ => 0) 0 (fun _ => 0) 0 (fun _ => 0) 0 (fun _ => 0) 0 0 0 0 0 0 (-1) (fun _ => 0)
  obtain ⟨st3, en3, kd3, va3, tk3, mv3, lt3, er3, ea3, tm3, tol3, seed3, made3, cot3, Rr3, R3, Ur3, U3, Vr3, V3, Tr3, T3, Er3, E3, g3, f1, f2, f3⟩ := run_same hC 0 0 0 0 0 (-1) 0 0 0 0 0 0 (fun _ => 0) 0 (fun _ => 0) 0 (fun _ => 0) 0 (fun _ => 0) 0 (fun _ => 0) 0 0 0 0 0 0 (-1) (fun _ => 0)
  have h3 : er3 = 0 := by
    have h := first_ok
    rw [f1] at h
    have h4 : (if er3 = 0 then (1 : Int32) else 0) = 1 := Option.some.inj h
    refine Classical.byContradiction fun hn => ?_
    rw [if_neg hn] at h4
    exact absurd h4 (by decide)
  have h2 : er3 = er2 := congrArg (fun o => o.2.2.2.2.2.1) (Option.some.inj (f2.symm.trans d2))
  have h1 : er2 = er := congrArg (fun o => o.2.2.2.2.2.1) (Option.some.inj (d1.symm.trans c1))
  have her : er = 0 := by rw [← h1, ← h2, h3]
  have hst := (c3 her).mono (tb' := tbt 512) (mb' := mbt 512) (by decide) (by decide)
  have hcr : f_X12_copyRow 463 463 g (fun _ => 0) 0 0 = some (cpy g (fun _ => 0) 0 0) := copyRow_m (fn := 463) (tn := 463) (a := 0) (b := 0) (v1 := 0) (v3 := 0) (by decide) (by decide) (by decide) (by decide) (by decide) (by decide)
  have hst2 := hst.congr (g' := cpy g (fun _ => 0) 0 0) (fun j hj => by rw [cpy_in (i := j) (by omega) hj, Nat.zero_add])
  have z0 : (0 : Int32).toInt = ((0 : Nat) : Int) := by decide
  refine ⟨(0, o84.2, st, en, kd, va, er, ea, tm, tol, seed, made, cot, Rr, R, Ur, U, Vr, V, Tr, T, Er, E, tm, tol, seed, made, cot, Rr, R, Ur, U, Vr, V, Tr, T, Er, E), (en, st, tk, mv, lt, er, ea, cpy g (fun _ => 0) 0 0, g, mi), ?_, ?_, ?_⟩
  · simp only [f_X11_init, e0, e1, e2, e3, e4, c1, f_X0_cut, ob_some]
  · simp only [f_X12_init, hm1, c2, hcr, ob_some]
  · exact RELX.mk (show 512 ≤ 512 by decide) ⟨0, z0, by decide, rfl, fun k hk => absurd hk (Nat.not_lt_zero k)⟩ ⟨rfl, rfl⟩ ⟨0, z0, by decide, rfl, fun k hk => absurd hk (Nat.not_lt_zero k)⟩ hst2 (fun k hk => Or.inl ⟨rfl, rfl⟩) ⟨0, 0, by decide, by decide, z0, z0, z0, z0, fun j hj => absurd hj (Nat.not_lt_zero j)⟩
