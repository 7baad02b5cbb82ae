theorem pure_all : ∀ (xs : Nat → Int32) (Ls : Nat), ASKED xs Ls := by
  intro xs Ls
  obtain ⟨oi, hoi⟩ := Option.isSome_iff_exists.mp init_some
  have hc : oi.1 = 0 := by
    have h := init_cnt
    rw [hoi] at h
    exact Option.some.inj h
  obtain ⟨hs, hI⟩ := says_ok (x := xInit oi) (txtA_len (scel xs Ls)) (txtA_lt (scel xs Ls)) hc
  obtain ⟨s, e, k, v, hr⟩ := run_all (ce := scel xs Ls) (ps := FX.p_start (xInit oi)) (pe := FX.p_end (xInit oi)) (pk := FX.p_kind (xInit oi)) (pv := FX.p_value (xInit oi)) (pr := FX.p_error (xInit oi)) (pa := FX.p_errorAt (xInit oi)) (tm := FX.p_d_time (xInit oi)) (tol := FX.p_d_tolerance (xInit oi)) (sd := FX.p_d_seed (xInit oi)) (md := FX.p_d_madeTickets (xInit oi)) (cot := FX.p_d_cheesesOfText (xInit oi)) (rr := FX.p_d_R_rows (xInit oi)) (R0 := FX.p_d_R_cells (xInit oi)) (ur := FX.p_d_U_rows (xInit oi)) (U0 := FX.p_d_U_cells (xInit oi)) (sr := FX.p_d_S_rows (xInit oi)) (V0 := FX.p_d_S_cells (xInit oi)) (tr := FX.p_d_T_rows (xInit oi)) (T := FX.p_d_T_cells (xInit oi)) (er := FX.p_d_E_rows (xInit oi)) (E := FX.p_d_E_cells (xInit oi)) rfl hI
  obtain ⟨pc', pa', hl⟩ := load_ok (np := 0) (pc := 0) (t1 := FX.s_time (xInit oi)) (t2 := FX.s_tolerance (xInit oi)) (t3 := FX.s_seed (xInit oi)) (t4 := FX.s_madeTickets (xInit oi)) (t5 := FX.s_cheesesOfText (xInit oi)) (t6 := FX.s_R_rows (xInit oi)) (T6 := FX.s_R_cells (xInit oi)) (t7 := FX.s_U_rows (xInit oi)) (T7 := FX.s_U_cells (xInit oi)) (t8 := FX.s_S_rows (xInit oi)) (T8 := FX.s_S_cells (xInit oi)) (t9 := FX.s_T_rows (xInit oi)) (T9 := FX.s_T_cells (xInit oi)) (t0 := FX.s_E_rows (xInit oi)) (T0 := FX.s_E_cells (xInit oi)) (pa := FX.pa (xInit oi)) rfl hr
  have hpw : ∀ u, (fun u => scel xs Ls (5 + u) / 4 % 100) u = scel xs Ls (5 + u) / 4 % 100 := fun _ => rfl
  refine ⟨oi, _, _, _, _, _, RELP (scel xs Ls 4) (fun u => scel xs Ls (5 + u) / 4 % 100) (mkB (scel xs Ls 4)), hoi, hs, hl, rfl, rfl, rfl, rfl, rfl, ?_, step_all hpw⟩
  refine ⟨Nat.le_refl _, mk_trs _, ?_⟩
  exact start_rel (R0 := FX.p_d_R_cells (xInit oi)) (U0 := FX.p_d_U_cells (xInit oi)) (V0 := FX.p_d_S_cells (xInit oi)) hpw rfl rfl rfl rfl rfl rfl rfl rfl rfl rfl rfl rfl rfl rfl
