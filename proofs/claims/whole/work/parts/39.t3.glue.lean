/-! PURE: what is asked of the calls that change the state. -/
theorem allow_in : f_X11_checkAllowed 0 = some 0 := if_pos rfl
theorem allow_out {a : Int32} (h : ¬ a = 0) : f_X11_checkAllowed a = some 3 := if_neg h
theorem ref0 (w : Int32) : f_X12_refuses 0 0 w = some (0, 0) := by
  unfold f_X12_refuses
  rw [if_pos rfl, ob_some, if_pos rfl]
theorem ref1 {w : Int32} (h : ¬ w = 0) : f_X12_refuses 0 1 w = some (1, w) := by
  unfold f_X12_refuses
  rw [if_neg n10, if_pos rfl, ob_some, if_neg h]
theorem i30' : ¬ ((3 : Int32) = 0) := by decide
theorem i20' : ¬ ((2 : Int32) = 0) := by decide
theorem le_of_nlt {v hi : Int32} (h : ¬ hi < v) : v ≤ hi := Int32.not_lt.mp h
theorem nle_of_lt {v hi : Int32} (h : hi < v) : ¬ v ≤ hi := Int32.not_le.mpr h
theorem hh49 (t : Nat) : H49 (REL (t + 1)) (REL t) := by
  intro nextPast pastCount i_count i_cells o_count o_cells p_start p_end p_kind p_value p_error p_errorAt p_d_time p_d_tolerance p_d_seed p_d_madeTickets p_d_cheesesOfText p_d_R_rows p_d_R_cells p_d_U_rows p_d_U_cells p_d_S_rows p_d_S_cells p_d_T_rows p_d_T_cells p_d_E_rows p_d_E_cells s_time s_tolerance s_seed s_madeTickets s_cheesesOfText s_R_rows s_R_cells s_U_rows s_U_cells s_S_rows s_S_cells s_T_rows s_T_cells s_E_rows s_E_cells sl pa m_undoable m_undoStart m_thrown m_inputLength m_position m_start m_token m_value m_letters m_code m_place m_outputLength m_s m_parsed m_tried m_remembered m_slots m_kept m_away m_input m_halfway m_output h
  have hX : RELX (t + 1) i_count i_cells m_inputLength m_input p_error m_code p_errorAt m_place o_count o_cells m_outputLength m_output s_time s_tolerance s_seed s_madeTickets s_cheesesOfText s_R_rows s_R_cells s_U_rows s_U_cells s_S_rows s_S_cells s_T_rows s_T_cells s_E_rows s_E_cells m_s sl m_slots m_kept nextPast pastCount pa m_undoable m_undoStart m_remembered := h
  obtain ⟨ht, hin, her, hou, hst, hsl, hun⟩ := hX
  have hst1 := hst.mono (tbt_le t) (mbt_le t)
  have hsl1 := hsl.mono (tbt_le t) (mbt_le t)
  have hun1 := hun.mono (tbt_le t) (mbt_le t)
  have htb := tbt_max (t + 1)
  have hmb := mbt_max (t + 1)
  have H := RELX.mk (show t ≤ 512 by omega) hin her hou hst1 hsl1 hun1
  intro v1 v2 v3 hv3
  obtain ⟨r, u, s, k, e, ⟨y0, y1, y2, y7, y9⟩, ⟨hR, hR2, hR3⟩, ⟨hU, hU2⟩, ⟨hS, hS2⟩, hT, hE, ⟨z1, z2, z3, z4, z5, z6⟩, hRI, hUI, hSI, hTI, hEI, hUZ⟩ := id hst
  obtain ⟨g3, g4, g5, g6, g8⟩ := ST_gs (tb := 0) (mb := 0) (tm := 0) (tol := 0) (seed := 0) (made := 0) (cot := 0) hR hU hS hT hE
  have ea : m_s 4 = s_U_rows := hU.2.2.1
  by_cases qa : v1 < 0 ∨ s_U_rows ≤ v1
  case pos =>
    refine ⟨(1, 0, nextPast, pastCount, s_seed, s_madeTickets, s_T_rows, s_T_cells, pa), (0, m_undoable, m_undoStart, 1, m_s, m_remembered), ?_, Or.inr (Or.inl rfl), ?_, rfl, (fun z => nomatch z), H⟩
    · simp only [f_X11_login, checkUser_out qa, ob_some, k10, if_false]
    · simp only [f_X12_login, noUser_out g4 (by rw [ea]; exact qa), ob_some, i10, if_false]
  have na : ¬ v1 < 0 := fun z => qa (Or.inl z)
  have ppa : ¬ s_U_rows ≤ v1 := fun z => qa (Or.inr z)
  obtain ⟨ia, la, ta⟩ := row_of hU.1 na ppa
  have ca : f_X11_checkUser s_U_rows v1 = some 0 := checkUser_in na ppa
  have ma : ∀ th, f_X12_noUser th m_s v1 = some (0, 0) := fun th => noUser_in g4 na (by rw [ea]; exact ppa)
  by_cases hp : v2 < 0 ∨ 9999 < v2
  case pos =>
    refine ⟨(2, 0, nextPast, pastCount, s_seed, s_madeTickets, s_T_rows, s_T_cells, pa), (0, m_undoable, m_undoStart, 2, m_s, m_remembered), ?_, Or.inr (Or.inr (Or.inl rfl)), ?_, rfl, (fun z => nomatch z), H⟩
    · simp only [f_X11_login, ca, pass_out hp, ob_some, k20, if_false, if_true]
    · simp only [f_X12_login, ma, out_out hp, ob_some, i10, if_false, if_true]
  have hp1 : ¬ v2 < 0 := fun z => hp (Or.inl z)
  have hp2 : ¬ 9999 < v2 := fun z => hp (Or.inr z)
  obtain ⟨a, ha1, ha2⟩ := login_why (pw := v2) hU hR hT hUI y1 ta la
  by_cases h0 : a = 0
  case neg =>
    refine ⟨(3, 0, nextPast, pastCount, s_seed, s_madeTickets, s_T_rows, s_T_cells, pa), (0, m_undoable, m_undoStart, 3, m_s, m_remembered), ?_, Or.inr (Or.inr (Or.inr rfl)), ?_, rfl, (fun z => nomatch z), H⟩
    · simp only [f_X11_login, ca, pass_in hp1 hp2, ha1, allow_out h0, ob_some, k30, if_false, if_true]
    · simp only [f_X12_login, ma, out_in hp1 hp2, ha2, ob_some, if_neg h0, ref1 i30', i10, if_false, if_true]
  subst h0
  have hf := login_ok hU.2.1 hR.2.1 hUI ta la ha2
  obtain ⟨nu, seed', made', Tr', T', g', hd1, hd2, hd0, hST'⟩ := login_do hst htb hmb (by rw [ta]; omega) (by rw [ta, g4]; omega) hf hv3
  obtain ⟨np', pc', pa', mu', us', mr', r1, r2, r3⟩ := remember_same hun hst
  refine ⟨(0, nu, np', pc', seed', made', Tr', T', pa'), (nu, mu', us', 0, g', mr'), ?_, Or.inl rfl, ?_, rfl, (fun _ => rfl), RELX.mk (show t ≤ 512 by omega) hin her hou (ST.mono hST' (tbt_le t) (Nat.le_of_eq (mbt_up ht))) hsl1 (r3.mono (tbt_le t) (mbt_le t))⟩
  · simp only [f_X11_login, ca, pass_in hp1 hp2, ha1, allow_in, r1, hd1, ob_some, if_true]
  · simp only [f_X12_login, ma, out_in hp1 hp2, ha2, ref0, r2, hd2, ob_some, if_true]
theorem hh50 (t : Nat) : H50 (REL (t + 1)) (REL t) := by
  intro nextPast pastCount i_count i_cells o_count o_cells p_start p_end p_kind p_value p_error p_errorAt p_d_time p_d_tolerance p_d_seed p_d_madeTickets p_d_cheesesOfText p_d_R_rows p_d_R_cells p_d_U_rows p_d_U_cells p_d_S_rows p_d_S_cells p_d_T_rows p_d_T_cells p_d_E_rows p_d_E_cells s_time s_tolerance s_seed s_madeTickets s_cheesesOfText s_R_rows s_R_cells s_U_rows s_U_cells s_S_rows s_S_cells s_T_rows s_T_cells s_E_rows s_E_cells sl pa m_undoable m_undoStart m_thrown m_inputLength m_position m_start m_token m_value m_letters m_code m_place m_outputLength m_s m_parsed m_tried m_remembered m_slots m_kept m_away m_input m_halfway m_output h
  have hX : RELX (t + 1) i_count i_cells m_inputLength m_input p_error m_code p_errorAt m_place o_count o_cells m_outputLength m_output s_time s_tolerance s_seed s_madeTickets s_cheesesOfText s_R_rows s_R_cells s_U_rows s_U_cells s_S_rows s_S_cells s_T_rows s_T_cells s_E_rows s_E_cells m_s sl m_slots m_kept nextPast pastCount pa m_undoable m_undoStart m_remembered := h
  obtain ⟨ht, hin, her, hou, hst, hsl, hun⟩ := hX
  have hst1 := hst.mono (tbt_le t) (mbt_le t)
  have hsl1 := hsl.mono (tbt_le t) (mbt_le t)
  have hun1 := hun.mono (tbt_le t) (mbt_le t)
  have htb := tbt_max (t + 1)
  have hmb := mbt_max (t + 1)
  have H := RELX.mk (show t ≤ 512 by omega) hin her hou hst1 hsl1 hun1
  intro v1 v2
  obtain ⟨r, u, s, k, e, ⟨y0, y1, y2, y7, y9⟩, ⟨hR, hR2, hR3⟩, ⟨hU, hU2⟩, ⟨hS, hS2⟩, hT, hE, ⟨z1, z2, z3, z4, z5, z6⟩, hRI, hUI, hSI, hTI, hEI, hUZ⟩ := id hst
  obtain ⟨g3, g4, g5, g6, g8⟩ := ST_gs (tb := 0) (mb := 0) (tm := 0) (tol := 0) (seed := 0) (made := 0) (cot := 0) hR hU hS hT hE
  obtain ⟨row, f1, f2, f3⟩ := find_all hT v1
  by_cases hq : row = -1
  case pos =>
    rw [hq] at f1 f2
    refine ⟨(4, 0, nextPast, pastCount, s_seed, s_madeTickets, s_T_rows, s_T_cells, pa), (0, m_undoable, m_undoStart, 1, m_s, m_remembered), ?_, Or.inr (Or.inl rfl), ?_, rfl, (fun z => nomatch z), H⟩
    · simp only [f_X11_refer, rowOf_none f1, ob_some, k40, if_false]
    · simp only [f_X12_refer, noTicket_none f2, ob_some, i10, if_false]
  obtain ⟨i, li, ti, -⟩ := f3.resolve_left hq
  have ct := rowOf_some f1 hq
  have mt : ∀ th, f_X12_noTicket th m_s v1 = some (0, 0) := fun th => noTicket_some f2 hq
  have li6 : (i : Int) < (m_s 6).toInt := by rw [g6]; omega
  have eb : m_s 3 = s_R_rows := hR.2.2.1
  have hb1 : ∀ v : Int32, m_s 3 - 1 < v ↔ s_R_rows ≤ v := fun v => by rw [below_one g3, eb]
  by_cases qb : v2 < 0 ∨ s_R_rows ≤ v2
  case pos =>
    refine ⟨(1, 0, nextPast, pastCount, s_seed, s_madeTickets, s_T_rows, s_T_cells, pa), (0, m_undoable, m_undoStart, 2, m_s, m_remembered), ?_, Or.inr (Or.inr (Or.inl rfl)), ?_, rfl, (fun z => nomatch z), H⟩
    · simp only [f_X11_refer, ct, checkRealm_out qb, ob_some, k10, if_false, if_true]
    · simp only [f_X12_refer, mt, zM3, out_out (qb.imp id (hb1 v2).mpr), ob_some, i10, if_false, if_true]
  have nb : ¬ v2 < 0 := fun z => qb (Or.inl z)
  have pb : ¬ s_R_rows ≤ v2 := fun z => qb (Or.inr z)
  obtain ⟨jb, lb, tb⟩ := row_of hR.1 nb pb
  have mo : f_X12_out 0 v2 0 (m_s 3 - 1) = some (0, 0) := out_in nb (fun z => pb ((hb1 v2).mp z))
  obtain ⟨a, ha1, ha2⟩ := refer_why hR hR3 hU hT hTI y0 y1 ti li tb lb
  by_cases h0 : a = 0
  case neg =>
    refine ⟨(3, 0, nextPast, pastCount, s_seed, s_madeTickets, s_T_rows, s_T_cells, pa), (0, m_undoable, m_undoStart, 3, m_s, m_remembered), ?_, Or.inr (Or.inr (Or.inr rfl)), ?_, rfl, (fun z => nomatch z), H⟩
    · simp only [f_X11_refer, ct, checkRealm_in nb pb, ha1, allow_out h0, ob_some, k30, if_false, if_true]
    · simp only [f_X12_refer, mt, zM3, mo, f2, ha2, ob_some, if_neg h0, ref1 i30', i10, if_false, if_true]
  subst h0
  have hf := refer_ok hR.2.1 hU.2.1 hT.2.1 hTI ti li tb lb ha2
  obtain ⟨nu, seed', made', Tr', T', g', hd1, hd2, hd0, hST'⟩ := refer_do hst htb hmb ti li6 (by rw [tb]; omega) (by rw [tb, g3]; omega) hf
  obtain ⟨np', pc', pa', mu', us', mr', r1, r2, r3⟩ := remember_same hun hst
  refine ⟨(0, nu, np', pc', seed', made', Tr', T', pa'), (nu, mu', us', 0, g', mr'), ?_, Or.inl rfl, ?_, rfl, (fun _ => rfl), RELX.mk (show t ≤ 512 by omega) hin her hou (ST.mono hST' (tbt_le t) (Nat.le_of_eq (mbt_up ht))) hsl1 (r3.mono (tbt_le t) (mbt_le t))⟩
  · simp only [f_X11_refer, ct, checkRealm_in nb pb, ha1, allow_in, r1, hd1, ob_some, if_true]
  · simp only [f_X12_refer, mt, zM3, mo, f2, ha2, ref0, r2, hd2, ob_some, if_true]
theorem hh51 (t : Nat) : H51 (REL (t + 1)) (REL t) := by
  intro nextPast pastCount i_count i_cells o_count o_cells p_start p_end p_kind p_value p_error p_errorAt p_d_time p_d_tolerance p_d_seed p_d_madeTickets p_d_cheesesOfText p_d_R_rows p_d_R_cells p_d_U_rows p_d_U_cells p_d_S_rows p_d_S_cells p_d_T_rows p_d_T_cells p_d_E_rows p_d_E_cells s_time s_tolerance s_seed s_madeTickets s_cheesesOfText s_R_rows s_R_cells s_U_rows s_U_cells s_S_rows s_S_cells s_T_rows s_T_cells s_E_rows s_E_cells sl pa m_undoable m_undoStart m_thrown m_inputLength m_position m_start m_token m_value m_letters m_code m_place m_outputLength m_s m_parsed m_tried m_remembered m_slots m_kept m_away m_input m_halfway m_output h
  have hX : RELX (t + 1) i_count i_cells m_inputLength m_input p_error m_code p_errorAt m_place o_count o_cells m_outputLength m_output s_time s_tolerance s_seed s_madeTickets s_cheesesOfText s_R_rows s_R_cells s_U_rows s_U_cells s_S_rows s_S_cells s_T_rows s_T_cells s_E_rows s_E_cells m_s sl m_slots m_kept nextPast pastCount pa m_undoable m_undoStart m_remembered := h
  obtain ⟨ht, hin, her, hou, hst, hsl, hun⟩ := hX
  have hst1 := hst.mono (tbt_le t) (mbt_le t)
  have hsl1 := hsl.mono (tbt_le t) (mbt_le t)
  have hun1 := hun.mono (tbt_le t) (mbt_le t)
  have htb := tbt_max (t + 1)
  have hmb := mbt_max (t + 1)
  have H := RELX.mk (show t ≤ 512 by omega) hin her hou hst1 hsl1 hun1
  intro v1 v2
  obtain ⟨r, u, s, k, e, ⟨y0, y1, y2, y7, y9⟩, ⟨hR, hR2, hR3⟩, ⟨hU, hU2⟩, ⟨hS, hS2⟩, hT, hE, ⟨z1, z2, z3, z4, z5, z6⟩, hRI, hUI, hSI, hTI, hEI, hUZ⟩ := id hst
  obtain ⟨g3, g4, g5, g6, g8⟩ := ST_gs (tb := 0) (mb := 0) (tm := 0) (tol := 0) (seed := 0) (made := 0) (cot := 0) hR hU hS hT hE
  obtain ⟨row, f1, f2, f3⟩ := find_all hT v1
  by_cases hq : row = -1
  case pos =>
    rw [hq] at f1 f2
    refine ⟨(4, 0, nextPast, pastCount, s_seed, s_madeTickets, s_T_rows, s_T_cells, pa), (0, m_undoable, m_undoStart, 1, m_s, m_remembered), ?_, Or.inr (Or.inl rfl), ?_, rfl, (fun z => nomatch z), H⟩
    · simp only [f_X11_request, rowOf_none f1, ob_some, k40, if_false]
    · simp only [f_X12_request, noTicket_none f2, ob_some, i10, if_false]
  obtain ⟨i, li, ti, -⟩ := f3.resolve_left hq
  have ct := rowOf_some f1 hq
  have mt : ∀ th, f_X12_noTicket th m_s v1 = some (0, 0) := fun th => noTicket_some f2 hq
  have li6 : (i : Int) < (m_s 6).toInt := by rw [g6]; omega
  have eb : m_s 5 = s_S_rows := hS.2.2.1
  have hb1 : ∀ v : Int32, m_s 5 - 1 < v ↔ s_S_rows ≤ v := fun v => by rw [below_one g5, eb]
  by_cases qb : v2 < 0 ∨ s_S_rows ≤ v2
  case pos =>
    refine ⟨(1, 0, nextPast, pastCount, s_seed, s_madeTickets, s_T_rows, s_T_cells, pa), (0, m_undoable, m_undoStart, 2, m_s, m_remembered), ?_, Or.inr (Or.inr (Or.inl rfl)), ?_, rfl, (fun z => nomatch z), H⟩
    · simp only [f_X11_request, ct, checkService_out qb, ob_some, k10, if_false, if_true]
    · simp only [f_X12_request, mt, zM5, out_out (qb.imp id (hb1 v2).mpr), ob_some, i10, if_false, if_true]
  have nb : ¬ v2 < 0 := fun z => qb (Or.inl z)
  have pb : ¬ s_S_rows ≤ v2 := fun z => qb (Or.inr z)
  obtain ⟨jb, lb, tb⟩ := row_of hS.1 nb pb
  have mo : f_X12_out 0 v2 0 (m_s 5 - 1) = some (0, 0) := out_in nb (fun z => pb ((hb1 v2).mp z))
  obtain ⟨a, ha1, ha2⟩ := request_why hR hU hS hT hTI y0 y1 ti li tb lb
  by_cases h0 : a = 0
  case neg =>
    refine ⟨(3, 0, nextPast, pastCount, s_seed, s_madeTickets, s_T_rows, s_T_cells, pa), (0, m_undoable, m_undoStart, 3, m_s, m_remembered), ?_, Or.inr (Or.inr (Or.inr rfl)), ?_, rfl, (fun z => nomatch z), H⟩
    · simp only [f_X11_request, ct, checkService_in nb pb, ha1, allow_out h0, ob_some, k30, if_false, if_true]
    · simp only [f_X12_request, mt, zM5, mo, f2, ha2, ob_some, if_neg h0, ref1 i30', i10, if_false, if_true]
  subst h0
  obtain ⟨hf, hre⟩ := request_ok hR.2.1 hU.2.1 hS.2.1 hT.2.1 hTI ti li tb lb ha2
  obtain ⟨nu, seed', made', Tr', T', g', hd1, hd2, hd0, hST'⟩ := request_do hst htb hmb ti li6 (by rw [tb]; omega) (by rw [tb, g5]; omega) hf
  rw [hre] at hd2
  obtain ⟨np', pc', pa', mu', us', mr', r1, r2, r3⟩ := remember_same hun hst
  refine ⟨(0, nu, np', pc', seed', made', Tr', T', pa'), (nu, mu', us', 0, g', mr'), ?_, Or.inl rfl, ?_, rfl, (fun _ => rfl), RELX.mk (show t ≤ 512 by omega) hin her hou (ST.mono hST' (tbt_le t) (Nat.le_of_eq (mbt_up ht))) hsl1 (r3.mono (tbt_le t) (mbt_le t))⟩
  · simp only [f_X11_request, ct, checkService_in nb pb, ha1, allow_in, r1, hd1, ob_some, if_true]
  · simp only [f_X12_request, mt, zM5, mo, f2, ha2, ref0, r2, f_X12_ofService, vM1 tb (Nat.lt_of_lt_of_le lb hS.2.1), hd2, ob_some, if_true]
theorem hh52 (t : Nat) : H52 (REL (t + 1)) (REL t) := by
  intro nextPast pastCount i_count i_cells o_count o_cells p_start p_end p_kind p_value p_error p_errorAt p_d_time p_d_tolerance p_d_seed p_d_madeTickets p_d_cheesesOfText p_d_R_rows p_d_R_cells p_d_U_rows p_d_U_cells p_d_S_rows p_d_S_cells p_d_T_rows p_d_T_cells p_d_E_rows p_d_E_cells s_time s_tolerance s_seed s_madeTickets s_cheesesOfText s_R_rows s_R_cells s_U_rows s_U_cells s_S_rows s_S_cells s_T_rows s_T_cells s_E_rows s_E_cells sl pa m_undoable m_undoStart m_thrown m_inputLength m_position m_start m_token m_value m_letters m_code m_place m_outputLength m_s m_parsed m_tried m_remembered m_slots m_kept m_away m_input m_halfway m_output h
  have hX : RELX (t + 1) i_count i_cells m_inputLength m_input p_error m_code p_errorAt m_place o_count o_cells m_outputLength m_output s_time s_tolerance s_seed s_madeTickets s_cheesesOfText s_R_rows s_R_cells s_U_rows s_U_cells s_S_rows s_S_cells s_T_rows s_T_cells s_E_rows s_E_cells m_s sl m_slots m_kept nextPast pastCount pa m_undoable m_undoStart m_remembered := h
  obtain ⟨ht, hin, her, hou, hst, hsl, hun⟩ := hX
  have hst1 := hst.mono (tbt_le t) (mbt_le t)
  have hsl1 := hsl.mono (tbt_le t) (mbt_le t)
  have hun1 := hun.mono (tbt_le t) (mbt_le t)
  have htb := tbt_max (t + 1)
  have hmb := mbt_max (t + 1)
  have H := RELX.mk (show t ≤ 512 by omega) hin her hou hst1 hsl1 hun1
  intro v1
  obtain ⟨r, u, s, k, e, ⟨y0, y1, y2, y7, y9⟩, ⟨hR, hR2, hR3⟩, ⟨hU, hU2⟩, ⟨hS, hS2⟩, hT, hE, ⟨z1, z2, z3, z4, z5, z6⟩, hRI, hUI, hSI, hTI, hEI, hUZ⟩ := id hst
  obtain ⟨g3, g4, g5, g6, g8⟩ := ST_gs (tb := 0) (mb := 0) (tm := 0) (tol := 0) (seed := 0) (made := 0) (cot := 0) hR hU hS hT hE
  obtain ⟨row, f1, f2, f3⟩ := find_all hT v1
  by_cases hq : row = -1
  case pos =>
    rw [hq] at f1 f2
    refine ⟨(4, 0, nextPast, pastCount, s_seed, s_T_cells, pa), (0, m_undoable, m_undoStart, 1, m_s, m_remembered), ?_, Or.inr (Or.inl rfl), ?_, rfl, (fun z => nomatch z), H⟩
    · simp only [f_X11_renew, rowOf_none f1, ob_some, k40, if_false]
    · simp only [f_X12_renew, noTicket_none f2, ob_some, i10, if_false]
  obtain ⟨i, li, ti, -⟩ := f3.resolve_left hq
  have ct := rowOf_some f1 hq
  have mt : ∀ th, f_X12_noTicket th m_s v1 = some (0, 0) := fun th => noTicket_some f2 hq
  have li6 : (i : Int) < (m_s 6).toInt := by rw [g6]; omega
  obtain ⟨a, ha1, ha2⟩ := renew_why hR hT hTI y0 ti li
  by_cases h0 : a = 0
  case neg =>
    refine ⟨(3, 0, nextPast, pastCount, s_seed, s_T_cells, pa), (0, m_undoable, m_undoStart, 2, m_s, m_remembered), ?_, Or.inr (Or.inr rfl), ?_, rfl, (fun z => nomatch z), H⟩
    · simp only [f_X11_renew, ct, ha1, allow_out h0, ob_some, k30, if_false, if_true]
    · simp only [f_X12_renew, mt, f2, ha2, ob_some, if_neg h0, ref1 i20', i10, if_false, if_true]
  subst h0
  obtain ⟨nu, seed', T', g', hd1, hd2, hd0, hST'⟩ := renew_do hst htb ti li6
  obtain ⟨np', pc', pa', mu', us', mr', r1, r2, r3⟩ := remember_same hun hst
  refine ⟨(0, nu, np', pc', seed', T', pa'), (nu, mu', us', 0, g', mr'), ?_, Or.inl rfl, ?_, rfl, (fun _ => rfl), RELX.mk (show t ≤ 512 by omega) hin her hou (ST.mono hST' (tbt_le t) (mbt_le t)) hsl1 (r3.mono (tbt_le t) (mbt_le t))⟩
  · simp only [f_X11_renew, ct, ha1, allow_in, r1, hd1, ob_some, if_true]
  · simp only [f_X12_renew, mt, f2, ha2, ref0, r2, hd2, ob_some, if_true]
theorem hh53 (t : Nat) : H53 (REL (t + 1)) (REL t) := by
  intro nextPast pastCount i_count i_cells o_count o_cells p_start p_end p_kind p_value p_error p_errorAt p_d_time p_d_tolerance p_d_seed p_d_madeTickets p_d_cheesesOfText p_d_R_rows p_d_R_cells p_d_U_rows p_d_U_cells p_d_S_rows p_d_S_cells p_d_T_rows p_d_T_cells p_d_E_rows p_d_E_cells s_time s_tolerance s_seed s_madeTickets s_cheesesOfText s_R_rows s_R_cells s_U_rows s_U_cells s_S_rows s_S_cells s_T_rows s_T_cells s_E_rows s_E_cells sl pa m_undoable m_undoStart m_thrown m_inputLength m_position m_start m_token m_value m_letters m_code m_place m_outputLength m_s m_parsed m_tried m_remembered m_slots m_kept m_away m_input m_halfway m_output h
  have hX : RELX (t + 1) i_count i_cells m_inputLength m_input p_error m_code p_errorAt m_place o_count o_cells m_outputLength m_output s_time s_tolerance s_seed s_madeTickets s_cheesesOfText s_R_rows s_R_cells s_U_rows s_U_cells s_S_rows s_S_cells s_T_rows s_T_cells s_E_rows s_E_cells m_s sl m_slots m_kept nextPast pastCount pa m_undoable m_undoStart m_remembered := h
  obtain ⟨ht, hin, her, hou, hst, hsl, hun⟩ := hX
  have hst1 := hst.mono (tbt_le t) (mbt_le t)
  have hsl1 := hsl.mono (tbt_le t) (mbt_le t)
  have hun1 := hun.mono (tbt_le t) (mbt_le t)
  have htb := tbt_max (t + 1)
  have hmb := mbt_max (t + 1)
  have H := RELX.mk (show t ≤ 512 by omega) hin her hou hst1 hsl1 hun1
  intro v1
  obtain ⟨r, u, s, k, e, ⟨y0, y1, y2, y7, y9⟩, ⟨hR, hR2, hR3⟩, ⟨hU, hU2⟩, ⟨hS, hS2⟩, hT, hE, ⟨z1, z2, z3, z4, z5, z6⟩, hRI, hUI, hSI, hTI, hEI, hUZ⟩ := id hst
  obtain ⟨g3, g4, g5, g6, g8⟩ := ST_gs (tb := 0) (mb := 0) (tm := 0) (tol := 0) (seed := 0) (made := 0) (cot := 0) hR hU hS hT hE
  obtain ⟨row, f1, f2, f3⟩ := find_all hT v1
  by_cases hq : row = -1
  case pos =>
    rw [hq] at f1 f2
    refine ⟨(4, 0, nextPast, pastCount, s_U_cells, s_S_cells, s_E_rows, s_E_cells, pa), (0, m_undoable, m_undoStart, 1, m_s, m_remembered), ?_, Or.inr (Or.inl rfl), ?_, rfl, (fun z => nomatch z), H⟩
    · simp only [f_X11_cheese, rowOf_none f1, ob_some, k40, if_false]
    · simp only [f_X12_cheese, noTicket_none f2, ob_some, i10, if_false]
  obtain ⟨i, li, ti, -⟩ := f3.resolve_left hq
  have ct := rowOf_some f1 hq
  have mt : ∀ th, f_X12_noTicket th m_s v1 = some (0, 0) := fun th => noTicket_some f2 hq
  have li6 : (i : Int) < (m_s 6).toInt := by rw [g6]; omega
  obtain ⟨a, ha1, ha2⟩ := cheese_now hst htb ti li6
  by_cases h0 : a = 0
  case neg =>
    refine ⟨(3, 0, nextPast, pastCount, s_U_cells, s_S_cells, s_E_rows, s_E_cells, pa), (0, m_undoable, m_undoStart, 2, m_s, m_remembered), ?_, Or.inr (Or.inr rfl), ?_, rfl, (fun z => nomatch z), H⟩
    · simp only [f_X11_cheese, ct, ha1, allow_out h0, ob_some, k30, if_false, if_true]
    · simp only [f_X12_cheese, mt, f2, ha2, ob_some, if_neg h0, ref1 i20', i10, if_false, if_true]
  subst h0
  have hk1 := cheese_ok ti (Nat.lt_of_lt_of_le li hT.2.1) ha2
  obtain ⟨nu, U', V', Er', E', g', hd1, hd2, hd0, hST'⟩ := cheese_do hst htb hmb ti li6 hk1
  obtain ⟨np', pc', pa', mu', us', mr', r1, r2, r3⟩ := remember_same hun hst
  refine ⟨(0, nu, np', pc', U', V', Er', E', pa'), (nu, mu', us', 0, g', mr'), ?_, Or.inl rfl, ?_, rfl, (fun _ => rfl), RELX.mk (show t ≤ 512 by omega) hin her hou (ST.mono hST' (tbt_le t) (Nat.le_of_eq (mbt_up ht))) hsl1 (r3.mono (tbt_le t) (mbt_le t))⟩
  · simp only [f_X11_cheese, ct, ha1, allow_in, r1, hd1, ob_some, if_true]
  · simp only [f_X12_cheese, mt, f2, ha2, ref0, r2, hd2, ob_some, if_true]
theorem hh54 (t : Nat) : H54 (REL (t + 1)) (REL t) := by
  intro nextPast pastCount i_count i_cells o_count o_cells p_start p_end p_kind p_value p_error p_errorAt p_d_time p_d_tolerance p_d_seed p_d_madeTickets p_d_cheesesOfText p_d_R_rows p_d_R_cells p_d_U_rows p_d_U_cells p_d_S_rows p_d_S_cells p_d_T_rows p_d_T_cells p_d_E_rows p_d_E_cells s_time s_tolerance s_seed s_madeTickets s_cheesesOfText s_R_rows s_R_cells s_U_rows s_U_cells s_S_rows s_S_cells s_T_rows s_T_cells s_E_rows s_E_cells sl pa m_undoable m_undoStart m_thrown m_inputLength m_position m_start m_token m_value m_letters m_code m_place m_outputLength m_s m_parsed m_tried m_remembered m_slots m_kept m_away m_input m_halfway m_output h
  have hX : RELX (t + 1) i_count i_cells m_inputLength m_input p_error m_code p_errorAt m_place o_count o_cells m_outputLength m_output s_time s_tolerance s_seed s_madeTickets s_cheesesOfText s_R_rows s_R_cells s_U_rows s_U_cells s_S_rows s_S_cells s_T_rows s_T_cells s_E_rows s_E_cells m_s sl m_slots m_kept nextPast pastCount pa m_undoable m_undoStart m_remembered := h
  obtain ⟨ht, hin, her, hou, hst, hsl, hun⟩ := hX
  have hst1 := hst.mono (tbt_le t) (mbt_le t)
  have hsl1 := hsl.mono (tbt_le t) (mbt_le t)
  have hun1 := hun.mono (tbt_le t) (mbt_le t)
  have htb := tbt_max (t + 1)
  have hmb := mbt_max (t + 1)
  have H := RELX.mk (show t ≤ 512 by omega) hin her hou hst1 hsl1 hun1
  intro v1
  obtain ⟨r, u, s, k, e, ⟨y0, y1, y2, y7, y9⟩, ⟨hR, hR2, hR3⟩, ⟨hU, hU2⟩, ⟨hS, hS2⟩, hT, hE, ⟨z1, z2, z3, z4, z5, z6⟩, hRI, hUI, hSI, hTI, hEI, hUZ⟩ := id hst
  obtain ⟨g3, g4, g5, g6, g8⟩ := ST_gs (tb := 0) (mb := 0) (tm := 0) (tol := 0) (seed := 0) (made := 0) (cot := 0) hR hU hS hT hE
  obtain ⟨row, f1, f2, f3⟩ := find_all hT v1
  by_cases hq : row = -1
  case pos =>
    rw [hq] at f1 f2
    refine ⟨(4, 0, nextPast, pastCount, s_T_rows, s_T_cells, pa), (0, m_undoable, m_undoStart, 1, m_s, m_remembered), ?_, Or.inr rfl, ?_, rfl, (fun z => nomatch z), H⟩
    · simp only [f_X11_drop, rowOf_none f1, ob_some, k40, if_false]
    · simp only [f_X12_drop, noTicket_none f2, ob_some, i10, if_false]
  obtain ⟨i, li, ti, -⟩ := f3.resolve_left hq
  have ct := rowOf_some f1 hq
  have mt : ∀ th, f_X12_noTicket th m_s v1 = some (0, 0) := fun th => noTicket_some f2 hq
  have li6 : (i : Int) < (m_s 6).toInt := by rw [g6]; omega
  obtain ⟨Tr', T', g', hd1, hd2, -, -, -, hST'⟩ := drop_do hst ti li6
  obtain ⟨np', pc', pa', mu', us', mr', r1, r2, r3⟩ := remember_same hun hst
  refine ⟨(0, Tr', np', pc', Tr', T', pa'), (Tr', mu', us', 0, g', mr'), ?_, Or.inl rfl, ?_, rfl, (fun _ => rfl), RELX.mk (show t ≤ 512 by omega) hin her hou (ST.mono hST' (tbt_le t) (mbt_le t)) hsl1 (r3.mono (tbt_le t) (mbt_le t))⟩
  · simp only [f_X11_drop, f_X6_size, ct, r1, hd1, ob_some, if_true]
  · simp only [f_X12_drop, mt, f2, r2, hd2, ob_some, if_true]
theorem hh55 (t : Nat) : H55 (REL (t + 1)) (REL t) := by
  intro nextPast pastCount i_count i_cells o_count o_cells p_start p_end p_kind p_value p_error p_errorAt p_d_time p_d_tolerance p_d_seed p_d_madeTickets p_d_cheesesOfText p_d_R_rows p_d_R_cells p_d_U_rows p_d_U_cells p_d_S_rows p_d_S_cells p_d_T_rows p_d_T_cells p_d_E_rows p_d_E_cells s_time s_tolerance s_seed s_madeTickets s_cheesesOfText s_R_rows s_R_cells s_U_rows s_U_cells s_S_rows s_S_cells s_T_rows s_T_cells s_E_rows s_E_cells sl pa m_undoable m_undoStart m_thrown m_inputLength m_position m_start m_token m_value m_letters m_code m_place m_outputLength m_s m_parsed m_tried m_remembered m_slots m_kept m_away m_input m_halfway m_output h
  have hX : RELX (t + 1) i_count i_cells m_inputLength m_input p_error m_code p_errorAt m_place o_count o_cells m_outputLength m_output s_time s_tolerance s_seed s_madeTickets s_cheesesOfText s_R_rows s_R_cells s_U_rows s_U_cells s_S_rows s_S_cells s_T_rows s_T_cells s_E_rows s_E_cells m_s sl m_slots m_kept nextPast pastCount pa m_undoable m_undoStart m_remembered := h
  obtain ⟨ht, hin, her, hou, hst, hsl, hun⟩ := hX
  have hst1 := hst.mono (tbt_le t) (mbt_le t)
  have hsl1 := hsl.mono (tbt_le t) (mbt_le t)
  have hun1 := hun.mono (tbt_le t) (mbt_le t)
  have htb := tbt_max (t + 1)
  have hmb := mbt_max (t + 1)
  have H := RELX.mk (show t ≤ 512 by omega) hin her hou hst1 hsl1 hun1
  obtain ⟨r, u, s, k, e, ⟨y0, y1, y2, y7, y9⟩, ⟨hR, hR2, hR3⟩, ⟨hU, hU2⟩, ⟨hS, hS2⟩, hT, hE, ⟨z1, z2, z3, z4, z5, z6⟩, hRI, hUI, hSI, hTI, hEI, hUZ⟩ := id hst
  obtain ⟨g3, g4, g5, g6, g8⟩ := ST_gs (tb := 0) (mb := 0) (tm := 0) (tol := 0) (seed := 0) (made := 0) (cot := 0) hR hU hS hT hE
  obtain ⟨nu, Tr', T', g', hd1, hd2, -, hST'⟩ := sweep_do hst
  obtain ⟨np', pc', pa', mu', us', mr', r1, r2, r3⟩ := remember_same hun hst
  refine ⟨(0, nu, np', pc', Tr', T', pa'), (nu, mu', us', 0, g', mr'), ?_, rfl, ?_, rfl, RELX.mk (show t ≤ 512 by omega) hin her hou (ST.mono hST' (tbt_le t) (mbt_le t)) hsl1 (r3.mono (tbt_le t) (mbt_le t))⟩
  · simp only [f_X11_sweep, r1, hd1, ob_some, if_true]
  · simp only [f_X12_sweep, r2, hd2, ob_some]
theorem hh56 (t : Nat) : H56 (REL (t + 1)) (REL t) := by
  intro nextPast pastCount i_count i_cells o_count o_cells p_start p_end p_kind p_value p_error p_errorAt p_d_time p_d_tolerance p_d_seed p_d_madeTickets p_d_cheesesOfText p_d_R_rows p_d_R_cells p_d_U_rows p_d_U_cells p_d_S_rows p_d_S_cells p_d_T_rows p_d_T_cells p_d_E_rows p_d_E_cells s_time s_tolerance s_seed s_madeTickets s_cheesesOfText s_R_rows s_R_cells s_U_rows s_U_cells s_S_rows s_S_cells s_T_rows s_T_cells s_E_rows s_E_cells sl pa m_undoable m_undoStart m_thrown m_inputLength m_position m_start m_token m_value m_letters m_code m_place m_outputLength m_s m_parsed m_tried m_remembered m_slots m_kept m_away m_input m_halfway m_output h
  have hX : RELX (t + 1) i_count i_cells m_inputLength m_input p_error m_code p_errorAt m_place o_count o_cells m_outputLength m_output s_time s_tolerance s_seed s_madeTickets s_cheesesOfText s_R_rows s_R_cells s_U_rows s_U_cells s_S_rows s_S_cells s_T_rows s_T_cells s_E_rows s_E_cells m_s sl m_slots m_kept nextPast pastCount pa m_undoable m_undoStart m_remembered := h
  obtain ⟨ht, hin, her, hou, hst, hsl, hun⟩ := hX
  have hst1 := hst.mono (tbt_le t) (mbt_le t)
  have hsl1 := hsl.mono (tbt_le t) (mbt_le t)
  have hun1 := hun.mono (tbt_le t) (mbt_le t)
  have htb := tbt_max (t + 1)
  have hmb := mbt_max (t + 1)
  have H := RELX.mk (show t ≤ 512 by omega) hin her hou hst1 hsl1 hun1
  intro v1 v2
  obtain ⟨r, u, s, k, e, ⟨y0, y1, y2, y7, y9⟩, ⟨hR, hR2, hR3⟩, ⟨hU, hU2⟩, ⟨hS, hS2⟩, hT, hE, ⟨z1, z2, z3, z4, z5, z6⟩, hRI, hUI, hSI, hTI, hEI, hUZ⟩ := id hst
  obtain ⟨g3, g4, g5, g6, g8⟩ := ST_gs (tb := 0) (mb := 0) (tm := 0) (tol := 0) (seed := 0) (made := 0) (cot := 0) hR hU hS hT hE
  have ea : m_s 4 = s_U_rows := hU.2.2.1
  by_cases qa : v1 < 0 ∨ s_U_rows ≤ v1
  case pos =>
    refine ⟨(1, 0, nextPast, pastCount, s_U_cells, pa), (0, m_undoable, m_undoStart, 1, m_s, m_remembered), ?_, Or.inr (Or.inl rfl), ?_, rfl, (fun z => nomatch z), H⟩
    · simp only [f_X11_setPassword, checkUser_out qa, ob_some, k10, if_false]
    · simp only [f_X12_setPassword, noUser_out g4 (by rw [ea]; exact qa), ob_some, i10, if_false]
  have na : ¬ v1 < 0 := fun z => qa (Or.inl z)
  have ppa : ¬ s_U_rows ≤ v1 := fun z => qa (Or.inr z)
  obtain ⟨ia, la, ta⟩ := row_of hU.1 na ppa
  have ca : f_X11_checkUser s_U_rows v1 = some 0 := checkUser_in na ppa
  have ma : ∀ th, f_X12_noUser th m_s v1 = some (0, 0) := fun th => noUser_in g4 na (by rw [ea]; exact ppa)
  by_cases hp : v2 < 0 ∨ 9999 < v2
  case pos =>
    refine ⟨(2, 0, nextPast, pastCount, s_U_cells, pa), (0, m_undoable, m_undoStart, 2, m_s, m_remembered), ?_, Or.inr (Or.inr rfl), ?_, rfl, (fun z => nomatch z), H⟩
    · simp only [f_X11_setPassword, ca, pass_out hp, ob_some, k20, if_false, if_true]
    · simp only [f_X12_setPassword, ma, out_out hp, ob_some, i10, if_false, if_true]
  have hp1 : ¬ v2 < 0 := fun z => hp (Or.inl z)
  have hp2 : ¬ 9999 < v2 := fun z => hp (Or.inr z)
  obtain ⟨nu, U', g', hd1, hd2, hd3, hd4, hST'⟩ := set_password (v := v2) hst ta (by rw [g4]; omega)
  obtain ⟨np', pc', pa', mu', us', mr', r1, r2, r3⟩ := remember_same hun hst
  refine ⟨(0, nu, np', pc', U', pa'), (nu, mu', us', 0, g', mr'), ?_, Or.inl rfl, ?_, rfl, (fun _ => rfl), RELX.mk (show t ≤ 512 by omega) hin her hou (ST.mono hST' (tbt_le t) (mbt_le t)) hsl1 (r3.mono (tbt_le t) (mbt_le t))⟩
  · simp only [f_X11_setPassword, ca, pass_in hp1 hp2, r1, hd1, hd2, ob_some, if_true]
  · simp only [f_X12_setPassword, f_X12_setOf, f_X12_ofUser, ma, out_in hp1 hp2, r2, hd3, hd4, ob_some, if_true]
theorem hh57 (t : Nat) : H57 (REL (t + 1)) (REL t) := by
  intro nextPast pastCount i_count i_cells o_count o_cells p_start p_end p_kind p_value p_error p_errorAt p_d_time p_d_tolerance p_d_seed p_d_madeTickets p_d_cheesesOfText p_d_R_rows p_d_R_cells p_d_U_rows p_d_U_cells p_d_S_rows p_d_S_cells p_d_T_rows p_d_T_cells p_d_E_rows p_d_E_cells s_time s_tolerance s_seed s_madeTickets s_cheesesOfText s_R_rows s_R_cells s_U_rows s_U_cells s_S_rows s_S_cells s_T_rows s_T_cells s_E_rows s_E_cells sl pa m_undoable m_undoStart m_thrown m_inputLength m_position m_start m_token m_value m_letters m_code m_place m_outputLength m_s m_parsed m_tried m_remembered m_slots m_kept m_away m_input m_halfway m_output h
  have hX : RELX (t + 1) i_count i_cells m_inputLength m_input p_error m_code p_errorAt m_place o_count o_cells m_outputLength m_output s_time s_tolerance s_seed s_madeTickets s_cheesesOfText s_R_rows s_R_cells s_U_rows s_U_cells s_S_rows s_S_cells s_T_rows s_T_cells s_E_rows s_E_cells m_s sl m_slots m_kept nextPast pastCount pa m_undoable m_undoStart m_remembered := h
  obtain ⟨ht, hin, her, hou, hst, hsl, hun⟩ := hX
  have hst1 := hst.mono (tbt_le t) (mbt_le t)
  have hsl1 := hsl.mono (tbt_le t) (mbt_le t)
  have hun1 := hun.mono (tbt_le t) (mbt_le t)
  have htb := tbt_max (t + 1)
  have hmb := mbt_max (t + 1)
  have H := RELX.mk (show t ≤ 512 by omega) hin her hou hst1 hsl1 hun1
  intro v1 v2
  obtain ⟨r, u, s, k, e, ⟨y0, y1, y2, y7, y9⟩, ⟨hR, hR2, hR3⟩, ⟨hU, hU2⟩, ⟨hS, hS2⟩, hT, hE, ⟨z1, z2, z3, z4, z5, z6⟩, hRI, hUI, hSI, hTI, hEI, hUZ⟩ := id hst
  obtain ⟨g3, g4, g5, g6, g8⟩ := ST_gs (tb := 0) (mb := 0) (tm := 0) (tol := 0) (seed := 0) (made := 0) (cot := 0) hR hU hS hT hE
  have ea : m_s 4 = s_U_rows := hU.2.2.1
  by_cases qa : v1 < 0 ∨ s_U_rows ≤ v1
  case pos =>
    refine ⟨(1, 0, nextPast, pastCount, s_U_cells, pa), (0, m_undoable, m_undoStart, 1, m_s, m_remembered), ?_, Or.inr (Or.inl rfl), ?_, rfl, (fun z => nomatch z), H⟩
    · simp only [f_X11_setClock, checkUser_out qa, ob_some, k10, if_false]
    · simp only [f_X12_setClock, noUser_out g4 (by rw [ea]; exact qa), ob_some, i10, if_false]
  have na : ¬ v1 < 0 := fun z => qa (Or.inl z)
  have ppa : ¬ s_U_rows ≤ v1 := fun z => qa (Or.inr z)
  obtain ⟨ia, la, ta⟩ := row_of hU.1 na ppa
  have ca : f_X11_checkUser s_U_rows v1 = some 0 := checkUser_in na ppa
  have ma : ∀ th, f_X12_noUser th m_s v1 = some (0, 0) := fun th => noUser_in g4 na (by rw [ea]; exact ppa)
  by_cases hp : v2 < (-9) ∨ 9 < v2
  case pos =>
    refine ⟨(2, 0, nextPast, pastCount, s_U_cells, pa), (0, m_undoable, m_undoStart, 2, m_s, m_remembered), ?_, Or.inr (Or.inr rfl), ?_, rfl, (fun z => nomatch z), H⟩
    · simp only [f_X11_setClock, ca, ob_some, if_true]
      by_cases h1 : v2 < -9
      · rw [if_pos h1]
      · rw [if_neg h1, if_neg (nle_of_lt (hp.resolve_left h1))]
    · simp only [f_X12_setClock, ma, out_out hp, ob_some, i10, if_false, if_true]
  have hp1 : ¬ v2 < (-9) := fun z => hp (Or.inl z)
  have hp2 : ¬ 9 < v2 := fun z => hp (Or.inr z)
  obtain ⟨nu, U', g', hd1, hd2, hd3, hd4, hST'⟩ := set_clock (v := v2) hst ta (by rw [g4]; omega)
  obtain ⟨np', pc', pa', mu', us', mr', r1, r2, r3⟩ := remember_same hun hst
  refine ⟨(0, nu, np', pc', U', pa'), (nu, mu', us', 0, g', mr'), ?_, Or.inl rfl, ?_, rfl, (fun _ => rfl), RELX.mk (show t ≤ 512 by omega) hin her hou (ST.mono hST' (tbt_le t) (mbt_le t)) hsl1 (r3.mono (tbt_le t) (mbt_le t))⟩
  · simp only [f_X11_setClock, ca, if_neg hp1, if_pos (le_of_nlt hp2), r1, hd1, hd2, ob_some, if_true]
  · simp only [f_X12_setClock, f_X12_setOf, f_X12_ofUser, ma, out_in hp1 hp2, r2, hd3, hd4, ob_some, if_true]
theorem hh58 (t : Nat) : H58 (REL (t + 1)) (REL t) := by
  intro nextPast pastCount i_count i_cells o_count o_cells p_start p_end p_kind p_value p_error p_errorAt p_d_time p_d_tolerance p_d_seed p_d_madeTickets p_d_cheesesOfText p_d_R_rows p_d_R_cells p_d_U_rows p_d_U_cells p_d_S_rows p_d_S_cells p_d_T_rows p_d_T_cells p_d_E_rows p_d_E_cells s_time s_tolerance s_seed s_madeTickets s_cheesesOfText s_R_rows s_R_cells s_U_rows s_U_cells s_S_rows s_S_cells s_T_rows s_T_cells s_E_rows s_E_cells sl pa m_undoable m_undoStart m_thrown m_inputLength m_position m_start m_token m_value m_letters m_code m_place m_outputLength m_s m_parsed m_tried m_remembered m_slots m_kept m_away m_input m_halfway m_output h
  have hX : RELX (t + 1) i_count i_cells m_inputLength m_input p_error m_code p_errorAt m_place o_count o_cells m_outputLength m_output s_time s_tolerance s_seed s_madeTickets s_cheesesOfText s_R_rows s_R_cells s_U_rows s_U_cells s_S_rows s_S_cells s_T_rows s_T_cells s_E_rows s_E_cells m_s sl m_slots m_kept nextPast pastCount pa m_undoable m_undoStart m_remembered := h
  obtain ⟨ht, hin, her, hou, hst, hsl, hun⟩ := hX
  have hst1 := hst.mono (tbt_le t) (mbt_le t)
  have hsl1 := hsl.mono (tbt_le t) (mbt_le t)
  have hun1 := hun.mono (tbt_le t) (mbt_le t)
  have htb := tbt_max (t + 1)
  have hmb := mbt_max (t + 1)
  have H := RELX.mk (show t ≤ 512 by omega) hin her hou hst1 hsl1 hun1
  intro v1
  obtain ⟨r, u, s, k, e, ⟨y0, y1, y2, y7, y9⟩, ⟨hR, hR2, hR3⟩, ⟨hU, hU2⟩, ⟨hS, hS2⟩, hT, hE, ⟨z1, z2, z3, z4, z5, z6⟩, hRI, hUI, hSI, hTI, hEI, hUZ⟩ := id hst
  obtain ⟨g3, g4, g5, g6, g8⟩ := ST_gs (tb := 0) (mb := 0) (tm := 0) (tol := 0) (seed := 0) (made := 0) (cot := 0) hR hU hS hT hE
  by_cases hp : v1 < 1 ∨ 999 < v1
  case pos =>
    refine ⟨(2, 0, nextPast, pastCount, s_time, s_E_rows, s_E_cells, pa), (0, m_undoable, m_undoStart, 1, m_s, m_remembered), ?_, Or.inr rfl, ?_, rfl, (fun z => nomatch z), H⟩
    · unfold f_X11_pass
      by_cases h1 : v1 < 1
      · rw [if_pos h1]
      · rw [if_neg h1, if_neg (nle_of_lt (hp.resolve_left h1))]
    · simp only [f_X12_pass, noNumber_out hp, ob_some, i10, if_false]
  have hp1 : ¬ v1 < 1 := fun z => hp (Or.inl z)
  have hp2 : ¬ 999 < v1 := fun z => hp (Or.inr z)
  have hm0 : 0 ≤ v1.toInt := by
    rw [ti_lt rfl ti_one] at hp1
    omega
  have hm1 : v1.toInt ≤ 999 := by
    rw [ti_lt (a := 999) (by decide) rfl] at hp2
    omega
  obtain ⟨o3, o5, Er', E', g', hd1, hd2, hd3, hd4, -, hST'⟩ := pass_do hst htb hm0 hm1
  obtain ⟨np', pc', pa', mu', us', mr', r1, r2, r3⟩ := remember_same hun hst
  refine ⟨(0, o3 - o5, np', pc', s_time + v1, Er', E', pa'), (o3 - o5, mu', us', 0, g', mr'), ?_, Or.inl rfl, ?_, rfl, (fun _ => rfl), RELX.mk (show t ≤ 512 by omega) hin her hou (ST.mono hST' (Nat.le_of_eq (tbt_up ht)) (mbt_le t)) hsl1 (r3.mono (tbt_le t) (mbt_le t))⟩
  · simp only [f_X11_pass, if_neg hp1, if_pos (le_of_nlt hp2), r1, hd1, hd2, hd3, ob_some, if_true]
  · simp only [f_X12_pass, noNumber_in hp1 hp2, r2, hd4, ob_some, if_true]
