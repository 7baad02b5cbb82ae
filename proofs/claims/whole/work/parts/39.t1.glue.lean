/-! PURE: what is asked of the calls that only read. -/
theorem k10 : ((1 : Nat) = 0) = False := eq_false (by decide)
theorem k20 : ((2 : Nat) = 0) = False := eq_false (by decide)
theorem k30 : ((3 : Nat) = 0) = False := eq_false (by decide)
theorem k40 : ((4 : Nat) = 0) = False := eq_false (by decide)
theorem out_in {v lo hi : Int32} (h1 : ¬ v < lo) (h2 : ¬ hi < v) : f_X12_out 0 v lo hi = some (0, 0) := by
  unfold f_X12_out
  rw [between_yes h1 h2]
  rfl
theorem out_out {v lo hi : Int32} (h : v < lo ∨ hi < v) : f_X12_out 0 v lo hi = some (1, 2) := by
  unfold f_X12_out
  rw [between_no h]
  rfl
theorem pass_in {v : Int32} (h1 : ¬ v < 0) (h2 : ¬ 9999 < v) : f_X11_checkPassword v = some 0 := by
  unfold f_X11_checkPassword
  rw [if_neg h1, if_pos (by rw [Int32.le_iff_toInt_le]; rw [Int32.lt_iff_toInt_lt] at h2; omega)]
theorem pass_out {v : Int32} (h : v < 0 ∨ 9999 < v) : f_X11_checkPassword v = some 2 := by
  unfold f_X11_checkPassword
  by_cases h1 : v < 0
  · rw [if_pos h1]
  · rw [if_neg h1, if_neg (fun z => by
      have h2 := h.resolve_left h1
      rw [Int32.le_iff_toInt_le] at z
      rw [Int32.lt_iff_toInt_lt] at h2
      omega)]
theorem isRen_same {rows v th : Int32} {T g : Nat → Int32} {r : Nat} (h : TKT rows T g r) : ∃ (ox : Nat × Int32) (om : Int32 × Int32), f_X11_isRenewable rows T v = some ox ∧ (ox.1 = 0 ∨ ox.1 = 4) ∧ f_X12_isRenewable th g v = some om ∧ om.2 = hcd [4] ox.1 ∧ (ox.1 = 0 → ox.2 = om.1) := by
  obtain ⟨o, h1, h2, h3⟩ := find_all h v
  by_cases hq : o = -1
  · rw [hq] at h1 h2
    refine ⟨(4, 0), (0, 1), ?_, Or.inr rfl, ?_, rfl, fun h => nomatch h⟩
    · simp only [f_X11_isRenewable, rowOf_none h1, ob_some, k40, if_false]
    · simp only [f_X12_isRenewable, ofIt_none h2, ob_some, i01, if_false]
  · obtain ⟨i, hi, ho, -⟩ := h3.resolve_left hq
    have h24 := h.2.1
    refine ⟨(0, if g (103 + 10 * i + 9) = 1 then 1 else 0), (if g (103 + 10 * i + 9) = 1 then 1 else 0, 0), ?_, Or.inl rfl, ?_, rfl, fun _ => rfl⟩
    · simp only [f_X11_isRenewable, rowOf_some h1 hq, f_X7_canBeRenewed, tG9 h ho hi, ob_some, if_true, if_some]
      by_cases h9 : g (103 + 10 * i + 9) = 1
      · rw [if_pos h9]; rfl
      · rw [if_neg h9]; rfl
    · simp only [f_X12_isRenewable, ofIt_some h2 ho (show i < 24 by omega) (c := 9) (C := 9) (by decide) (by decide), ob_some]
      by_cases h9 : g (103 + 10 * i + 9) = 1
      · rw [if_pos h9, if_pos h9]
      · rw [if_neg h9, if_neg h9]
theorem hh3 (t : Nat) : H3 (REL (t + 1)) (REL t) := by
  intro nextPast pastCount i_count i_cells o_count o_cells p_start p_end p_kind p_value p_error p_errorAt p_d_time p_d_tolerance p_d_seed p_d_madeTickets p_d_cheesesOfText p_d_R_rows p_d_R_cells p_d_U_rows p_d_U_cells p_d_S_rows p_d_S_cells p_d_T_rows p_d_T_cells p_d_E_rows p_d_E_cells s_time s_tolerance s_seed s_madeTickets s_cheesesOfText s_R_rows s_R_cells s_U_rows s_U_cells s_S_rows s_S_cells s_T_rows s_T_cells s_E_rows s_E_cells sl pa m_undoable m_undoStart m_thrown m_inputLength m_position m_start m_token m_value m_letters m_code m_place m_outputLength m_s m_parsed m_tried m_remembered m_slots m_kept m_away m_input m_halfway m_output h
  have hX : RELX (t + 1) i_count i_cells m_inputLength m_input p_error m_code p_errorAt m_place o_count o_cells m_outputLength m_output s_time s_tolerance s_seed s_madeTickets s_cheesesOfText s_R_rows s_R_cells s_U_rows s_U_cells s_S_rows s_S_cells s_T_rows s_T_cells s_E_rows s_E_cells m_s sl m_slots m_kept nextPast pastCount pa m_undoable m_undoStart m_remembered := h
  obtain ⟨ht, hin, her, hou, hst, hsl, hun⟩ := hX
  have hst1 := hst.mono (tbt_le t) (mbt_le t)
  have hsl1 := hsl.mono (tbt_le t) (mbt_le t)
  have hun1 := hun.mono (tbt_le t) (mbt_le t)
  have htb := tbt_max (t + 1)
  have hmb := mbt_max (t + 1)
  have H := RELX.mk (show t ≤ 512 by omega) hin her hou hst1 hsl1 hun1
  exact ⟨p_error, (m_code, 0), rfl, rfl, her.1, H⟩
theorem hh4 (t : Nat) : H4 (REL (t + 1)) (REL t) := by
  intro nextPast pastCount i_count i_cells o_count o_cells p_start p_end p_kind p_value p_error p_errorAt p_d_time p_d_tolerance p_d_seed p_d_madeTickets p_d_cheesesOfText p_d_R_rows p_d_R_cells p_d_U_rows p_d_U_cells p_d_S_rows p_d_S_cells p_d_T_rows p_d_T_cells p_d_E_rows p_d_E_cells s_time s_tolerance s_seed s_madeTickets s_cheesesOfText s_R_rows s_R_cells s_U_rows s_U_cells s_S_rows s_S_cells s_T_rows s_T_cells s_E_rows s_E_cells sl pa m_undoable m_undoStart m_thrown m_inputLength m_position m_start m_token m_value m_letters m_code m_place m_outputLength m_s m_parsed m_tried m_remembered m_slots m_kept m_away m_input m_halfway m_output h
  have hX : RELX (t + 1) i_count i_cells m_inputLength m_input p_error m_code p_errorAt m_place o_count o_cells m_outputLength m_output s_time s_tolerance s_seed s_madeTickets s_cheesesOfText s_R_rows s_R_cells s_U_rows s_U_cells s_S_rows s_S_cells s_T_rows s_T_cells s_E_rows s_E_cells m_s sl m_slots m_kept nextPast pastCount pa m_undoable m_undoStart m_remembered := h
  obtain ⟨ht, hin, her, hou, hst, hsl, hun⟩ := hX
  have hst1 := hst.mono (tbt_le t) (mbt_le t)
  have hsl1 := hsl.mono (tbt_le t) (mbt_le t)
  have hun1 := hun.mono (tbt_le t) (mbt_le t)
  have htb := tbt_max (t + 1)
  have hmb := mbt_max (t + 1)
  have H := RELX.mk (show t ≤ 512 by omega) hin her hou hst1 hsl1 hun1
  exact ⟨p_errorAt, (m_place, 0), rfl, rfl, her.2, H⟩
theorem hh5 (t : Nat) : H5 (REL (t + 1)) (REL t) := by
  intro nextPast pastCount i_count i_cells o_count o_cells p_start p_end p_kind p_value p_error p_errorAt p_d_time p_d_tolerance p_d_seed p_d_madeTickets p_d_cheesesOfText p_d_R_rows p_d_R_cells p_d_U_rows p_d_U_cells p_d_S_rows p_d_S_cells p_d_T_rows p_d_T_cells p_d_E_rows p_d_E_cells s_time s_tolerance s_seed s_madeTickets s_cheesesOfText s_R_rows s_R_cells s_U_rows s_U_cells s_S_rows s_S_cells s_T_rows s_T_cells s_E_rows s_E_cells sl pa m_undoable m_undoStart m_thrown m_inputLength m_position m_start m_token m_value m_letters m_code m_place m_outputLength m_s m_parsed m_tried m_remembered m_slots m_kept m_away m_input m_halfway m_output h
  have hX : RELX (t + 1) i_count i_cells m_inputLength m_input p_error m_code p_errorAt m_place o_count o_cells m_outputLength m_output s_time s_tolerance s_seed s_madeTickets s_cheesesOfText s_R_rows s_R_cells s_U_rows s_U_cells s_S_rows s_S_cells s_T_rows s_T_cells s_E_rows s_E_cells m_s sl m_slots m_kept nextPast pastCount pa m_undoable m_undoStart m_remembered := h
  obtain ⟨ht, hin, her, hou, hst, hsl, hun⟩ := hX
  have hst1 := hst.mono (tbt_le t) (mbt_le t)
  have hsl1 := hsl.mono (tbt_le t) (mbt_le t)
  have hun1 := hun.mono (tbt_le t) (mbt_le t)
  have htb := tbt_max (t + 1)
  have hmb := mbt_max (t + 1)
  have H := RELX.mk (show t ≤ 512 by omega) hin her hou hst1 hsl1 hun1
  obtain ⟨r, u, s, k, e, ⟨y0, y1, y2, y7, y9⟩, ⟨hR, hR2, hR3⟩, ⟨hU, hU2⟩, ⟨hS, hS2⟩, hT, hE, ⟨z1, z2, z3, z4, z5, z6⟩, hRI, hUI, hSI, hTI, hEI, hUZ⟩ := id hst
  obtain ⟨g3, g4, g5, g6, g8⟩ := ST_gs (tb := 0) (mb := 0) (tm := 0) (tol := 0) (seed := 0) (made := 0) (cot := 0) hR hU hS hT hE
  exact ⟨s_time, (m_s 0, 0), rfl, by simp only [f_X12_time, zM0, ob_some], y0.symm, H⟩
theorem hh6 (t : Nat) : H6 (REL (t + 1)) (REL t) := by
  intro nextPast pastCount i_count i_cells o_count o_cells p_start p_end p_kind p_value p_error p_errorAt p_d_time p_d_tolerance p_d_seed p_d_madeTickets p_d_cheesesOfText p_d_R_rows p_d_R_cells p_d_U_rows p_d_U_cells p_d_S_rows p_d_S_cells p_d_T_rows p_d_T_cells p_d_E_rows p_d_E_cells s_time s_tolerance s_seed s_madeTickets s_cheesesOfText s_R_rows s_R_cells s_U_rows s_U_cells s_S_rows s_S_cells s_T_rows s_T_cells s_E_rows s_E_cells sl pa m_undoable m_undoStart m_thrown m_inputLength m_position m_start m_token m_value m_letters m_code m_place m_outputLength m_s m_parsed m_tried m_remembered m_slots m_kept m_away m_input m_halfway m_output h
  have hX : RELX (t + 1) i_count i_cells m_inputLength m_input p_error m_code p_errorAt m_place o_count o_cells m_outputLength m_output s_time s_tolerance s_seed s_madeTickets s_cheesesOfText s_R_rows s_R_cells s_U_rows s_U_cells s_S_rows s_S_cells s_T_rows s_T_cells s_E_rows s_E_cells m_s sl m_slots m_kept nextPast pastCount pa m_undoable m_undoStart m_remembered := h
  obtain ⟨ht, hin, her, hou, hst, hsl, hun⟩ := hX
  have hst1 := hst.mono (tbt_le t) (mbt_le t)
  have hsl1 := hsl.mono (tbt_le t) (mbt_le t)
  have hun1 := hun.mono (tbt_le t) (mbt_le t)
  have htb := tbt_max (t + 1)
  have hmb := mbt_max (t + 1)
  have H := RELX.mk (show t ≤ 512 by omega) hin her hou hst1 hsl1 hun1
  obtain ⟨r, u, s, k, e, ⟨y0, y1, y2, y7, y9⟩, ⟨hR, hR2, hR3⟩, ⟨hU, hU2⟩, ⟨hS, hS2⟩, hT, hE, ⟨z1, z2, z3, z4, z5, z6⟩, hRI, hUI, hSI, hTI, hEI, hUZ⟩ := id hst
  obtain ⟨g3, g4, g5, g6, g8⟩ := ST_gs (tb := 0) (mb := 0) (tm := 0) (tol := 0) (seed := 0) (made := 0) (cot := 0) hR hU hS hT hE
  exact ⟨s_seed, (m_s 2, 0), rfl, by simp only [f_X12_seed, zM2, ob_some], y2.symm, H⟩
theorem hh7 (t : Nat) : H7 (REL (t + 1)) (REL t) := by
  intro nextPast pastCount i_count i_cells o_count o_cells p_start p_end p_kind p_value p_error p_errorAt p_d_time p_d_tolerance p_d_seed p_d_madeTickets p_d_cheesesOfText p_d_R_rows p_d_R_cells p_d_U_rows p_d_U_cells p_d_S_rows p_d_S_cells p_d_T_rows p_d_T_cells p_d_E_rows p_d_E_cells s_time s_tolerance s_seed s_madeTickets s_cheesesOfText s_R_rows s_R_cells s_U_rows s_U_cells s_S_rows s_S_cells s_T_rows s_T_cells s_E_rows s_E_cells sl pa m_undoable m_undoStart m_thrown m_inputLength m_position m_start m_token m_value m_letters m_code m_place m_outputLength m_s m_parsed m_tried m_remembered m_slots m_kept m_away m_input m_halfway m_output h
  have hX : RELX (t + 1) i_count i_cells m_inputLength m_input p_error m_code p_errorAt m_place o_count o_cells m_outputLength m_output s_time s_tolerance s_seed s_madeTickets s_cheesesOfText s_R_rows s_R_cells s_U_rows s_U_cells s_S_rows s_S_cells s_T_rows s_T_cells s_E_rows s_E_cells m_s sl m_slots m_kept nextPast pastCount pa m_undoable m_undoStart m_remembered := h
  obtain ⟨ht, hin, her, hou, hst, hsl, hun⟩ := hX
  have hst1 := hst.mono (tbt_le t) (mbt_le t)
  have hsl1 := hsl.mono (tbt_le t) (mbt_le t)
  have hun1 := hun.mono (tbt_le t) (mbt_le t)
  have htb := tbt_max (t + 1)
  have hmb := mbt_max (t + 1)
  have H := RELX.mk (show t ≤ 512 by omega) hin her hou hst1 hsl1 hun1
  obtain ⟨r, u, s, k, e, ⟨y0, y1, y2, y7, y9⟩, ⟨hR, hR2, hR3⟩, ⟨hU, hU2⟩, ⟨hS, hS2⟩, hT, hE, ⟨z1, z2, z3, z4, z5, z6⟩, hRI, hUI, hSI, hTI, hEI, hUZ⟩ := id hst
  obtain ⟨g3, g4, g5, g6, g8⟩ := ST_gs (tb := 0) (mb := 0) (tm := 0) (tol := 0) (seed := 0) (made := 0) (cot := 0) hR hU hS hT hE
  exact ⟨s_R_rows, (m_s 3, 0), rfl, by simp only [f_X12_realmCount, zM3, ob_some], hR.2.2.1.symm, H⟩
theorem hh8 (t : Nat) : H8 (REL (t + 1)) (REL t) := by
  intro nextPast pastCount i_count i_cells o_count o_cells p_start p_end p_kind p_value p_error p_errorAt p_d_time p_d_tolerance p_d_seed p_d_madeTickets p_d_cheesesOfText p_d_R_rows p_d_R_cells p_d_U_rows p_d_U_cells p_d_S_rows p_d_S_cells p_d_T_rows p_d_T_cells p_d_E_rows p_d_E_cells s_time s_tolerance s_seed s_madeTickets s_cheesesOfText s_R_rows s_R_cells s_U_rows s_U_cells s_S_rows s_S_cells s_T_rows s_T_cells s_E_rows s_E_cells sl pa m_undoable m_undoStart m_thrown m_inputLength m_position m_start m_token m_value m_letters m_code m_place m_outputLength m_s m_parsed m_tried m_remembered m_slots m_kept m_away m_input m_halfway m_output h
  have hX : RELX (t + 1) i_count i_cells m_inputLength m_input p_error m_code p_errorAt m_place o_count o_cells m_outputLength m_output s_time s_tolerance s_seed s_madeTickets s_cheesesOfText s_R_rows s_R_cells s_U_rows s_U_cells s_S_rows s_S_cells s_T_rows s_T_cells s_E_rows s_E_cells m_s sl m_slots m_kept nextPast pastCount pa m_undoable m_undoStart m_remembered := h
  obtain ⟨ht, hin, her, hou, hst, hsl, hun⟩ := hX
  have hst1 := hst.mono (tbt_le t) (mbt_le t)
  have hsl1 := hsl.mono (tbt_le t) (mbt_le t)
  have hun1 := hun.mono (tbt_le t) (mbt_le t)
  have htb := tbt_max (t + 1)
  have hmb := mbt_max (t + 1)
  have H := RELX.mk (show t ≤ 512 by omega) hin her hou hst1 hsl1 hun1
  obtain ⟨r, u, s, k, e, ⟨y0, y1, y2, y7, y9⟩, ⟨hR, hR2, hR3⟩, ⟨hU, hU2⟩, ⟨hS, hS2⟩, hT, hE, ⟨z1, z2, z3, z4, z5, z6⟩, hRI, hUI, hSI, hTI, hEI, hUZ⟩ := id hst
  obtain ⟨g3, g4, g5, g6, g8⟩ := ST_gs (tb := 0) (mb := 0) (tm := 0) (tol := 0) (seed := 0) (made := 0) (cot := 0) hR hU hS hT hE
  exact ⟨s_U_rows, (m_s 4, 0), rfl, by simp only [f_X12_userCount, zM4, ob_some], hU.2.2.1.symm, H⟩
theorem hh9 (t : Nat) : H9 (REL (t + 1)) (REL t) := by
  intro nextPast pastCount i_count i_cells o_count o_cells p_start p_end p_kind p_value p_error p_errorAt p_d_time p_d_tolerance p_d_seed p_d_madeTickets p_d_cheesesOfText p_d_R_rows p_d_R_cells p_d_U_rows p_d_U_cells p_d_S_rows p_d_S_cells p_d_T_rows p_d_T_cells p_d_E_rows p_d_E_cells s_time s_tolerance s_seed s_madeTickets s_cheesesOfText s_R_rows s_R_cells s_U_rows s_U_cells s_S_rows s_S_cells s_T_rows s_T_cells s_E_rows s_E_cells sl pa m_undoable m_undoStart m_thrown m_inputLength m_position m_start m_token m_value m_letters m_code m_place m_outputLength m_s m_parsed m_tried m_remembered m_slots m_kept m_away m_input m_halfway m_output h
  have hX : RELX (t + 1) i_count i_cells m_inputLength m_input p_error m_code p_errorAt m_place o_count o_cells m_outputLength m_output s_time s_tolerance s_seed s_madeTickets s_cheesesOfText s_R_rows s_R_cells s_U_rows s_U_cells s_S_rows s_S_cells s_T_rows s_T_cells s_E_rows s_E_cells m_s sl m_slots m_kept nextPast pastCount pa m_undoable m_undoStart m_remembered := h
  obtain ⟨ht, hin, her, hou, hst, hsl, hun⟩ := hX
  have hst1 := hst.mono (tbt_le t) (mbt_le t)
  have hsl1 := hsl.mono (tbt_le t) (mbt_le t)
  have hun1 := hun.mono (tbt_le t) (mbt_le t)
  have htb := tbt_max (t + 1)
  have hmb := mbt_max (t + 1)
  have H := RELX.mk (show t ≤ 512 by omega) hin her hou hst1 hsl1 hun1
  obtain ⟨r, u, s, k, e, ⟨y0, y1, y2, y7, y9⟩, ⟨hR, hR2, hR3⟩, ⟨hU, hU2⟩, ⟨hS, hS2⟩, hT, hE, ⟨z1, z2, z3, z4, z5, z6⟩, hRI, hUI, hSI, hTI, hEI, hUZ⟩ := id hst
  obtain ⟨g3, g4, g5, g6, g8⟩ := ST_gs (tb := 0) (mb := 0) (tm := 0) (tol := 0) (seed := 0) (made := 0) (cot := 0) hR hU hS hT hE
  exact ⟨s_S_rows, (m_s 5, 0), rfl, by simp only [f_X12_serviceCount, zM5, ob_some], hS.2.2.1.symm, H⟩
theorem hh21 (t : Nat) : H21 (REL (t + 1)) (REL t) := by
  intro nextPast pastCount i_count i_cells o_count o_cells p_start p_end p_kind p_value p_error p_errorAt p_d_time p_d_tolerance p_d_seed p_d_madeTickets p_d_cheesesOfText p_d_R_rows p_d_R_cells p_d_U_rows p_d_U_cells p_d_S_rows p_d_S_cells p_d_T_rows p_d_T_cells p_d_E_rows p_d_E_cells s_time s_tolerance s_seed s_madeTickets s_cheesesOfText s_R_rows s_R_cells s_U_rows s_U_cells s_S_rows s_S_cells s_T_rows s_T_cells s_E_rows s_E_cells sl pa m_undoable m_undoStart m_thrown m_inputLength m_position m_start m_token m_value m_letters m_code m_place m_outputLength m_s m_parsed m_tried m_remembered m_slots m_kept m_away m_input m_halfway m_output h
  have hX : RELX (t + 1) i_count i_cells m_inputLength m_input p_error m_code p_errorAt m_place o_count o_cells m_outputLength m_output s_time s_tolerance s_seed s_madeTickets s_cheesesOfText s_R_rows s_R_cells s_U_rows s_U_cells s_S_rows s_S_cells s_T_rows s_T_cells s_E_rows s_E_cells m_s sl m_slots m_kept nextPast pastCount pa m_undoable m_undoStart m_remembered := h
  obtain ⟨ht, hin, her, hou, hst, hsl, hun⟩ := hX
  have hst1 := hst.mono (tbt_le t) (mbt_le t)
  have hsl1 := hsl.mono (tbt_le t) (mbt_le t)
  have hun1 := hun.mono (tbt_le t) (mbt_le t)
  have htb := tbt_max (t + 1)
  have hmb := mbt_max (t + 1)
  have H := RELX.mk (show t ≤ 512 by omega) hin her hou hst1 hsl1 hun1
  obtain ⟨r, u, s, k, e, ⟨y0, y1, y2, y7, y9⟩, ⟨hR, hR2, hR3⟩, ⟨hU, hU2⟩, ⟨hS, hS2⟩, hT, hE, ⟨z1, z2, z3, z4, z5, z6⟩, hRI, hUI, hSI, hTI, hEI, hUZ⟩ := id hst
  obtain ⟨g3, g4, g5, g6, g8⟩ := ST_gs (tb := 0) (mb := 0) (tm := 0) (tol := 0) (seed := 0) (made := 0) (cot := 0) hR hU hS hT hE
  exact ⟨s_T_rows, (m_s 6, 0), rfl, by simp only [f_X12_ticketCount, zM6, ob_some], hT.2.2.1.symm, H⟩
theorem hh43 (t : Nat) : H43 (REL (t + 1)) (REL t) := by
  intro nextPast pastCount i_count i_cells o_count o_cells p_start p_end p_kind p_value p_error p_errorAt p_d_time p_d_tolerance p_d_seed p_d_madeTickets p_d_cheesesOfText p_d_R_rows p_d_R_cells p_d_U_rows p_d_U_cells p_d_S_rows p_d_S_cells p_d_T_rows p_d_T_cells p_d_E_rows p_d_E_cells s_time s_tolerance s_seed s_madeTickets s_cheesesOfText s_R_rows s_R_cells s_U_rows s_U_cells s_S_rows s_S_cells s_T_rows s_T_cells s_E_rows s_E_cells sl pa m_undoable m_undoStart m_thrown m_inputLength m_position m_start m_token m_value m_letters m_code m_place m_outputLength m_s m_parsed m_tried m_remembered m_slots m_kept m_away m_input m_halfway m_output h
  have hX : RELX (t + 1) i_count i_cells m_inputLength m_input p_error m_code p_errorAt m_place o_count o_cells m_outputLength m_output s_time s_tolerance s_seed s_madeTickets s_cheesesOfText s_R_rows s_R_cells s_U_rows s_U_cells s_S_rows s_S_cells s_T_rows s_T_cells s_E_rows s_E_cells m_s sl m_slots m_kept nextPast pastCount pa m_undoable m_undoStart m_remembered := h
  obtain ⟨ht, hin, her, hou, hst, hsl, hun⟩ := hX
  have hst1 := hst.mono (tbt_le t) (mbt_le t)
  have hsl1 := hsl.mono (tbt_le t) (mbt_le t)
  have hun1 := hun.mono (tbt_le t) (mbt_le t)
  have htb := tbt_max (t + 1)
  have hmb := mbt_max (t + 1)
  have H := RELX.mk (show t ≤ 512 by omega) hin her hou hst1 hsl1 hun1
  obtain ⟨r, u, s, k, e, ⟨y0, y1, y2, y7, y9⟩, ⟨hR, hR2, hR3⟩, ⟨hU, hU2⟩, ⟨hS, hS2⟩, hT, hE, ⟨z1, z2, z3, z4, z5, z6⟩, hRI, hUI, hSI, hTI, hEI, hUZ⟩ := id hst
  obtain ⟨g3, g4, g5, g6, g8⟩ := ST_gs (tb := 0) (mb := 0) (tm := 0) (tol := 0) (seed := 0) (made := 0) (cot := 0) hR hU hS hT hE
  exact ⟨s_E_rows, (m_s 8, 0), rfl, by simp only [f_X12_useCount, zM8, ob_some], hE.2.2.1.symm, H⟩
theorem hh11 (t : Nat) : H11 (REL (t + 1)) (REL t) := by
  intro nextPast pastCount i_count i_cells o_count o_cells p_start p_end p_kind p_value p_error p_errorAt p_d_time p_d_tolerance p_d_seed p_d_madeTickets p_d_cheesesOfText p_d_R_rows p_d_R_cells p_d_U_rows p_d_U_cells p_d_S_rows p_d_S_cells p_d_T_rows p_d_T_cells p_d_E_rows p_d_E_cells s_time s_tolerance s_seed s_madeTickets s_cheesesOfText s_R_rows s_R_cells s_U_rows s_U_cells s_S_rows s_S_cells s_T_rows s_T_cells s_E_rows s_E_cells sl pa m_undoable m_undoStart m_thrown m_inputLength m_position m_start m_token m_value m_letters m_code m_place m_outputLength m_s m_parsed m_tried m_remembered m_slots m_kept m_away m_input m_halfway m_output h
  have hX : RELX (t + 1) i_count i_cells m_inputLength m_input p_error m_code p_errorAt m_place o_count o_cells m_outputLength m_output s_time s_tolerance s_seed s_madeTickets s_cheesesOfText s_R_rows s_R_cells s_U_rows s_U_cells s_S_rows s_S_cells s_T_rows s_T_cells s_E_rows s_E_cells m_s sl m_slots m_kept nextPast pastCount pa m_undoable m_undoStart m_remembered := h
  obtain ⟨ht, hin, her, hou, hst, hsl, hun⟩ := hX
  have hst1 := hst.mono (tbt_le t) (mbt_le t)
  have hsl1 := hsl.mono (tbt_le t) (mbt_le t)
  have hun1 := hun.mono (tbt_le t) (mbt_le t)
  have htb := tbt_max (t + 1)
  have hmb := mbt_max (t + 1)
  have H := RELX.mk (show t ≤ 512 by omega) hin her hou hst1 hsl1 hun1
  intro v1
  obtain ⟨r, u, s, k, e, ⟨y0, y1, y2, y7, y9⟩, ⟨hR, hR2, hR3⟩, ⟨hU, hU2⟩, ⟨hS, hS2⟩, hT, hE, ⟨z1, z2, z3, z4, z5, z6⟩, hRI, hUI, hSI, hTI, hEI, hUZ⟩ := id hst
  obtain ⟨g3, g4, g5, g6, g8⟩ := ST_gs (tb := 0) (mb := 0) (tm := 0) (tol := 0) (seed := 0) (made := 0) (cot := 0) hR hU hS hT hE
  obtain ⟨ox, om, h1, h2, h3, h4, h5⟩ := lifetime_same (th := m_thrown) (v := v1) hR
  exact ⟨ox, om, h1, h2, h3, h4, h5, H⟩
theorem hh12 (t : Nat) : H12 (REL (t + 1)) (REL t) := by
  intro nextPast pastCount i_count i_cells o_count o_cells p_start p_end p_kind p_value p_error p_errorAt p_d_time p_d_tolerance p_d_seed p_d_madeTickets p_d_cheesesOfText p_d_R_rows p_d_R_cells p_d_U_rows p_d_U_cells p_d_S_rows p_d_S_cells p_d_T_rows p_d_T_cells p_d_E_rows p_d_E_cells s_time s_tolerance s_seed s_madeTickets s_cheesesOfText s_R_rows s_R_cells s_U_rows s_U_cells s_S_rows s_S_cells s_T_rows s_T_cells s_E_rows s_E_cells sl pa m_undoable m_undoStart m_thrown m_inputLength m_position m_start m_token m_value m_letters m_code m_place m_outputLength m_s m_parsed m_tried m_remembered m_slots m_kept m_away m_input m_halfway m_output h
  have hX : RELX (t + 1) i_count i_cells m_inputLength m_input p_error m_code p_errorAt m_place o_count o_cells m_outputLength m_output s_time s_tolerance s_seed s_madeTickets s_cheesesOfText s_R_rows s_R_cells s_U_rows s_U_cells s_S_rows s_S_cells s_T_rows s_T_cells s_E_rows s_E_cells m_s sl m_slots m_kept nextPast pastCount pa m_undoable m_undoStart m_remembered := h
  obtain ⟨ht, hin, her, hou, hst, hsl, hun⟩ := hX
  have hst1 := hst.mono (tbt_le t) (mbt_le t)
  have hsl1 := hsl.mono (tbt_le t) (mbt_le t)
  have hun1 := hun.mono (tbt_le t) (mbt_le t)
  have htb := tbt_max (t + 1)
  have hmb := mbt_max (t + 1)
  have H := RELX.mk (show t ≤ 512 by omega) hin her hou hst1 hsl1 hun1
  intro v1
  obtain ⟨r, u, s, k, e, ⟨y0, y1, y2, y7, y9⟩, ⟨hR, hR2, hR3⟩, ⟨hU, hU2⟩, ⟨hS, hS2⟩, hT, hE, ⟨z1, z2, z3, z4, z5, z6⟩, hRI, hUI, hSI, hTI, hEI, hUZ⟩ := id hst
  obtain ⟨g3, g4, g5, g6, g8⟩ := ST_gs (tb := 0) (mb := 0) (tm := 0) (tol := 0) (seed := 0) (made := 0) (cot := 0) hR hU hS hT hE
  obtain ⟨ox, om, h1, h2, h3, h4, h5⟩ := clock_same (th := m_thrown) (v := v1) hR y0
  exact ⟨ox, om, h1, h2, h3, h4, fun z => by rw [h5 z], H⟩
theorem hh16 (t : Nat) : H16 (REL (t + 1)) (REL t) := by
  intro nextPast pastCount i_count i_cells o_count o_cells p_start p_end p_kind p_value p_error p_errorAt p_d_time p_d_tolerance p_d_seed p_d_madeTickets p_d_cheesesOfText p_d_R_rows p_d_R_cells p_d_U_rows p_d_U_cells p_d_S_rows p_d_S_cells p_d_T_rows p_d_T_cells p_d_E_rows p_d_E_cells s_time s_tolerance s_seed s_madeTickets s_cheesesOfText s_R_rows s_R_cells s_U_rows s_U_cells s_S_rows s_S_cells s_T_rows s_T_cells s_E_rows s_E_cells sl pa m_undoable m_undoStart m_thrown m_inputLength m_position m_start m_token m_value m_letters m_code m_place m_outputLength m_s m_parsed m_tried m_remembered m_slots m_kept m_away m_input m_halfway m_output h
  have hX : RELX (t + 1) i_count i_cells m_inputLength m_input p_error m_code p_errorAt m_place o_count o_cells m_outputLength m_output s_time s_tolerance s_seed s_madeTickets s_cheesesOfText s_R_rows s_R_cells s_U_rows s_U_cells s_S_rows s_S_cells s_T_rows s_T_cells s_E_rows s_E_cells m_s sl m_slots m_kept nextPast pastCount pa m_undoable m_undoStart m_remembered := h
  obtain ⟨ht, hin, her, hou, hst, hsl, hun⟩ := hX
  have hst1 := hst.mono (tbt_le t) (mbt_le t)
  have hsl1 := hsl.mono (tbt_le t) (mbt_le t)
  have hun1 := hun.mono (tbt_le t) (mbt_le t)
  have htb := tbt_max (t + 1)
  have hmb := mbt_max (t + 1)
  have H := RELX.mk (show t ≤ 512 by omega) hin her hou hst1 hsl1 hun1
  intro v1
  obtain ⟨r, u, s, k, e, ⟨y0, y1, y2, y7, y9⟩, ⟨hR, hR2, hR3⟩, ⟨hU, hU2⟩, ⟨hS, hS2⟩, hT, hE, ⟨z1, z2, z3, z4, z5, z6⟩, hRI, hUI, hSI, hTI, hEI, hUZ⟩ := id hst
  obtain ⟨g3, g4, g5, g6, g8⟩ := ST_gs (tb := 0) (mb := 0) (tm := 0) (tol := 0) (seed := 0) (made := 0) (cot := 0) hR hU hS hT hE
  obtain ⟨ox, om, h1, h2, h3, h4, h5⟩ := homeOf_same (th := m_thrown) (v := v1) hU
  exact ⟨ox, om, h1, h2, h3, h4, h5, H⟩
theorem hh17 (t : Nat) : H17 (REL (t + 1)) (REL t) := by
  intro nextPast pastCount i_count i_cells o_count o_cells p_start p_end p_kind p_value p_error p_errorAt p_d_time p_d_tolerance p_d_seed p_d_madeTickets p_d_cheesesOfText p_d_R_rows p_d_R_cells p_d_U_rows p_d_U_cells p_d_S_rows p_d_S_cells p_d_T_rows p_d_T_cells p_d_E_rows p_d_E_cells s_time s_tolerance s_seed s_madeTickets s_cheesesOfText s_R_rows s_R_cells s_U_rows s_U_cells s_S_rows s_S_cells s_T_rows s_T_cells s_E_rows s_E_cells sl pa m_undoable m_undoStart m_thrown m_inputLength m_position m_start m_token m_value m_letters m_code m_place m_outputLength m_s m_parsed m_tried m_remembered m_slots m_kept m_away m_input m_halfway m_output h
  have hX : RELX (t + 1) i_count i_cells m_inputLength m_input p_error m_code p_errorAt m_place o_count o_cells m_outputLength m_output s_time s_tolerance s_seed s_madeTickets s_cheesesOfText s_R_rows s_R_cells s_U_rows s_U_cells s_S_rows s_S_cells s_T_rows s_T_cells s_E_rows s_E_cells m_s sl m_slots m_kept nextPast pastCount pa m_undoable m_undoStart m_remembered := h
  obtain ⟨ht, hin, her, hou, hst, hsl, hun⟩ := hX
  have hst1 := hst.mono (tbt_le t) (mbt_le t)
  have hsl1 := hsl.mono (tbt_le t) (mbt_le t)
  have hun1 := hun.mono (tbt_le t) (mbt_le t)
  have htb := tbt_max (t + 1)
  have hmb := mbt_max (t + 1)
  have H := RELX.mk (show t ≤ 512 by omega) hin her hou hst1 hsl1 hun1
  intro v1
  obtain ⟨r, u, s, k, e, ⟨y0, y1, y2, y7, y9⟩, ⟨hR, hR2, hR3⟩, ⟨hU, hU2⟩, ⟨hS, hS2⟩, hT, hE, ⟨z1, z2, z3, z4, z5, z6⟩, hRI, hUI, hSI, hTI, hEI, hUZ⟩ := id hst
  obtain ⟨g3, g4, g5, g6, g8⟩ := ST_gs (tb := 0) (mb := 0) (tm := 0) (tol := 0) (seed := 0) (made := 0) (cot := 0) hR hU hS hT hE
  obtain ⟨ox, om, h1, h2, h3, h4, h5⟩ := cheesesOf_same (th := m_thrown) (v := v1) hU
  exact ⟨ox, om, h1, h2, h3, h4, h5, H⟩
theorem hh19 (t : Nat) : H19 (REL (t + 1)) (REL t) := by
  intro nextPast pastCount i_count i_cells o_count o_cells p_start p_end p_kind p_value p_error p_errorAt p_d_time p_d_tolerance p_d_seed p_d_madeTickets p_d_cheesesOfText p_d_R_rows p_d_R_cells p_d_U_rows p_d_U_cells p_d_S_rows p_d_S_cells p_d_T_rows p_d_T_cells p_d_E_rows p_d_E_cells s_time s_tolerance s_seed s_madeTickets s_cheesesOfText s_R_rows s_R_cells s_U_rows s_U_cells s_S_rows s_S_cells s_T_rows s_T_cells s_E_rows s_E_cells sl pa m_undoable m_undoStart m_thrown m_inputLength m_position m_start m_token m_value m_letters m_code m_place m_outputLength m_s m_parsed m_tried m_remembered m_slots m_kept m_away m_input m_halfway m_output h
  have hX : RELX (t + 1) i_count i_cells m_inputLength m_input p_error m_code p_errorAt m_place o_count o_cells m_outputLength m_output s_time s_tolerance s_seed s_madeTickets s_cheesesOfText s_R_rows s_R_cells s_U_rows s_U_cells s_S_rows s_S_cells s_T_rows s_T_cells s_E_rows s_E_cells m_s sl m_slots m_kept nextPast pastCount pa m_undoable m_undoStart m_remembered := h
  obtain ⟨ht, hin, her, hou, hst, hsl, hun⟩ := hX
  have hst1 := hst.mono (tbt_le t) (mbt_le t)
  have hsl1 := hsl.mono (tbt_le t) (mbt_le t)
  have hun1 := hun.mono (tbt_le t) (mbt_le t)
  have htb := tbt_max (t + 1)
  have hmb := mbt_max (t + 1)
  have H := RELX.mk (show t ≤ 512 by omega) hin her hou hst1 hsl1 hun1
  intro v1
  obtain ⟨r, u, s, k, e, ⟨y0, y1, y2, y7, y9⟩, ⟨hR, hR2, hR3⟩, ⟨hU, hU2⟩, ⟨hS, hS2⟩, hT, hE, ⟨z1, z2, z3, z4, z5, z6⟩, hRI, hUI, hSI, hTI, hEI, hUZ⟩ := id hst
  obtain ⟨g3, g4, g5, g6, g8⟩ := ST_gs (tb := 0) (mb := 0) (tm := 0) (tol := 0) (seed := 0) (made := 0) (cot := 0) hR hU hS hT hE
  obtain ⟨ox, om, h1, h2, h3, h4, h5⟩ := realmOfService_same (th := m_thrown) (v := v1) hS
  exact ⟨ox, om, h1, h2, h3, h4, h5, H⟩
theorem hh20 (t : Nat) : H20 (REL (t + 1)) (REL t) := by
  intro nextPast pastCount i_count i_cells o_count o_cells p_start p_end p_kind p_value p_error p_errorAt p_d_time p_d_tolerance p_d_seed p_d_madeTickets p_d_cheesesOfText p_d_R_rows p_d_R_cells p_d_U_rows p_d_U_cells p_d_S_rows p_d_S_cells p_d_T_rows p_d_T_cells p_d_E_rows p_d_E_cells s_time s_tolerance s_seed s_madeTickets s_cheesesOfText s_R_rows s_R_cells s_U_rows s_U_cells s_S_rows s_S_cells s_T_rows s_T_cells s_E_rows s_E_cells sl pa m_undoable m_undoStart m_thrown m_inputLength m_position m_start m_token m_value m_letters m_code m_place m_outputLength m_s m_parsed m_tried m_remembered m_slots m_kept m_away m_input m_halfway m_output h
  have hX : RELX (t + 1) i_count i_cells m_inputLength m_input p_error m_code p_errorAt m_place o_count o_cells m_outputLength m_output s_time s_tolerance s_seed s_madeTickets s_cheesesOfText s_R_rows s_R_cells s_U_rows s_U_cells s_S_rows s_S_cells s_T_rows s_T_cells s_E_rows s_E_cells m_s sl m_slots m_kept nextPast pastCount pa m_undoable m_undoStart m_remembered := h
  obtain ⟨ht, hin, her, hou, hst, hsl, hun⟩ := hX
  have hst1 := hst.mono (tbt_le t) (mbt_le t)
  have hsl1 := hsl.mono (tbt_le t) (mbt_le t)
  have hun1 := hun.mono (tbt_le t) (mbt_le t)
  have htb := tbt_max (t + 1)
  have hmb := mbt_max (t + 1)
  have H := RELX.mk (show t ≤ 512 by omega) hin her hou hst1 hsl1 hun1
  intro v1
  obtain ⟨r, u, s, k, e, ⟨y0, y1, y2, y7, y9⟩, ⟨hR, hR2, hR3⟩, ⟨hU, hU2⟩, ⟨hS, hS2⟩, hT, hE, ⟨z1, z2, z3, z4, z5, z6⟩, hRI, hUI, hSI, hTI, hEI, hUZ⟩ := id hst
  obtain ⟨g3, g4, g5, g6, g8⟩ := ST_gs (tb := 0) (mb := 0) (tm := 0) (tol := 0) (seed := 0) (made := 0) (cot := 0) hR hU hS hT hE
  obtain ⟨ox, om, h1, h2, h3, h4, h5⟩ := cheesesLeft_same (th := m_thrown) (v := v1) hS
  exact ⟨ox, om, h1, h2, h3, h4, h5, H⟩
theorem hh22 (t : Nat) : H22 (REL (t + 1)) (REL t) := by
  intro nextPast pastCount i_count i_cells o_count o_cells p_start p_end p_kind p_value p_error p_errorAt p_d_time p_d_tolerance p_d_seed p_d_madeTickets p_d_cheesesOfText p_d_R_rows p_d_R_cells p_d_U_rows p_d_U_cells p_d_S_rows p_d_S_cells p_d_T_rows p_d_T_cells p_d_E_rows p_d_E_cells s_time s_tolerance s_seed s_madeTickets s_cheesesOfText s_R_rows s_R_cells s_U_rows s_U_cells s_S_rows s_S_cells s_T_rows s_T_cells s_E_rows s_E_cells sl pa m_undoable m_undoStart m_thrown m_inputLength m_position m_start m_token m_value m_letters m_code m_place m_outputLength m_s m_parsed m_tried m_remembered m_slots m_kept m_away m_input m_halfway m_output h
  have hX : RELX (t + 1) i_count i_cells m_inputLength m_input p_error m_code p_errorAt m_place o_count o_cells m_outputLength m_output s_time s_tolerance s_seed s_madeTickets s_cheesesOfText s_R_rows s_R_cells s_U_rows s_U_cells s_S_rows s_S_cells s_T_rows s_T_cells s_E_rows s_E_cells m_s sl m_slots m_kept nextPast pastCount pa m_undoable m_undoStart m_remembered := h
  obtain ⟨ht, hin, her, hou, hst, hsl, hun⟩ := hX
  have hst1 := hst.mono (tbt_le t) (mbt_le t)
  have hsl1 := hsl.mono (tbt_le t) (mbt_le t)
  have hun1 := hun.mono (tbt_le t) (mbt_le t)
  have htb := tbt_max (t + 1)
  have hmb := mbt_max (t + 1)
  have H := RELX.mk (show t ≤ 512 by omega) hin her hou hst1 hsl1 hun1
  intro v1
  obtain ⟨r, u, s, k, e, ⟨y0, y1, y2, y7, y9⟩, ⟨hR, hR2, hR3⟩, ⟨hU, hU2⟩, ⟨hS, hS2⟩, hT, hE, ⟨z1, z2, z3, z4, z5, z6⟩, hRI, hUI, hSI, hTI, hEI, hUZ⟩ := id hst
  obtain ⟨g3, g4, g5, g6, g8⟩ := ST_gs (tb := 0) (mb := 0) (tm := 0) (tol := 0) (seed := 0) (made := 0) (cot := 0) hR hU hS hT hE
  obtain ⟨ox, om, h1, h2, h3, h4, h5⟩ := ticketAt_same (th := m_thrown) (v := v1) hT
  exact ⟨ox, om, h1, h2, h3, h4, fun z => by rw [h5 z], H⟩
theorem hh23 (t : Nat) : H23 (REL (t + 1)) (REL t) := by
  intro nextPast pastCount i_count i_cells o_count o_cells p_start p_end p_kind p_value p_error p_errorAt p_d_time p_d_tolerance p_d_seed p_d_madeTickets p_d_cheesesOfText p_d_R_rows p_d_R_cells p_d_U_rows p_d_U_cells p_d_S_rows p_d_S_cells p_d_T_rows p_d_T_cells p_d_E_rows p_d_E_cells s_time s_tolerance s_seed s_madeTickets s_cheesesOfText s_R_rows s_R_cells s_U_rows s_U_cells s_S_rows s_S_cells s_T_rows s_T_cells s_E_rows s_E_cells sl pa m_undoable m_undoStart m_thrown m_inputLength m_position m_start m_token m_value m_letters m_code m_place m_outputLength m_s m_parsed m_tried m_remembered m_slots m_kept m_away m_input m_halfway m_output h
  have hX : RELX (t + 1) i_count i_cells m_inputLength m_input p_error m_code p_errorAt m_place o_count o_cells m_outputLength m_output s_time s_tolerance s_seed s_madeTickets s_cheesesOfText s_R_rows s_R_cells s_U_rows s_U_cells s_S_rows s_S_cells s_T_rows s_T_cells s_E_rows s_E_cells m_s sl m_slots m_kept nextPast pastCount pa m_undoable m_undoStart m_remembered := h
  obtain ⟨ht, hin, her, hou, hst, hsl, hun⟩ := hX
  have hst1 := hst.mono (tbt_le t) (mbt_le t)
  have hsl1 := hsl.mono (tbt_le t) (mbt_le t)
  have hun1 := hun.mono (tbt_le t) (mbt_le t)
  have htb := tbt_max (t + 1)
  have hmb := mbt_max (t + 1)
  have H := RELX.mk (show t ≤ 512 by omega) hin her hou hst1 hsl1 hun1
  intro v1
  obtain ⟨r, u, s, k, e, ⟨y0, y1, y2, y7, y9⟩, ⟨hR, hR2, hR3⟩, ⟨hU, hU2⟩, ⟨hS, hS2⟩, hT, hE, ⟨z1, z2, z3, z4, z5, z6⟩, hRI, hUI, hSI, hTI, hEI, hUZ⟩ := id hst
  obtain ⟨g3, g4, g5, g6, g8⟩ := ST_gs (tb := 0) (mb := 0) (tm := 0) (tol := 0) (seed := 0) (made := 0) (cot := 0) hR hU hS hT hE
  obtain ⟨ox, om, h1, h2, h3, h4, h5⟩ := kindOf_same (th := m_thrown) (v := v1) hT
  exact ⟨ox, om, h1, h2, h3, h4, h5, H⟩
theorem hh24 (t : Nat) : H24 (REL (t + 1)) (REL t) := by
  intro nextPast pastCount i_count i_cells o_count o_cells p_start p_end p_kind p_value p_error p_errorAt p_d_time p_d_tolerance p_d_seed p_d_madeTickets p_d_cheesesOfText p_d_R_rows p_d_R_cells p_d_U_rows p_d_U_cells p_d_S_rows p_d_S_cells p_d_T_rows p_d_T_cells p_d_E_rows p_d_E_cells s_time s_tolerance s_seed s_madeTickets s_cheesesOfText s_R_rows s_R_cells s_U_rows s_U_cells s_S_rows s_S_cells s_T_rows s_T_cells s_E_rows s_E_cells sl pa m_undoable m_undoStart m_thrown m_inputLength m_position m_start m_token m_value m_letters m_code m_place m_outputLength m_s m_parsed m_tried m_remembered m_slots m_kept m_away m_input m_halfway m_output h
  have hX : RELX (t + 1) i_count i_cells m_inputLength m_input p_error m_code p_errorAt m_place o_count o_cells m_outputLength m_output s_time s_tolerance s_seed s_madeTickets s_cheesesOfText s_R_rows s_R_cells s_U_rows s_U_cells s_S_rows s_S_cells s_T_rows s_T_cells s_E_rows s_E_cells m_s sl m_slots m_kept nextPast pastCount pa m_undoable m_undoStart m_remembered := h
  obtain ⟨ht, hin, her, hou, hst, hsl, hun⟩ := hX
  have hst1 := hst.mono (tbt_le t) (mbt_le t)
  have hsl1 := hsl.mono (tbt_le t) (mbt_le t)
  have hun1 := hun.mono (tbt_le t) (mbt_le t)
  have htb := tbt_max (t + 1)
  have hmb := mbt_max (t + 1)
  have H := RELX.mk (show t ≤ 512 by omega) hin her hou hst1 hsl1 hun1
  intro v1
  obtain ⟨r, u, s, k, e, ⟨y0, y1, y2, y7, y9⟩, ⟨hR, hR2, hR3⟩, ⟨hU, hU2⟩, ⟨hS, hS2⟩, hT, hE, ⟨z1, z2, z3, z4, z5, z6⟩, hRI, hUI, hSI, hTI, hEI, hUZ⟩ := id hst
  obtain ⟨g3, g4, g5, g6, g8⟩ := ST_gs (tb := 0) (mb := 0) (tm := 0) (tol := 0) (seed := 0) (made := 0) (cot := 0) hR hU hS hT hE
  obtain ⟨ox, om, h1, h2, h3, h4, h5⟩ := ownerOf_same (th := m_thrown) (v := v1) hT
  exact ⟨ox, om, h1, h2, h3, h4, h5, H⟩
theorem hh25 (t : Nat) : H25 (REL (t + 1)) (REL t) := by
  intro nextPast pastCount i_count i_cells o_count o_cells p_start p_end p_kind p_value p_error p_errorAt p_d_time p_d_tolerance p_d_seed p_d_madeTickets p_d_cheesesOfText p_d_R_rows p_d_R_cells p_d_U_rows p_d_U_cells p_d_S_rows p_d_S_cells p_d_T_rows p_d_T_cells p_d_E_rows p_d_E_cells s_time s_tolerance s_seed s_madeTickets s_cheesesOfText s_R_rows s_R_cells s_U_rows s_U_cells s_S_rows s_S_cells s_T_rows s_T_cells s_E_rows s_E_cells sl pa m_undoable m_undoStart m_thrown m_inputLength m_position m_start m_token m_value m_letters m_code m_place m_outputLength m_s m_parsed m_tried m_remembered m_slots m_kept m_away m_input m_halfway m_output h
  have hX : RELX (t + 1) i_count i_cells m_inputLength m_input p_error m_code p_errorAt m_place o_count o_cells m_outputLength m_output s_time s_tolerance s_seed s_madeTickets s_cheesesOfText s_R_rows s_R_cells s_U_rows s_U_cells s_S_rows s_S_cells s_T_rows s_T_cells s_E_rows s_E_cells m_s sl m_slots m_kept nextPast pastCount pa m_undoable m_undoStart m_remembered := h
  obtain ⟨ht, hin, her, hou, hst, hsl, hun⟩ := hX
  have hst1 := hst.mono (tbt_le t) (mbt_le t)
  have hsl1 := hsl.mono (tbt_le t) (mbt_le t)
  have hun1 := hun.mono (tbt_le t) (mbt_le t)
  have htb := tbt_max (t + 1)
  have hmb := mbt_max (t + 1)
  have H := RELX.mk (show t ≤ 512 by omega) hin her hou hst1 hsl1 hun1
  intro v1
  obtain ⟨r, u, s, k, e, ⟨y0, y1, y2, y7, y9⟩, ⟨hR, hR2, hR3⟩, ⟨hU, hU2⟩, ⟨hS, hS2⟩, hT, hE, ⟨z1, z2, z3, z4, z5, z6⟩, hRI, hUI, hSI, hTI, hEI, hUZ⟩ := id hst
  obtain ⟨g3, g4, g5, g6, g8⟩ := ST_gs (tb := 0) (mb := 0) (tm := 0) (tol := 0) (seed := 0) (made := 0) (cot := 0) hR hU hS hT hE
  obtain ⟨ox, om, h1, h2, h3, h4, h5⟩ := realmOf_same (th := m_thrown) (v := v1) hT
  exact ⟨ox, om, h1, h2, h3, h4, h5, H⟩
theorem hh26 (t : Nat) : H26 (REL (t + 1)) (REL t) := by
  intro nextPast pastCount i_count i_cells o_count o_cells p_start p_end p_kind p_value p_error p_errorAt p_d_time p_d_tolerance p_d_seed p_d_madeTickets p_d_cheesesOfText p_d_R_rows p_d_R_cells p_d_U_rows p_d_U_cells p_d_S_rows p_d_S_cells p_d_T_rows p_d_T_cells p_d_E_rows p_d_E_cells s_time s_tolerance s_seed s_madeTickets s_cheesesOfText s_R_rows s_R_cells s_U_rows s_U_cells s_S_rows s_S_cells s_T_rows s_T_cells s_E_rows s_E_cells sl pa m_undoable m_undoStart m_thrown m_inputLength m_position m_start m_token m_value m_letters m_code m_place m_outputLength m_s m_parsed m_tried m_remembered m_slots m_kept m_away m_input m_halfway m_output h
  have hX : RELX (t + 1) i_count i_cells m_inputLength m_input p_error m_code p_errorAt m_place o_count o_cells m_outputLength m_output s_time s_tolerance s_seed s_madeTickets s_cheesesOfText s_R_rows s_R_cells s_U_rows s_U_cells s_S_rows s_S_cells s_T_rows s_T_cells s_E_rows s_E_cells m_s sl m_slots m_kept nextPast pastCount pa m_undoable m_undoStart m_remembered := h
  obtain ⟨ht, hin, her, hou, hst, hsl, hun⟩ := hX
  have hst1 := hst.mono (tbt_le t) (mbt_le t)
  have hsl1 := hsl.mono (tbt_le t) (mbt_le t)
  have hun1 := hun.mono (tbt_le t) (mbt_le t)
  have htb := tbt_max (t + 1)
  have hmb := mbt_max (t + 1)
  have H := RELX.mk (show t ≤ 512 by omega) hin her hou hst1 hsl1 hun1
  intro v1
  obtain ⟨r, u, s, k, e, ⟨y0, y1, y2, y7, y9⟩, ⟨hR, hR2, hR3⟩, ⟨hU, hU2⟩, ⟨hS, hS2⟩, hT, hE, ⟨z1, z2, z3, z4, z5, z6⟩, hRI, hUI, hSI, hTI, hEI, hUZ⟩ := id hst
  obtain ⟨g3, g4, g5, g6, g8⟩ := ST_gs (tb := 0) (mb := 0) (tm := 0) (tol := 0) (seed := 0) (made := 0) (cot := 0) hR hU hS hT hE
  obtain ⟨ox, om, h1, h2, h3, h4, h5⟩ := serviceOf_same (th := m_thrown) (v := v1) hT
  exact ⟨ox, om, h1, h2, h3, h4, h5, H⟩
theorem hh27 (t : Nat) : H27 (REL (t + 1)) (REL t) := by
  intro nextPast pastCount i_count i_cells o_count o_cells p_start p_end p_kind p_value p_error p_errorAt p_d_time p_d_tolerance p_d_seed p_d_madeTickets p_d_cheesesOfText p_d_R_rows p_d_R_cells p_d_U_rows p_d_U_cells p_d_S_rows p_d_S_cells p_d_T_rows p_d_T_cells p_d_E_rows p_d_E_cells s_time s_tolerance s_seed s_madeTickets s_cheesesOfText s_R_rows s_R_cells s_U_rows s_U_cells s_S_rows s_S_cells s_T_rows s_T_cells s_E_rows s_E_cells sl pa m_undoable m_undoStart m_thrown m_inputLength m_position m_start m_token m_value m_letters m_code m_place m_outputLength m_s m_parsed m_tried m_remembered m_slots m_kept m_away m_input m_halfway m_output h
  have hX : RELX (t + 1) i_count i_cells m_inputLength m_input p_error m_code p_errorAt m_place o_count o_cells m_outputLength m_output s_time s_tolerance s_seed s_madeTickets s_cheesesOfText s_R_rows s_R_cells s_U_rows s_U_cells s_S_rows s_S_cells s_T_rows s_T_cells s_E_rows s_E_cells m_s sl m_slots m_kept nextPast pastCount pa m_undoable m_undoStart m_remembered := h
  obtain ⟨ht, hin, her, hou, hst, hsl, hun⟩ := hX
  have hst1 := hst.mono (tbt_le t) (mbt_le t)
  have hsl1 := hsl.mono (tbt_le t) (mbt_le t)
  have hun1 := hun.mono (tbt_le t) (mbt_le t)
  have htb := tbt_max (t + 1)
  have hmb := mbt_max (t + 1)
  have H := RELX.mk (show t ≤ 512 by omega) hin her hou hst1 hsl1 hun1
  intro v1
  obtain ⟨r, u, s, k, e, ⟨y0, y1, y2, y7, y9⟩, ⟨hR, hR2, hR3⟩, ⟨hU, hU2⟩, ⟨hS, hS2⟩, hT, hE, ⟨z1, z2, z3, z4, z5, z6⟩, hRI, hUI, hSI, hTI, hEI, hUZ⟩ := id hst
  obtain ⟨g3, g4, g5, g6, g8⟩ := ST_gs (tb := 0) (mb := 0) (tm := 0) (tol := 0) (seed := 0) (made := 0) (cot := 0) hR hU hS hT hE
  obtain ⟨ox, om, h1, h2, h3, h4, h5⟩ := startOf_same (th := m_thrown) (v := v1) hT
  exact ⟨ox, om, h1, h2, h3, h4, h5, H⟩
theorem hh28 (t : Nat) : H28 (REL (t + 1)) (REL t) := by
  intro nextPast pastCount i_count i_cells o_count o_cells p_start p_end p_kind p_value p_error p_errorAt p_d_time p_d_tolerance p_d_seed p_d_madeTickets p_d_cheesesOfText p_d_R_rows p_d_R_cells p_d_U_rows p_d_U_cells p_d_S_rows p_d_S_cells p_d_T_rows p_d_T_cells p_d_E_rows p_d_E_cells s_time s_tolerance s_seed s_madeTickets s_cheesesOfText s_R_rows s_R_cells s_U_rows s_U_cells s_S_rows s_S_cells s_T_rows s_T_cells s_E_rows s_E_cells sl pa m_undoable m_undoStart m_thrown m_inputLength m_position m_start m_token m_value m_letters m_code m_place m_outputLength m_s m_parsed m_tried m_remembered m_slots m_kept m_away m_input m_halfway m_output h
  have hX : RELX (t + 1) i_count i_cells m_inputLength m_input p_error m_code p_errorAt m_place o_count o_cells m_outputLength m_output s_time s_tolerance s_seed s_madeTickets s_cheesesOfText s_R_rows s_R_cells s_U_rows s_U_cells s_S_rows s_S_cells s_T_rows s_T_cells s_E_rows s_E_cells m_s sl m_slots m_kept nextPast pastCount pa m_undoable m_undoStart m_remembered := h
  obtain ⟨ht, hin, her, hou, hst, hsl, hun⟩ := hX
  have hst1 := hst.mono (tbt_le t) (mbt_le t)
  have hsl1 := hsl.mono (tbt_le t) (mbt_le t)
  have hun1 := hun.mono (tbt_le t) (mbt_le t)
  have htb := tbt_max (t + 1)
  have hmb := mbt_max (t + 1)
  have H := RELX.mk (show t ≤ 512 by omega) hin her hou hst1 hsl1 hun1
  intro v1
  obtain ⟨r, u, s, k, e, ⟨y0, y1, y2, y7, y9⟩, ⟨hR, hR2, hR3⟩, ⟨hU, hU2⟩, ⟨hS, hS2⟩, hT, hE, ⟨z1, z2, z3, z4, z5, z6⟩, hRI, hUI, hSI, hTI, hEI, hUZ⟩ := id hst
  obtain ⟨g3, g4, g5, g6, g8⟩ := ST_gs (tb := 0) (mb := 0) (tm := 0) (tol := 0) (seed := 0) (made := 0) (cot := 0) hR hU hS hT hE
  obtain ⟨ox, om, h1, h2, h3, h4, h5⟩ := endOf_same (th := m_thrown) (v := v1) hT
  exact ⟨ox, om, h1, h2, h3, h4, h5, H⟩
theorem hh29 (t : Nat) : H29 (REL (t + 1)) (REL t) := by
  intro nextPast pastCount i_count i_cells o_count o_cells p_start p_end p_kind p_value p_error p_errorAt p_d_time p_d_tolerance p_d_seed p_d_madeTickets p_d_cheesesOfText p_d_R_rows p_d_R_cells p_d_U_rows p_d_U_cells p_d_S_rows p_d_S_cells p_d_T_rows p_d_T_cells p_d_E_rows p_d_E_cells s_time s_tolerance s_seed s_madeTickets s_cheesesOfText s_R_rows s_R_cells s_U_rows s_U_cells s_S_rows s_S_cells s_T_rows s_T_cells s_E_rows s_E_cells sl pa m_undoable m_undoStart m_thrown m_inputLength m_position m_start m_token m_value m_letters m_code m_place m_outputLength m_s m_parsed m_tried m_remembered m_slots m_kept m_away m_input m_halfway m_output h
  have hX : RELX (t + 1) i_count i_cells m_inputLength m_input p_error m_code p_errorAt m_place o_count o_cells m_outputLength m_output s_time s_tolerance s_seed s_madeTickets s_cheesesOfText s_R_rows s_R_cells s_U_rows s_U_cells s_S_rows s_S_cells s_T_rows s_T_cells s_E_rows s_E_cells m_s sl m_slots m_kept nextPast pastCount pa m_undoable m_undoStart m_remembered := h
  obtain ⟨ht, hin, her, hou, hst, hsl, hun⟩ := hX
  have hst1 := hst.mono (tbt_le t) (mbt_le t)
  have hsl1 := hsl.mono (tbt_le t) (mbt_le t)
  have hun1 := hun.mono (tbt_le t) (mbt_le t)
  have htb := tbt_max (t + 1)
  have hmb := mbt_max (t + 1)
  have H := RELX.mk (show t ≤ 512 by omega) hin her hou hst1 hsl1 hun1
  intro v1
  obtain ⟨r, u, s, k, e, ⟨y0, y1, y2, y7, y9⟩, ⟨hR, hR2, hR3⟩, ⟨hU, hU2⟩, ⟨hS, hS2⟩, hT, hE, ⟨z1, z2, z3, z4, z5, z6⟩, hRI, hUI, hSI, hTI, hEI, hUZ⟩ := id hst
  obtain ⟨g3, g4, g5, g6, g8⟩ := ST_gs (tb := 0) (mb := 0) (tm := 0) (tol := 0) (seed := 0) (made := 0) (cot := 0) hR hU hS hT hE
  obtain ⟨ox, om, h1, h2, h3, h4, h5⟩ := lastEndOf_same (th := m_thrown) (v := v1) hT
  exact ⟨ox, om, h1, h2, h3, h4, h5, H⟩
theorem hh30 (t : Nat) : H30 (REL (t + 1)) (REL t) := by
  intro nextPast pastCount i_count i_cells o_count o_cells p_start p_end p_kind p_value p_error p_errorAt p_d_time p_d_tolerance p_d_seed p_d_madeTickets p_d_cheesesOfText p_d_R_rows p_d_R_cells p_d_U_rows p_d_U_cells p_d_S_rows p_d_S_cells p_d_T_rows p_d_T_cells p_d_E_rows p_d_E_cells s_time s_tolerance s_seed s_madeTickets s_cheesesOfText s_R_rows s_R_cells s_U_rows s_U_cells s_S_rows s_S_cells s_T_rows s_T_cells s_E_rows s_E_cells sl pa m_undoable m_undoStart m_thrown m_inputLength m_position m_start m_token m_value m_letters m_code m_place m_outputLength m_s m_parsed m_tried m_remembered m_slots m_kept m_away m_input m_halfway m_output h
  have hX : RELX (t + 1) i_count i_cells m_inputLength m_input p_error m_code p_errorAt m_place o_count o_cells m_outputLength m_output s_time s_tolerance s_seed s_madeTickets s_cheesesOfText s_R_rows s_R_cells s_U_rows s_U_cells s_S_rows s_S_cells s_T_rows s_T_cells s_E_rows s_E_cells m_s sl m_slots m_kept nextPast pastCount pa m_undoable m_undoStart m_remembered := h
  obtain ⟨ht, hin, her, hou, hst, hsl, hun⟩ := hX
  have hst1 := hst.mono (tbt_le t) (mbt_le t)
  have hsl1 := hsl.mono (tbt_le t) (mbt_le t)
  have hun1 := hun.mono (tbt_le t) (mbt_le t)
  have htb := tbt_max (t + 1)
  have hmb := mbt_max (t + 1)
  have H := RELX.mk (show t ≤ 512 by omega) hin her hou hst1 hsl1 hun1
  intro v1
  obtain ⟨r, u, s, k, e, ⟨y0, y1, y2, y7, y9⟩, ⟨hR, hR2, hR3⟩, ⟨hU, hU2⟩, ⟨hS, hS2⟩, hT, hE, ⟨z1, z2, z3, z4, z5, z6⟩, hRI, hUI, hSI, hTI, hEI, hUZ⟩ := id hst
  obtain ⟨g3, g4, g5, g6, g8⟩ := ST_gs (tb := 0) (mb := 0) (tm := 0) (tol := 0) (seed := 0) (made := 0) (cot := 0) hR hU hS hT hE
  obtain ⟨ox, om, h1, h2, h3, h4, h5⟩ := keyOf_same (th := m_thrown) (v := v1) hT
  exact ⟨ox, om, h1, h2, h3, h4, h5, H⟩
theorem hh31 (t : Nat) : H31 (REL (t + 1)) (REL t) := by
  intro nextPast pastCount i_count i_cells o_count o_cells p_start p_end p_kind p_value p_error p_errorAt p_d_time p_d_tolerance p_d_seed p_d_madeTickets p_d_cheesesOfText p_d_R_rows p_d_R_cells p_d_U_rows p_d_U_cells p_d_S_rows p_d_S_cells p_d_T_rows p_d_T_cells p_d_E_rows p_d_E_cells s_time s_tolerance s_seed s_madeTickets s_cheesesOfText s_R_rows s_R_cells s_U_rows s_U_cells s_S_rows s_S_cells s_T_rows s_T_cells s_E_rows s_E_cells sl pa m_undoable m_undoStart m_thrown m_inputLength m_position m_start m_token m_value m_letters m_code m_place m_outputLength m_s m_parsed m_tried m_remembered m_slots m_kept m_away m_input m_halfway m_output h
  have hX : RELX (t + 1) i_count i_cells m_inputLength m_input p_error m_code p_errorAt m_place o_count o_cells m_outputLength m_output s_time s_tolerance s_seed s_madeTickets s_cheesesOfText s_R_rows s_R_cells s_U_rows s_U_cells s_S_rows s_S_cells s_T_rows s_T_cells s_E_rows s_E_cells m_s sl m_slots m_kept nextPast pastCount pa m_undoable m_undoStart m_remembered := h
  obtain ⟨ht, hin, her, hou, hst, hsl, hun⟩ := hX
  have hst1 := hst.mono (tbt_le t) (mbt_le t)
  have hsl1 := hsl.mono (tbt_le t) (mbt_le t)
  have hun1 := hun.mono (tbt_le t) (mbt_le t)
  have htb := tbt_max (t + 1)
  have hmb := mbt_max (t + 1)
  have H := RELX.mk (show t ≤ 512 by omega) hin her hou hst1 hsl1 hun1
  intro v1
  obtain ⟨r, u, s, k, e, ⟨y0, y1, y2, y7, y9⟩, ⟨hR, hR2, hR3⟩, ⟨hU, hU2⟩, ⟨hS, hS2⟩, hT, hE, ⟨z1, z2, z3, z4, z5, z6⟩, hRI, hUI, hSI, hTI, hEI, hUZ⟩ := id hst
  obtain ⟨g3, g4, g5, g6, g8⟩ := ST_gs (tb := 0) (mb := 0) (tm := 0) (tol := 0) (seed := 0) (made := 0) (cot := 0) hR hU hS hT hE
  obtain ⟨ox, om, h1, h2, h3, h4, h5⟩ := isRen_same (th := m_thrown) (v := v1) hT
  exact ⟨ox, om, h1, h2, h3, h4, fun z => by rw [h5 z], H⟩
theorem hh32 (t : Nat) : H32 (REL (t + 1)) (REL t) := by
  intro nextPast pastCount i_count i_cells o_count o_cells p_start p_end p_kind p_value p_error p_errorAt p_d_time p_d_tolerance p_d_seed p_d_madeTickets p_d_cheesesOfText p_d_R_rows p_d_R_cells p_d_U_rows p_d_U_cells p_d_S_rows p_d_S_cells p_d_T_rows p_d_T_cells p_d_E_rows p_d_E_cells s_time s_tolerance s_seed s_madeTickets s_cheesesOfText s_R_rows s_R_cells s_U_rows s_U_cells s_S_rows s_S_cells s_T_rows s_T_cells s_E_rows s_E_cells sl pa m_undoable m_undoStart m_thrown m_inputLength m_position m_start m_token m_value m_letters m_code m_place m_outputLength m_s m_parsed m_tried m_remembered m_slots m_kept m_away m_input m_halfway m_output h
  have hX : RELX (t + 1) i_count i_cells m_inputLength m_input p_error m_code p_errorAt m_place o_count o_cells m_outputLength m_output s_time s_tolerance s_seed s_madeTickets s_cheesesOfText s_R_rows s_R_cells s_U_rows s_U_cells s_S_rows s_S_cells s_T_rows s_T_cells s_E_rows s_E_cells m_s sl m_slots m_kept nextPast pastCount pa m_undoable m_undoStart m_remembered := h
  obtain ⟨ht, hin, her, hou, hst, hsl, hun⟩ := hX
  have hst1 := hst.mono (tbt_le t) (mbt_le t)
  have hsl1 := hsl.mono (tbt_le t) (mbt_le t)
  have hun1 := hun.mono (tbt_le t) (mbt_le t)
  have htb := tbt_max (t + 1)
  have hmb := mbt_max (t + 1)
  have H := RELX.mk (show t ≤ 512 by omega) hin her hou hst1 hsl1 hun1
  intro v1
  obtain ⟨r, u, s, k, e, ⟨y0, y1, y2, y7, y9⟩, ⟨hR, hR2, hR3⟩, ⟨hU, hU2⟩, ⟨hS, hS2⟩, hT, hE, ⟨z1, z2, z3, z4, z5, z6⟩, hRI, hUI, hSI, hTI, hEI, hUZ⟩ := id hst
  obtain ⟨g3, g4, g5, g6, g8⟩ := ST_gs (tb := 0) (mb := 0) (tm := 0) (tol := 0) (seed := 0) (made := 0) (cot := 0) hR hU hS hT hE
  obtain ⟨ox, om, h1, h2, h3, h4, h5⟩ := isValid_same (th := m_thrown) (v := v1) hT y0
  exact ⟨ox, om, h1, h2, h3, h4, fun z => by rw [h5 z], H⟩
theorem hh33 (t : Nat) : H33 (REL (t + 1)) (REL t) := by
  intro nextPast pastCount i_count i_cells o_count o_cells p_start p_end p_kind p_value p_error p_errorAt p_d_time p_d_tolerance p_d_seed p_d_madeTickets p_d_cheesesOfText p_d_R_rows p_d_R_cells p_d_U_rows p_d_U_cells p_d_S_rows p_d_S_cells p_d_T_rows p_d_T_cells p_d_E_rows p_d_E_cells s_time s_tolerance s_seed s_madeTickets s_cheesesOfText s_R_rows s_R_cells s_U_rows s_U_cells s_S_rows s_S_cells s_T_rows s_T_cells s_E_rows s_E_cells sl pa m_undoable m_undoStart m_thrown m_inputLength m_position m_start m_token m_value m_letters m_code m_place m_outputLength m_s m_parsed m_tried m_remembered m_slots m_kept m_away m_input m_halfway m_output h
  have hX : RELX (t + 1) i_count i_cells m_inputLength m_input p_error m_code p_errorAt m_place o_count o_cells m_outputLength m_output s_time s_tolerance s_seed s_madeTickets s_cheesesOfText s_R_rows s_R_cells s_U_rows s_U_cells s_S_rows s_S_cells s_T_rows s_T_cells s_E_rows s_E_cells m_s sl m_slots m_kept nextPast pastCount pa m_undoable m_undoStart m_remembered := h
  obtain ⟨ht, hin, her, hou, hst, hsl, hun⟩ := hX
  have hst1 := hst.mono (tbt_le t) (mbt_le t)
  have hsl1 := hsl.mono (tbt_le t) (mbt_le t)
  have hun1 := hun.mono (tbt_le t) (mbt_le t)
  have htb := tbt_max (t + 1)
  have hmb := mbt_max (t + 1)
  have H := RELX.mk (show t ≤ 512 by omega) hin her hou hst1 hsl1 hun1
  intro v1
  obtain ⟨r, u, s, k, e, ⟨y0, y1, y2, y7, y9⟩, ⟨hR, hR2, hR3⟩, ⟨hU, hU2⟩, ⟨hS, hS2⟩, hT, hE, ⟨z1, z2, z3, z4, z5, z6⟩, hRI, hUI, hSI, hTI, hEI, hUZ⟩ := id hst
  obtain ⟨g3, g4, g5, g6, g8⟩ := ST_gs (tb := 0) (mb := 0) (tm := 0) (tol := 0) (seed := 0) (made := 0) (cot := 0) hR hU hS hT hE
  obtain ⟨ox, om, h1, h2, h3, h4, h5⟩ := minutesLeft_same (th := m_thrown) (v := v1) hT y0
  exact ⟨ox, om, h1, h2, h3, h4, fun z => by rw [h5 z], H⟩
