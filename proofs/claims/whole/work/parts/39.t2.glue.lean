/-! PURE: what is asked of pairs of indices, refusals, counts of tickets. -/
theorem next_L {Rr x y w th : Int32} {R g : Nat → Int32} {r a b : Nat} {mk : Nat → Nat} (hR : RLM Rr R g r) (hR3 : TRU R g r) (k1 : ∀ i, i < r → R (i * 5 + 4) = Int32.ofNat (mk i) ∧ mk i < 2 ^ r) (k2 : ∀ a v, a < r → v < r → (g (30 + 5 * a + v) = 1 ↔ (mk a).testBit v = true)) (hx : x.toInt = (a : Int)) (ha : a < r) (hy : y.toInt = (b : Int)) (hb : b < r) : ∀ (f k : Nat) (z : Int32) (away : Nat → Int32), z.toInt = (k : Int) → k ≤ r → r < k + f → ∃ o aw, f_X2_firstOnWay_L10 Rr R x y w f z = some o ∧ f_X12_nextRealm_L25 th g x y w f away z = some (o, th, aw) := by
  have hr5 := hR.2.1
  have g3 : (g 3).toInt = (r : Int) := by rw [hR.2.2.1]; exact hR.1
  intro f
  induction f with
  | zero => intro k z away hz hk hf; omega
  | succ f ih =>
    intro k z away hz hk hf
    rw [f_X2_firstOnWay_L10, f_X12_nextRealm_L25]
    simp only [zM3, f_X6_size, hR.2.2.1, ob_some]
    by_cases hw : w ≤ 0
    · rw [if_pos hw]
      by_cases hq : Rr ≤ z
      · rw [if_pos hq]
        exact ⟨-1, away, rfl, rfl⟩
      · rw [if_neg hq, if_pos hw]
        exact ⟨-1, away, rfl, rfl⟩
    · by_cases hq : Rr ≤ z
      · rw [if_neg hw, if_pos hq, if_pos hq]
        exact ⟨-1, away, rfl, rfl⟩
      · have hkr : k < r := by
          rw [ti_le hR.1 hz] at hq
          omega
        have hk5 : k < 5 := by omega
        have ha5 : a < 5 := by omega
        rw [if_neg hw, if_neg hq, if_neg hq, if_neg hw]
        simp only [hasTrust_c hR hR3 hx ha hz hk5, trusted_m hx ha5 hz hk5, ob_some]
        by_cases ht : g (30 + 5 * a + k) = 1
        · have e1 : (if g (30 + 5 * a + k) = 1 then (1 : Int32) else 0) = 1 := if_pos ht
          obtain ⟨aw, h1⟩ := far_m (away := away) g3 hr5 (fun i hi => (k1 i hi).2) k2 hz hkr hy hb
          simp only [e1, i10, if_false, ref_c hR k1 hz hkr hy hb, h1, ob_some]
          by_cases hd : RA mk r k b 5 0 = w - 1
          · rw [if_pos hd, if_pos hd]
            exact ⟨z, aw, rfl, rfl⟩
          · rw [if_neg hd, if_neg hd]
            exact ih (k + 1) (z + 1) aw (ti_inc hz (by omega)) hkr (by omega)
        · have e1 : (if g (30 + 5 * a + k) = 1 then (1 : Int32) else 0) = 0 := if_neg ht
          simp only [e1, if_true]
          exact ih (k + 1) (z + 1) away (ti_inc hz (by omega)) hkr (by omega)
theorem hh13 (t : Nat) : H13 (REL (t + 1)) (REL t) := by
  intro nextPast pastCount i_count i_cells o_count o_cells p_start p_end p_kind p_value p_error p_errorAt p_d_time p_d_tolerance p_d_seed p_d_madeTickets p_d_cheesesOfText p_d_R_rows p_d_R_cells p_d_U_rows p_d_U_cells p_d_S_rows p_d_S_cells p_d_T_rows p_d_T_cells p_d_E_rows p_d_E_cells s_time s_tolerance s_seed s_madeTickets s_cheesesOfText s_R_rows s_R_cells s_U_rows s_U_cells s_S_rows s_S_cells s_T_rows s_T_cells s_E_rows s_E_cells sl pa m_undoable m_undoStart m_thrown m_inputLength m_position m_start m_token m_value m_letters m_code m_place m_outputLength m_s m_parsed m_tried m_remembered m_slots m_kept m_away m_input m_halfway m_output h
  have hX : RELX (t + 1) i_count i_cells m_inputLength m_input p_error m_code p_errorAt m_place o_count o_cells m_outputLength m_output s_time s_tolerance s_seed s_madeTickets s_cheesesOfText s_R_rows s_R_cells s_U_rows s_U_cells s_S_rows s_S_cells s_T_rows s_T_cells s_E_rows s_E_cells m_s sl m_slots m_kept nextPast pastCount pa m_undoable m_undoStart m_remembered := h
  obtain ⟨ht, hin, her, hou, hst, hsl, hun⟩ := hX
  have hst1 := hst.mono (tbt_le t) (mbt_le t)
  have hsl1 := hsl.mono (tbt_le t) (mbt_le t)
  have hun1 := hun.mono (tbt_le t) (mbt_le t)
  have htb := tbt_max (t + 1)
  have hmb := mbt_max (t + 1)
  have H := RELX.mk (show t ≤ 512 by omega) hin her hou hst1 hsl1 hun1
  intro v1 v2
  obtain ⟨r, u, s, k, e, ⟨y0, y1, y2, y7, y9⟩, ⟨hR, hR2, hR3⟩, ⟨hU, hU2⟩, ⟨hS, hS2⟩, hT, hE, ⟨z1, z2, z3, z4, z5, z6⟩, hRI, hUI, hSI, hTI, hEI, hUZ⟩ := id hst
  obtain ⟨g3, g4, g5, g6, g8⟩ := ST_gs (tb := 0) (mb := 0) (tm := 0) (tol := 0) (seed := 0) (made := 0) (cot := 0) hR hU hS hT hE
  have ea : m_s 3 = s_R_rows := hR.2.2.1
  by_cases qa : v1 < 0 ∨ s_R_rows ≤ v1
  case pos =>
    refine ⟨(1, 0), (0, 1), ?_, Or.inr rfl, ?_, rfl, (fun z => nomatch z), H⟩
    · simp only [f_X11_trusts, checkRealm_out qa, ob_some, k10, if_false]
    · simp only [f_X12_trusts, f_X12_noRealms, noRealm_out g3 (by rw [ea]; exact qa), ob_some, i10, if_false]
  have na : ¬ v1 < 0 := fun z => qa (Or.inl z)
  have pa : ¬ s_R_rows ≤ v1 := fun z => qa (Or.inr z)
  obtain ⟨ia, la, ta⟩ := row_of hR.1 na pa
  have ca : f_X11_checkRealm s_R_rows v1 = some 0 := checkRealm_in na pa
  have ma : ∀ th, f_X12_noRealm th m_s v1 = some (0, 0) := fun th => noRealm_in g3 na (by rw [ea]; exact pa)
  have eb : m_s 3 = s_R_rows := hR.2.2.1
  by_cases qb : v2 < 0 ∨ s_R_rows ≤ v2
  case pos =>
    refine ⟨(1, 0), (0, 1), ?_, Or.inr rfl, ?_, rfl, (fun z => nomatch z), H⟩
    · simp only [f_X11_trusts, ca, checkRealm_out qb, ob_some, k10, if_false, if_true]
    · simp only [f_X12_trusts, f_X12_noRealms, ma, noRealm_out g3 (by rw [eb]; exact qb), ob_some, i10, if_false, if_true]
  have nb : ¬ v2 < 0 := fun z => qb (Or.inl z)
  have pb : ¬ s_R_rows ≤ v2 := fun z => qb (Or.inr z)
  obtain ⟨ib, lb, tb⟩ := row_of hR.1 nb pb
  have cb : f_X11_checkRealm s_R_rows v2 = some 0 := checkRealm_in nb pb
  have mb : ∀ th, f_X12_noRealm th m_s v2 = some (0, 0) := fun th => noRealm_in g3 nb (by rw [eb]; exact pb)
  have h5 := hR.2.1
  refine ⟨(0, if m_s (30 + 5 * ia + ib) = 1 then 1 else 0), (if m_s (30 + 5 * ia + ib) = 1 then 1 else 0, 0), ?_, Or.inl rfl, ?_, rfl, fun _ => rfl, H⟩
  · simp only [f_X11_trusts, ca, cb, hasTrust_c hR hR3 ta la tb (show ib < 5 by omega), ob_some, if_true]
    by_cases hh : m_s (30 + 5 * ia + ib) = 1
    · rw [if_pos hh]; rfl
    · rw [if_neg hh]; rfl
  · simp only [f_X12_trusts, f_X12_noRealms, ma, mb, trusted_m ta (show ia < 5 by omega) tb (show ib < 5 by omega), ob_some, if_true]
    by_cases hh : m_s (30 + 5 * ia + ib) = 1
    · rw [if_pos hh]; rfl
    · rw [if_neg hh]; rfl
theorem hh18 (t : Nat) : H18 (REL (t + 1)) (REL t) := by
  intro nextPast pastCount i_count i_cells o_count o_cells p_start p_end p_kind p_value p_error p_errorAt p_d_time p_d_tolerance p_d_seed p_d_madeTickets p_d_cheesesOfText p_d_R_rows p_d_R_cells p_d_U_rows p_d_U_cells p_d_S_rows p_d_S_cells p_d_T_rows p_d_T_cells p_d_E_rows p_d_E_cells s_time s_tolerance s_seed s_madeTickets s_cheesesOfText s_R_rows s_R_cells s_U_rows s_U_cells s_S_rows s_S_cells s_T_rows s_T_cells s_E_rows s_E_cells sl pa m_undoable m_undoStart m_thrown m_inputLength m_position m_start m_token m_value m_letters m_code m_place m_outputLength m_s m_parsed m_tried m_remembered m_slots m_kept m_away m_input m_halfway m_output h
  have hX : RELX (t + 1) i_count i_cells m_inputLength m_input p_error m_code p_errorAt m_place o_count o_cells m_outputLength m_output s_time s_tolerance s_seed s_madeTickets s_cheesesOfText s_R_rows s_R_cells s_U_rows s_U_cells s_S_rows s_S_cells s_T_rows s_T_cells s_E_rows s_E_cells m_s sl m_slots m_kept nextPast pastCount pa m_undoable m_undoStart m_remembered := h
  obtain ⟨ht, hin, her, hou, hst, hsl, hun⟩ := hX
  have hst1 := hst.mono (tbt_le t) (mbt_le t)
  have hsl1 := hsl.mono (tbt_le t) (mbt_le t)
  have hun1 := hun.mono (tbt_le t) (mbt_le t)
  have htb := tbt_max (t + 1)
  have hmb := mbt_max (t + 1)
  have H := RELX.mk (show t ≤ 512 by omega) hin her hou hst1 hsl1 hun1
  intro v1 v2
  obtain ⟨r, u, s, k, e, ⟨y0, y1, y2, y7, y9⟩, ⟨hR, hR2, hR3⟩, ⟨hU, hU2⟩, ⟨hS, hS2⟩, hT, hE, ⟨z1, z2, z3, z4, z5, z6⟩, hRI, hUI, hSI, hTI, hEI, hUZ⟩ := id hst
  obtain ⟨g3, g4, g5, g6, g8⟩ := ST_gs (tb := 0) (mb := 0) (tm := 0) (tol := 0) (seed := 0) (made := 0) (cot := 0) hR hU hS hT hE
  have ea : m_s 4 = s_U_rows := hU.2.2.1
  by_cases qa : v1 < 0 ∨ s_U_rows ≤ v1
  case pos =>
    refine ⟨(1, 0), (0, 1), ?_, Or.inr rfl, ?_, rfl, (fun z => nomatch z), H⟩
    · simp only [f_X11_skew, checkUser_out qa, ob_some, k10, if_false]
    · simp only [f_X12_skew, f_X12_noRealms, noUser_out g4 (by rw [ea]; exact qa), ob_some, i10, if_false]
  have na : ¬ v1 < 0 := fun z => qa (Or.inl z)
  have pa : ¬ s_U_rows ≤ v1 := fun z => qa (Or.inr z)
  obtain ⟨ia, la, ta⟩ := row_of hU.1 na pa
  have ca : f_X11_checkUser s_U_rows v1 = some 0 := checkUser_in na pa
  have ma : ∀ th, f_X12_noUser th m_s v1 = some (0, 0) := fun th => noUser_in g4 na (by rw [ea]; exact pa)
  have eb : m_s 3 = s_R_rows := hR.2.2.1
  by_cases qb : v2 < 0 ∨ s_R_rows ≤ v2
  case pos =>
    refine ⟨(1, 0), (0, 1), ?_, Or.inr rfl, ?_, rfl, (fun z => nomatch z), H⟩
    · simp only [f_X11_skew, ca, checkRealm_out qb, ob_some, k10, if_false, if_true]
    · simp only [f_X12_skew, f_X12_noRealms, ma, noRealm_out g3 (by rw [eb]; exact qb), ob_some, i10, if_false, if_true]
  have nb : ¬ v2 < 0 := fun z => qb (Or.inl z)
  have pb : ¬ s_R_rows ≤ v2 := fun z => qb (Or.inr z)
  obtain ⟨ib, lb, tb⟩ := row_of hR.1 nb pb
  have cb : f_X11_checkRealm s_R_rows v2 = some 0 := checkRealm_in nb pb
  have mb : ∀ th, f_X12_noRealm th m_s v2 = some (0, 0) := fun th => noRealm_in g3 nb (by rw [eb]; exact pb)
  have h5 := hR.2.1
  have h6 := hU.2.1
  refine ⟨(0, iabs (m_s (55 + 5 * ia + 3) - m_s (10 + 4 * ib + 3))), (iabs (m_s (55 + 5 * ia + 3) - m_s (10 + 4 * ib + 3)), 0), ?_, Or.inl rfl, ?_, rfl, fun _ => rfl, H⟩
  · simp only [f_X11_skew, ca, cb, skew_c hU hR ta la tb lb, ob_some, if_true]
  · simp only [f_X12_skew, f_X12_noRealms, ma, mb, skew_m ta (show ia < 6 by omega) tb (show ib < 5 by omega), ob_some, if_true]
theorem hh34 (t : Nat) : H34 (REL (t + 1)) (REL t) := by
  intro nextPast pastCount i_count i_cells o_count o_cells p_start p_end p_kind p_value p_error p_errorAt p_d_time p_d_tolerance p_d_seed p_d_madeTickets p_d_cheesesOfText p_d_R_rows p_d_R_cells p_d_U_rows p_d_U_cells p_d_S_rows p_d_S_cells p_d_T_rows p_d_T_cells p_d_E_rows p_d_E_cells s_time s_tolerance s_seed s_madeTickets s_cheesesOfText s_R_rows s_R_cells s_U_rows s_U_cells s_S_rows s_S_cells s_T_rows s_T_cells s_E_rows s_E_cells sl pa m_undoable m_undoStart m_thrown m_inputLength m_position m_start m_token m_value m_letters m_code m_place m_outputLength m_s m_parsed m_tried m_remembered m_slots m_kept m_away m_input m_halfway m_output h
  have hX : RELX (t + 1) i_count i_cells m_inputLength m_input p_error m_code p_errorAt m_place o_count o_cells m_outputLength m_output s_time s_tolerance s_seed s_madeTickets s_cheesesOfText s_R_rows s_R_cells s_U_rows s_U_cells s_S_rows s_S_cells s_T_rows s_T_cells s_E_rows s_E_cells m_s sl m_slots m_kept nextPast pastCount pa m_undoable m_undoStart m_remembered := h
  obtain ⟨ht, hin, her, hou, hst, hsl, hun⟩ := hX
  have hst1 := hst.mono (tbt_le t) (mbt_le t)
  have hsl1 := hsl.mono (tbt_le t) (mbt_le t)
  have hun1 := hun.mono (tbt_le t) (mbt_le t)
  have htb := tbt_max (t + 1)
  have hmb := mbt_max (t + 1)
  have H := RELX.mk (show t ≤ 512 by omega) hin her hou hst1 hsl1 hun1
  intro v1 v2
  obtain ⟨r, u, s, k, e, ⟨y0, y1, y2, y7, y9⟩, ⟨hR, hR2, hR3⟩, ⟨hU, hU2⟩, ⟨hS, hS2⟩, hT, hE, ⟨z1, z2, z3, z4, z5, z6⟩, hRI, hUI, hSI, hTI, hEI, hUZ⟩ := id hst
  obtain ⟨g3, g4, g5, g6, g8⟩ := ST_gs (tb := 0) (mb := 0) (tm := 0) (tol := 0) (seed := 0) (made := 0) (cot := 0) hR hU hS hT hE
  have ea : m_s 4 = s_U_rows := hU.2.2.1
  by_cases qa : v1 < 0 ∨ s_U_rows ≤ v1
  case pos =>
    refine ⟨(1, 0), (0, 1), ?_, Or.inr (Or.inl rfl), ?_, rfl, (fun z => nomatch z), H⟩
    · simp only [f_X11_loginRefusal, checkUser_out qa, ob_some, k10, if_false]
    · simp only [f_X12_loginRefusal, noUser_out g4 (by rw [ea]; exact qa), ob_some, i10, if_false]
  have na : ¬ v1 < 0 := fun z => qa (Or.inl z)
  have pa : ¬ s_U_rows ≤ v1 := fun z => qa (Or.inr z)
  obtain ⟨ia, la, ta⟩ := row_of hU.1 na pa
  have ca : f_X11_checkUser s_U_rows v1 = some 0 := checkUser_in na pa
  have ma : ∀ th, f_X12_noUser th m_s v1 = some (0, 0) := fun th => noUser_in g4 na (by rw [ea]; exact pa)
  by_cases hp : v2 < 0 ∨ 9999 < v2
  case pos =>
    refine ⟨(2, 0), (0, 2), ?_, Or.inr (Or.inr rfl), ?_, rfl, (fun z => nomatch z), H⟩
    · simp only [f_X11_loginRefusal, ca, pass_out hp, ob_some, k20, if_false, if_true]
    · simp only [f_X12_loginRefusal, ma, out_out hp, ob_some, i10, if_false, if_true]
  have hp1 : ¬ v2 < 0 := fun z => hp (Or.inl z)
  have hp2 : ¬ 9999 < v2 := fun z => hp (Or.inr z)
  obtain ⟨a, ha1, ha2⟩ := login_why (pw := v2) hU hR hT hUI y1 ta la
  refine ⟨(0, a), (a, 0), ?_, Or.inl rfl, ?_, rfl, fun _ => rfl, H⟩
  · simp only [f_X11_loginRefusal, ca, pass_in hp1 hp2, ha1, ob_some, if_true]
  · simp only [f_X12_loginRefusal, ma, out_in hp1 hp2, ha2, ob_some, if_true]
theorem hh35 (t : Nat) : H35 (REL (t + 1)) (REL t) := by
  intro nextPast pastCount i_count i_cells o_count o_cells p_start p_end p_kind p_value p_error p_errorAt p_d_time p_d_tolerance p_d_seed p_d_madeTickets p_d_cheesesOfText p_d_R_rows p_d_R_cells p_d_U_rows p_d_U_cells p_d_S_rows p_d_S_cells p_d_T_rows p_d_T_cells p_d_E_rows p_d_E_cells s_time s_tolerance s_seed s_madeTickets s_cheesesOfText s_R_rows s_R_cells s_U_rows s_U_cells s_S_rows s_S_cells s_T_rows s_T_cells s_E_rows s_E_cells sl pa m_undoable m_undoStart m_thrown m_inputLength m_position m_start m_token m_value m_letters m_code m_place m_outputLength m_s m_parsed m_tried m_remembered m_slots m_kept m_away m_input m_halfway m_output h
  have hX : RELX (t + 1) i_count i_cells m_inputLength m_input p_error m_code p_errorAt m_place o_count o_cells m_outputLength m_output s_time s_tolerance s_seed s_madeTickets s_cheesesOfText s_R_rows s_R_cells s_U_rows s_U_cells s_S_rows s_S_cells s_T_rows s_T_cells s_E_rows s_E_cells m_s sl m_slots m_kept nextPast pastCount pa m_undoable m_undoStart m_remembered := h
  obtain ⟨ht, hin, her, hou, hst, hsl, hun⟩ := hX
  have hst1 := hst.mono (tbt_le t) (mbt_le t)
  have hsl1 := hsl.mono (tbt_le t) (mbt_le t)
  have hun1 := hun.mono (tbt_le t) (mbt_le t)
  have htb := tbt_max (t + 1)
  have hmb := mbt_max (t + 1)
  have H := RELX.mk (show t ≤ 512 by omega) hin her hou hst1 hsl1 hun1
  intro v1 v2
  obtain ⟨r, u, s, k, e, ⟨y0, y1, y2, y7, y9⟩, ⟨hR, hR2, hR3⟩, ⟨hU, hU2⟩, ⟨hS, hS2⟩, hT, hE, ⟨z1, z2, z3, z4, z5, z6⟩, hRI, hUI, hSI, hTI, hEI, hUZ⟩ := id hst
  obtain ⟨g3, g4, g5, g6, g8⟩ := ST_gs (tb := 0) (mb := 0) (tm := 0) (tol := 0) (seed := 0) (made := 0) (cot := 0) hR hU hS hT hE
  obtain ⟨row, f1, f2, f3⟩ := find_all hT v1
  by_cases hq : row = -1
  case pos =>
    rw [hq] at f1 f2
    refine ⟨(4, 0), (0, 1), ?_, Or.inr (Or.inl rfl), ?_, rfl, (fun z => nomatch z), H⟩
    · simp only [f_X11_referRefusal, rowOf_none f1, ob_some, k40, if_false]
    · simp only [f_X12_referRefusal, noTicket_none f2, ob_some, i10, if_false]
  obtain ⟨i, li, ti, -⟩ := f3.resolve_left hq
  have ct := rowOf_some f1 hq
  have mt : ∀ th, f_X12_noTicket th m_s v1 = some (0, 0) := fun th => noTicket_some f2 hq
  have li6 : (i : Int) < (m_s 6).toInt := by rw [g6]; omega
  have eb : m_s 3 = s_R_rows := hR.2.2.1
  have hb1 : ∀ v : Int32, m_s 3 - 1 < v ↔ s_R_rows ≤ v := fun v => by rw [below_one g3, eb]
  by_cases qb : v2 < 0 ∨ s_R_rows ≤ v2
  case pos =>
    refine ⟨(1, 0), (0, 2), ?_, Or.inr (Or.inr rfl), ?_, rfl, (fun z => nomatch z), H⟩
    · simp only [f_X11_referRefusal, ct, checkRealm_out qb, ob_some, k10, if_false, if_true]
    · simp only [f_X12_referRefusal, mt, zM3, out_out (qb.imp id (hb1 v2).mpr), ob_some, i10, if_false, if_true]
  have nb : ¬ v2 < 0 := fun z => qb (Or.inl z)
  have pb : ¬ s_R_rows ≤ v2 := fun z => qb (Or.inr z)
  obtain ⟨jb, lb, tb⟩ := row_of hR.1 nb pb
  obtain ⟨a, ha1, ha2⟩ := refer_why hR hR3 hU hT hTI y0 y1 ti li tb lb
  refine ⟨(0, a), (a, 0), ?_, Or.inl rfl, ?_, rfl, fun _ => rfl, H⟩
  · simp only [f_X11_referRefusal, ct, checkRealm_in nb pb, ha1, ob_some, if_true]
  · simp only [f_X12_referRefusal, mt, zM3, out_in nb (fun z => pb ((hb1 v2).mp z)), f2, ha2, ob_some, if_true]
theorem hh36 (t : Nat) : H36 (REL (t + 1)) (REL t) := by
  intro nextPast pastCount i_count i_cells o_count o_cells p_start p_end p_kind p_value p_error p_errorAt p_d_time p_d_tolerance p_d_seed p_d_madeTickets p_d_cheesesOfText p_d_R_rows p_d_R_cells p_d_U_rows p_d_U_cells p_d_S_rows p_d_S_cells p_d_T_rows p_d_T_cells p_d_E_rows p_d_E_cells s_time s_tolerance s_seed s_madeTickets s_cheesesOfText s_R_rows s_R_cells s_U_rows s_U_cells s_S_rows s_S_cells s_T_rows s_T_cells s_E_rows s_E_cells sl pa m_undoable m_undoStart m_thrown m_inputLength m_position m_start m_token m_value m_letters m_code m_place m_outputLength m_s m_parsed m_tried m_remembered m_slots m_kept m_away m_input m_halfway m_output h
  have hX : RELX (t + 1) i_count i_cells m_inputLength m_input p_error m_code p_errorAt m_place o_count o_cells m_outputLength m_output s_time s_tolerance s_seed s_madeTickets s_cheesesOfText s_R_rows s_R_cells s_U_rows s_U_cells s_S_rows s_S_cells s_T_rows s_T_cells s_E_rows s_E_cells m_s sl m_slots m_kept nextPast pastCount pa m_undoable m_undoStart m_remembered := h
  obtain ⟨ht, hin, her, hou, hst, hsl, hun⟩ := hX
  have hst1 := hst.mono (tbt_le t) (mbt_le t)
  have hsl1 := hsl.mono (tbt_le t) (mbt_le t)
  have hun1 := hun.mono (tbt_le t) (mbt_le t)
  have htb := tbt_max (t + 1)
  have hmb := mbt_max (t + 1)
  have H := RELX.mk (show t ≤ 512 by omega) hin her hou hst1 hsl1 hun1
  intro v1 v2
  obtain ⟨r, u, s, k, e, ⟨y0, y1, y2, y7, y9⟩, ⟨hR, hR2, hR3⟩, ⟨hU, hU2⟩, ⟨hS, hS2⟩, hT, hE, ⟨z1, z2, z3, z4, z5, z6⟩, hRI, hUI, hSI, hTI, hEI, hUZ⟩ := id hst
  obtain ⟨g3, g4, g5, g6, g8⟩ := ST_gs (tb := 0) (mb := 0) (tm := 0) (tol := 0) (seed := 0) (made := 0) (cot := 0) hR hU hS hT hE
  obtain ⟨row, f1, f2, f3⟩ := find_all hT v1
  by_cases hq : row = -1
  case pos =>
    rw [hq] at f1 f2
    refine ⟨(4, 0), (0, 1), ?_, Or.inr (Or.inl rfl), ?_, rfl, (fun z => nomatch z), H⟩
    · simp only [f_X11_requestRefusal, rowOf_none f1, ob_some, k40, if_false]
    · simp only [f_X12_requestRefusal, noTicket_none f2, ob_some, i10, if_false]
  obtain ⟨i, li, ti, -⟩ := f3.resolve_left hq
  have ct := rowOf_some f1 hq
  have mt : ∀ th, f_X12_noTicket th m_s v1 = some (0, 0) := fun th => noTicket_some f2 hq
  have li6 : (i : Int) < (m_s 6).toInt := by rw [g6]; omega
  have eb : m_s 5 = s_S_rows := hS.2.2.1
  have hb1 : ∀ v : Int32, m_s 5 - 1 < v ↔ s_S_rows ≤ v := fun v => by rw [below_one g5, eb]
  by_cases qb : v2 < 0 ∨ s_S_rows ≤ v2
  case pos =>
    refine ⟨(1, 0), (0, 2), ?_, Or.inr (Or.inr rfl), ?_, rfl, (fun z => nomatch z), H⟩
    · simp only [f_X11_requestRefusal, ct, checkService_out qb, ob_some, k10, if_false, if_true]
    · simp only [f_X12_requestRefusal, mt, zM5, out_out (qb.imp id (hb1 v2).mpr), ob_some, i10, if_false, if_true]
  have nb : ¬ v2 < 0 := fun z => qb (Or.inl z)
  have pb : ¬ s_S_rows ≤ v2 := fun z => qb (Or.inr z)
  obtain ⟨jb, lb, tb⟩ := row_of hS.1 nb pb
  obtain ⟨a, ha1, ha2⟩ := request_why hR hU hS hT hTI y0 y1 ti li tb lb
  refine ⟨(0, a), (a, 0), ?_, Or.inl rfl, ?_, rfl, fun _ => rfl, H⟩
  · simp only [f_X11_requestRefusal, ct, checkService_in nb pb, ha1, ob_some, if_true]
  · simp only [f_X12_requestRefusal, mt, zM5, out_in nb (fun z => pb ((hb1 v2).mp z)), f2, ha2, ob_some, if_true]
theorem hh37 (t : Nat) : H37 (REL (t + 1)) (REL t) := by
  intro nextPast pastCount i_count i_cells o_count o_cells p_start p_end p_kind p_value p_error p_errorAt p_d_time p_d_tolerance p_d_seed p_d_madeTickets p_d_cheesesOfText p_d_R_rows p_d_R_cells p_d_U_rows p_d_U_cells p_d_S_rows p_d_S_cells p_d_T_rows p_d_T_cells p_d_E_rows p_d_E_cells s_time s_tolerance s_seed s_madeTickets s_cheesesOfText s_R_rows s_R_cells s_U_rows s_U_cells s_S_rows s_S_cells s_T_rows s_T_cells s_E_rows s_E_cells sl pa m_undoable m_undoStart m_thrown m_inputLength m_position m_start m_token m_value m_letters m_code m_place m_outputLength m_s m_parsed m_tried m_remembered m_slots m_kept m_away m_input m_halfway m_output h
  have hX : RELX (t + 1) i_count i_cells m_inputLength m_input p_error m_code p_errorAt m_place o_count o_cells m_outputLength m_output s_time s_tolerance s_seed s_madeTickets s_cheesesOfText s_R_rows s_R_cells s_U_rows s_U_cells s_S_rows s_S_cells s_T_rows s_T_cells s_E_rows s_E_cells m_s sl m_slots m_kept nextPast pastCount pa m_undoable m_undoStart m_remembered := h
  obtain ⟨ht, hin, her, hou, hst, hsl, hun⟩ := hX
  have hst1 := hst.mono (tbt_le t) (mbt_le t)
  have hsl1 := hsl.mono (tbt_le t) (mbt_le t)
  have hun1 := hun.mono (tbt_le t) (mbt_le t)
  have htb := tbt_max (t + 1)
  have hmb := mbt_max (t + 1)
  have H := RELX.mk (show t ≤ 512 by omega) hin her hou hst1 hsl1 hun1
  intro v1
  obtain ⟨r, u, s, k, e, ⟨y0, y1, y2, y7, y9⟩, ⟨hR, hR2, hR3⟩, ⟨hU, hU2⟩, ⟨hS, hS2⟩, hT, hE, ⟨z1, z2, z3, z4, z5, z6⟩, hRI, hUI, hSI, hTI, hEI, hUZ⟩ := id hst
  obtain ⟨g3, g4, g5, g6, g8⟩ := ST_gs (tb := 0) (mb := 0) (tm := 0) (tol := 0) (seed := 0) (made := 0) (cot := 0) hR hU hS hT hE
  obtain ⟨row, f1, f2, f3⟩ := find_all hT v1
  by_cases hq : row = -1
  case pos =>
    rw [hq] at f1 f2
    refine ⟨(4, 0), (0, 1), ?_, Or.inr rfl, ?_, rfl, (fun z => nomatch z), H⟩
    · simp only [f_X11_renewRefusal, rowOf_none f1, ob_some, k40, if_false]
    · simp only [f_X12_renewRefusal, noTicket_none f2, ob_some, i10, if_false]
  obtain ⟨i, li, ti, -⟩ := f3.resolve_left hq
  have ct := rowOf_some f1 hq
  have mt : ∀ th, f_X12_noTicket th m_s v1 = some (0, 0) := fun th => noTicket_some f2 hq
  have li6 : (i : Int) < (m_s 6).toInt := by rw [g6]; omega
  obtain ⟨a, ha1, ha2⟩ := renew_why hR hT hTI y0 ti li
  refine ⟨(0, a), (a, 0), ?_, Or.inl rfl, ?_, rfl, fun _ => rfl, H⟩
  · simp only [f_X11_renewRefusal, ct, ha1, ob_some, if_true]
  · simp only [f_X12_renewRefusal, mt, f2, ha2, ob_some, if_true]
theorem hh38 (t : Nat) : H38 (REL (t + 1)) (REL t) := by
  intro nextPast pastCount i_count i_cells o_count o_cells p_start p_end p_kind p_value p_error p_errorAt p_d_time p_d_tolerance p_d_seed p_d_madeTickets p_d_cheesesOfText p_d_R_rows p_d_R_cells p_d_U_rows p_d_U_cells p_d_S_rows p_d_S_cells p_d_T_rows p_d_T_cells p_d_E_rows p_d_E_cells s_time s_tolerance s_seed s_madeTickets s_cheesesOfText s_R_rows s_R_cells s_U_rows s_U_cells s_S_rows s_S_cells s_T_rows s_T_cells s_E_rows s_E_cells sl pa m_undoable m_undoStart m_thrown m_inputLength m_position m_start m_token m_value m_letters m_code m_place m_outputLength m_s m_parsed m_tried m_remembered m_slots m_kept m_away m_input m_halfway m_output h
  have hX : RELX (t + 1) i_count i_cells m_inputLength m_input p_error m_code p_errorAt m_place o_count o_cells m_outputLength m_output s_time s_tolerance s_seed s_madeTickets s_cheesesOfText s_R_rows s_R_cells s_U_rows s_U_cells s_S_rows s_S_cells s_T_rows s_T_cells s_E_rows s_E_cells m_s sl m_slots m_kept nextPast pastCount pa m_undoable m_undoStart m_remembered := h
  obtain ⟨ht, hin, her, hou, hst, hsl, hun⟩ := hX
  have hst1 := hst.mono (tbt_le t) (mbt_le t)
  have hsl1 := hsl.mono (tbt_le t) (mbt_le t)
  have hun1 := hun.mono (tbt_le t) (mbt_le t)
  have htb := tbt_max (t + 1)
  have hmb := mbt_max (t + 1)
  have H := RELX.mk (show t ≤ 512 by omega) hin her hou hst1 hsl1 hun1
  intro v1
  obtain ⟨r, u, s, k, e, ⟨y0, y1, y2, y7, y9⟩, ⟨hR, hR2, hR3⟩, ⟨hU, hU2⟩, ⟨hS, hS2⟩, hT, hE, ⟨z1, z2, z3, z4, z5, z6⟩, hRI, hUI, hSI, hTI, hEI, hUZ⟩ := id hst
  obtain ⟨g3, g4, g5, g6, g8⟩ := ST_gs (tb := 0) (mb := 0) (tm := 0) (tol := 0) (seed := 0) (made := 0) (cot := 0) hR hU hS hT hE
  obtain ⟨row, f1, f2, f3⟩ := find_all hT v1
  by_cases hq : row = -1
  case pos =>
    rw [hq] at f1 f2
    refine ⟨(4, 0), (0, 1), ?_, Or.inr rfl, ?_, rfl, (fun z => nomatch z), H⟩
    · simp only [f_X11_cheeseRefusal, rowOf_none f1, ob_some, k40, if_false]
    · simp only [f_X12_cheeseRefusal, noTicket_none f2, ob_some, i10, if_false]
  obtain ⟨i, li, ti, -⟩ := f3.resolve_left hq
  have ct := rowOf_some f1 hq
  have mt : ∀ th, f_X12_noTicket th m_s v1 = some (0, 0) := fun th => noTicket_some f2 hq
  have li6 : (i : Int) < (m_s 6).toInt := by rw [g6]; omega
  obtain ⟨a, ha1, ha2⟩ := cheese_now hst htb ti li6
  refine ⟨(0, a), (a, 0), ?_, Or.inl rfl, ?_, rfl, fun _ => rfl, H⟩
  · simp only [f_X11_cheeseRefusal, ct, ha1, ob_some, if_true]
  · simp only [f_X12_cheeseRefusal, mt, f2, ha2, ob_some, if_true]
theorem hh39 (t : Nat) : H39 (REL (t + 1)) (REL t) := by
  intro nextPast pastCount i_count i_cells o_count o_cells p_start p_end p_kind p_value p_error p_errorAt p_d_time p_d_tolerance p_d_seed p_d_madeTickets p_d_cheesesOfText p_d_R_rows p_d_R_cells p_d_U_rows p_d_U_cells p_d_S_rows p_d_S_cells p_d_T_rows p_d_T_cells p_d_E_rows p_d_E_cells s_time s_tolerance s_seed s_madeTickets s_cheesesOfText s_R_rows s_R_cells s_U_rows s_U_cells s_S_rows s_S_cells s_T_rows s_T_cells s_E_rows s_E_cells sl pa m_undoable m_undoStart m_thrown m_inputLength m_position m_start m_token m_value m_letters m_code m_place m_outputLength m_s m_parsed m_tried m_remembered m_slots m_kept m_away m_input m_halfway m_output h
  have hX : RELX (t + 1) i_count i_cells m_inputLength m_input p_error m_code p_errorAt m_place o_count o_cells m_outputLength m_output s_time s_tolerance s_seed s_madeTickets s_cheesesOfText s_R_rows s_R_cells s_U_rows s_U_cells s_S_rows s_S_cells s_T_rows s_T_cells s_E_rows s_E_cells m_s sl m_slots m_kept nextPast pastCount pa m_undoable m_undoStart m_remembered := h
  obtain ⟨ht, hin, her, hou, hst, hsl, hun⟩ := hX
  have hst1 := hst.mono (tbt_le t) (mbt_le t)
  have hsl1 := hsl.mono (tbt_le t) (mbt_le t)
  have hun1 := hun.mono (tbt_le t) (mbt_le t)
  have htb := tbt_max (t + 1)
  have hmb := mbt_max (t + 1)
  have H := RELX.mk (show t ≤ 512 by omega) hin her hou hst1 hsl1 hun1
  obtain ⟨r, u, s, k, e, ⟨y0, y1, y2, y7, y9⟩, ⟨hR, hR2, hR3⟩, ⟨hU, hU2⟩, ⟨hS, hS2⟩, hT, hE, ⟨z1, z2, z3, z4, z5, z6⟩, hRI, hUI, hSI, hTI, hEI, hUZ⟩ := id hst
  obtain ⟨g3, g4, g5, g6, g8⟩ := ST_gs (tb := 0) (mb := 0) (tm := 0) (tol := 0) (seed := 0) (made := 0) (cot := 0) hR hU hS hT hE
  obtain ⟨b, b1, b2, -⟩ := alive_same (tm := s_time) (g' := m_s) hT y0 rfl (fun j _ _ => rfl)
  exact ⟨b, (b, 0), by unfold f_X11_validTickets; rw [b1, ob_some], by unfold f_X12_validTickets; rw [b2, ob_some], rfl, H⟩
theorem hh40 (t : Nat) : H40 (REL (t + 1)) (REL t) := by
  intro nextPast pastCount i_count i_cells o_count o_cells p_start p_end p_kind p_value p_error p_errorAt p_d_time p_d_tolerance p_d_seed p_d_madeTickets p_d_cheesesOfText p_d_R_rows p_d_R_cells p_d_U_rows p_d_U_cells p_d_S_rows p_d_S_cells p_d_T_rows p_d_T_cells p_d_E_rows p_d_E_cells s_time s_tolerance s_seed s_madeTickets s_cheesesOfText s_R_rows s_R_cells s_U_rows s_U_cells s_S_rows s_S_cells s_T_rows s_T_cells s_E_rows s_E_cells sl pa m_undoable m_undoStart m_thrown m_inputLength m_position m_start m_token m_value m_letters m_code m_place m_outputLength m_s m_parsed m_tried m_remembered m_slots m_kept m_away m_input m_halfway m_output h
  have hX : RELX (t + 1) i_count i_cells m_inputLength m_input p_error m_code p_errorAt m_place o_count o_cells m_outputLength m_output s_time s_tolerance s_seed s_madeTickets s_cheesesOfText s_R_rows s_R_cells s_U_rows s_U_cells s_S_rows s_S_cells s_T_rows s_T_cells s_E_rows s_E_cells m_s sl m_slots m_kept nextPast pastCount pa m_undoable m_undoStart m_remembered := h
  obtain ⟨ht, hin, her, hou, hst, hsl, hun⟩ := hX
  have hst1 := hst.mono (tbt_le t) (mbt_le t)
  have hsl1 := hsl.mono (tbt_le t) (mbt_le t)
  have hun1 := hun.mono (tbt_le t) (mbt_le t)
  have htb := tbt_max (t + 1)
  have hmb := mbt_max (t + 1)
  have H := RELX.mk (show t ≤ 512 by omega) hin her hou hst1 hsl1 hun1
  intro v1
  obtain ⟨r, u, s, k, e, ⟨y0, y1, y2, y7, y9⟩, ⟨hR, hR2, hR3⟩, ⟨hU, hU2⟩, ⟨hS, hS2⟩, hT, hE, ⟨z1, z2, z3, z4, z5, z6⟩, hRI, hUI, hSI, hTI, hEI, hUZ⟩ := id hst
  obtain ⟨g3, g4, g5, g6, g8⟩ := ST_gs (tb := 0) (mb := 0) (tm := 0) (tol := 0) (seed := 0) (made := 0) (cot := 0) hR hU hS hT hE
  by_cases hp : v1 < 0 ∨ 999 < v1
  case pos =>
    refine ⟨(2, 0), (0, 1, m_tried), ?_, Or.inr rfl, ?_, rfl, (fun z => nomatch z), H⟩
    · unfold f_X11_validAfter
      by_cases h1 : v1 < 0
      · rw [if_pos h1]
      · rw [if_neg h1, if_neg (fun z => by
          have h2 := hp.resolve_left h1
          rw [Int32.le_iff_toInt_le] at z
          rw [Int32.lt_iff_toInt_lt] at h2
          omega)]
    · simp only [f_X12_validAfter, noNumber_out hp, ob_some, i10, if_false]
  have hp1 : ¬ v1 < 0 := fun z => hp (Or.inl z)
  have hp2 : ¬ 999 < v1 := fun z => hp (Or.inr z)
  have hcp : ∀ j, j < 463 → cpy m_s m_tried 0 0 j = m_s j := fun j hj => by rw [cpy_in (i := j) (by omega) hj, Nat.zero_add]
  obtain ⟨b, b1, b2, -⟩ := alive_same (tm := s_time + v1) (g' := upd (cpy m_s m_tried 0 0) 0 (m_s 0 + v1)) hT (by rw [upd_eq rfl, y0]) (by rw [upd_ne (by decide), hcp _ (by decide)]) (fun j h1 h2 => by rw [upd_ne (by omega), hcp _ (by omega)])
  refine ⟨(0, b), (b, 0, upd (cpy m_s m_tried 0 0) 0 (m_s 0 + v1)), ?_, Or.inl rfl, ?_, rfl, fun _ => rfl, H⟩
  · unfold f_X11_validAfter
    rw [if_neg hp1, if_pos (by rw [Int32.le_iff_toInt_le]; rw [Int32.lt_iff_toInt_lt] at hp2; omega), b1, ob_some]
  · simp only [f_X12_validAfter, noNumber_in hp1 hp2, copyRow_m (fn := 463) (tn := 463) (a := 0) (b := 0) (v1 := 0) (v3 := 0) (by decide) (by decide) (by decide) (by decide) (by decide) (by decide), zM0, zW0, hcp 0 (by decide), b2, ob_some, if_true]
theorem hh14 (t : Nat) : H14 (REL (t + 1)) (REL t) := by
  intro nextPast pastCount i_count i_cells o_count o_cells p_start p_end p_kind p_value p_error p_errorAt p_d_time p_d_tolerance p_d_seed p_d_madeTickets p_d_cheesesOfText p_d_R_rows p_d_R_cells p_d_U_rows p_d_U_cells p_d_S_rows p_d_S_cells p_d_T_rows p_d_T_cells p_d_E_rows p_d_E_cells s_time s_tolerance s_seed s_madeTickets s_cheesesOfText s_R_rows s_R_cells s_U_rows s_U_cells s_S_rows s_S_cells s_T_rows s_T_cells s_E_rows s_E_cells sl pa m_undoable m_undoStart m_thrown m_inputLength m_position m_start m_token m_value m_letters m_code m_place m_outputLength m_s m_parsed m_tried m_remembered m_slots m_kept m_away m_input m_halfway m_output h
  have hX : RELX (t + 1) i_count i_cells m_inputLength m_input p_error m_code p_errorAt m_place o_count o_cells m_outputLength m_output s_time s_tolerance s_seed s_madeTickets s_cheesesOfText s_R_rows s_R_cells s_U_rows s_U_cells s_S_rows s_S_cells s_T_rows s_T_cells s_E_rows s_E_cells m_s sl m_slots m_kept nextPast pastCount pa m_undoable m_undoStart m_remembered := h
  obtain ⟨ht, hin, her, hou, hst, hsl, hun⟩ := hX
  have hst1 := hst.mono (tbt_le t) (mbt_le t)
  have hsl1 := hsl.mono (tbt_le t) (mbt_le t)
  have hun1 := hun.mono (tbt_le t) (mbt_le t)
  have htb := tbt_max (t + 1)
  have hmb := mbt_max (t + 1)
  have H := RELX.mk (show t ≤ 512 by omega) hin her hou hst1 hsl1 hun1
  intro v1 v2
  obtain ⟨r, u, s, k, e, ⟨y0, y1, y2, y7, y9⟩, ⟨hR, hR2, hR3⟩, ⟨hU, hU2⟩, ⟨hS, hS2⟩, hT, hE, ⟨z1, z2, z3, z4, z5, z6⟩, hRI, hUI, hSI, hTI, hEI, hUZ⟩ := id hst
  obtain ⟨g3, g4, g5, g6, g8⟩ := ST_gs (tb := 0) (mb := 0) (tm := 0) (tol := 0) (seed := 0) (made := 0) (cot := 0) hR hU hS hT hE
  have ea : m_s 3 = s_R_rows := hR.2.2.1
  by_cases qa : v1 < 0 ∨ s_R_rows ≤ v1
  case pos =>
    refine ⟨(1, 0), (0, 1, m_away), ?_, Or.inr rfl, ?_, rfl, (fun z => nomatch z), H⟩
    · simp only [f_X11_distance, checkRealm_out qa, ob_some, k10, if_false]
    · simp only [f_X12_distance, f_X12_noRealms, noRealm_out g3 (by rw [ea]; exact qa), ob_some, i10, if_false]
  have na : ¬ v1 < 0 := fun z => qa (Or.inl z)
  have pa : ¬ s_R_rows ≤ v1 := fun z => qa (Or.inr z)
  obtain ⟨ia, la, ta⟩ := row_of hR.1 na pa
  have ca : f_X11_checkRealm s_R_rows v1 = some 0 := checkRealm_in na pa
  have ma : ∀ th, f_X12_noRealm th m_s v1 = some (0, 0) := fun th => noRealm_in g3 na (by rw [ea]; exact pa)
  have eb : m_s 3 = s_R_rows := hR.2.2.1
  by_cases qb : v2 < 0 ∨ s_R_rows ≤ v2
  case pos =>
    refine ⟨(1, 0), (0, 1, m_away), ?_, Or.inr rfl, ?_, rfl, (fun z => nomatch z), H⟩
    · simp only [f_X11_distance, ca, checkRealm_out qb, ob_some, k10, if_false, if_true]
    · simp only [f_X12_distance, f_X12_noRealms, ma, noRealm_out g3 (by rw [eb]; exact qb), ob_some, i10, if_false, if_true]
  have nb : ¬ v2 < 0 := fun z => qb (Or.inl z)
  have pb : ¬ s_R_rows ≤ v2 := fun z => qb (Or.inr z)
  obtain ⟨ib, lb, tb⟩ := row_of hR.1 nb pb
  have cb : f_X11_checkRealm s_R_rows v2 = some 0 := checkRealm_in nb pb
  have mb : ∀ th, f_X12_noRealm th m_s v2 = some (0, 0) := fun th => noRealm_in g3 nb (by rw [eb]; exact pb)
  obtain ⟨mk, k1, k2⟩ := TRU_bits hR3 hR.2.1
  obtain ⟨aw, h1⟩ := far_m (away := m_away) g3 hR.2.1 (fun i hi => (k1 i hi).2) k2 ta la tb lb
  refine ⟨(0, RA mk r ia ib 5 0), (RA mk r ia ib 5 0, 0, aw), ?_, Or.inl rfl, ?_, rfl, fun _ => rfl, H⟩
  · simp only [f_X11_distance, ca, cb, ref_c hR k1 ta la tb lb, ob_some, if_true]
  · simp only [f_X12_distance, f_X12_noRealms, ma, mb, h1, ob_some, if_true]
theorem hh15 (t : Nat) : H15 (REL (t + 1)) (REL t) := by
  intro nextPast pastCount i_count i_cells o_count o_cells p_start p_end p_kind p_value p_error p_errorAt p_d_time p_d_tolerance p_d_seed p_d_madeTickets p_d_cheesesOfText p_d_R_rows p_d_R_cells p_d_U_rows p_d_U_cells p_d_S_rows p_d_S_cells p_d_T_rows p_d_T_cells p_d_E_rows p_d_E_cells s_time s_tolerance s_seed s_madeTickets s_cheesesOfText s_R_rows s_R_cells s_U_rows s_U_cells s_S_rows s_S_cells s_T_rows s_T_cells s_E_rows s_E_cells sl pa m_undoable m_undoStart m_thrown m_inputLength m_position m_start m_token m_value m_letters m_code m_place m_outputLength m_s m_parsed m_tried m_remembered m_slots m_kept m_away m_input m_halfway m_output h
  have hX : RELX (t + 1) i_count i_cells m_inputLength m_input p_error m_code p_errorAt m_place o_count o_cells m_outputLength m_output s_time s_tolerance s_seed s_madeTickets s_cheesesOfText s_R_rows s_R_cells s_U_rows s_U_cells s_S_rows s_S_cells s_T_rows s_T_cells s_E_rows s_E_cells m_s sl m_slots m_kept nextPast pastCount pa m_undoable m_undoStart m_remembered := h
  obtain ⟨ht, hin, her, hou, hst, hsl, hun⟩ := hX
  have hst1 := hst.mono (tbt_le t) (mbt_le t)
  have hsl1 := hsl.mono (tbt_le t) (mbt_le t)
  have hun1 := hun.mono (tbt_le t) (mbt_le t)
  have htb := tbt_max (t + 1)
  have hmb := mbt_max (t + 1)
  have H := RELX.mk (show t ≤ 512 by omega) hin her hou hst1 hsl1 hun1
  intro v1 v2
  obtain ⟨r, u, s, k, e, ⟨y0, y1, y2, y7, y9⟩, ⟨hR, hR2, hR3⟩, ⟨hU, hU2⟩, ⟨hS, hS2⟩, hT, hE, ⟨z1, z2, z3, z4, z5, z6⟩, hRI, hUI, hSI, hTI, hEI, hUZ⟩ := id hst
  obtain ⟨g3, g4, g5, g6, g8⟩ := ST_gs (tb := 0) (mb := 0) (tm := 0) (tol := 0) (seed := 0) (made := 0) (cot := 0) hR hU hS hT hE
  have hr5 := hR.2.1
  have ea : m_s 3 = s_R_rows := hR.2.2.1
  by_cases qa : v1 < 0 ∨ s_R_rows ≤ v1
  case pos =>
    refine ⟨(1, 0), (0, 1, m_away), ?_, Or.inr rfl, ?_, rfl, (fun z => nomatch z), H⟩
    · simp only [f_X11_nextRealm, checkRealm_out qa, ob_some, k10, if_false]
    · simp only [f_X12_nextRealm, f_X12_noRealms, noRealm_out g3 (by rw [ea]; exact qa), ob_some, i10, if_false]
  have na : ¬ v1 < 0 := fun z => qa (Or.inl z)
  have pa : ¬ s_R_rows ≤ v1 := fun z => qa (Or.inr z)
  obtain ⟨ia, la, ta⟩ := row_of hR.1 na pa
  have ca : f_X11_checkRealm s_R_rows v1 = some 0 := checkRealm_in na pa
  have ma : ∀ th, f_X12_noRealm th m_s v1 = some (0, 0) := fun th => noRealm_in g3 na (by rw [ea]; exact pa)
  have eb : m_s 3 = s_R_rows := hR.2.2.1
  by_cases qb : v2 < 0 ∨ s_R_rows ≤ v2
  case pos =>
    refine ⟨(1, 0), (0, 1, m_away), ?_, Or.inr rfl, ?_, rfl, (fun z => nomatch z), H⟩
    · simp only [f_X11_nextRealm, ca, checkRealm_out qb, ob_some, k10, if_false, if_true]
    · simp only [f_X12_nextRealm, f_X12_noRealms, ma, noRealm_out g3 (by rw [eb]; exact qb), ob_some, i10, if_false, if_true]
  have nb : ¬ v2 < 0 := fun z => qb (Or.inl z)
  have pb : ¬ s_R_rows ≤ v2 := fun z => qb (Or.inr z)
  obtain ⟨ib, lb, tb⟩ := row_of hR.1 nb pb
  have cb : f_X11_checkRealm s_R_rows v2 = some 0 := checkRealm_in nb pb
  have mb : ∀ th, f_X12_noRealm th m_s v2 = some (0, 0) := fun th => noRealm_in g3 nb (by rw [eb]; exact pb)
  obtain ⟨mk, k1, k2⟩ := TRU_bits hR3 hR.2.1
  obtain ⟨aw, h1⟩ := far_m (away := m_away) g3 hR.2.1 (fun i hi => (k1 i hi).2) k2 ta la tb lb
  obtain ⟨oo, aw2, n1, n2⟩ := next_L (w := RA mk r ia ib 5 0) (th := 0) hR hR3 k1 k2 ta la tb lb 5000 0 0 aw (by decide) (by omega) (by omega)
  refine ⟨(0, oo), (oo, 0, aw2), ?_, Or.inl rfl, ?_, rfl, fun _ => rfl, H⟩
  · simp only [f_X11_nextRealm, f_X2_firstOnWay, ca, cb, ref_c hR k1 ta la tb lb, n1, ob_some, if_true]
  · simp only [f_X12_nextRealm, f_X12_noRealms, ma, mb, h1, n2, ob_some, if_true]
