/-! PURE: what is asked of the input, of slots and of undo. -/
theorem and255 (y : Int32) : y &&& 255 = Int32.ofNat (y.toBitVec.toNat % 2 ^ 8) := b_ext fun i hi => by
  rw [b_and, b_255, bt_nat hi, Nat.testBit_mod_two_pow]
  show (y.toBitVec.toNat.testBit i && decide (i < 8)) = _
  rw [Bool.and_comm]
theorem and255_rng (y : Int32) : 0 ≤ (y &&& 255).toInt ∧ (y &&& 255).toInt ≤ 255 := by
  rw [and255, ti_nat (by omega)]
  omega
theorem putIn {n : Nat} {ic ml x v : Int32} {ib mi : Nat → Int32} (h : INPn n ic ib ml mi) (hn : n < 600) (hv : x &&& 255 = v) : f_X0_add 600 ic ib x = some (ic + 1, upd ib n v) ∧ wr mi 600 ml v = some (upd mi n v) ∧ INPn (n + 1) (ic + 1) (upd ib n v) (ml + 1) (upd mi n v) := by
  obtain ⟨h1, h2, h3, h4⟩ := h
  have hl : ml.toInt = (n : Int) := by rw [← h3]; exact h1
  refine ⟨?_, wr_to hl hn, ti_inc h1 (by omega), by omega, by rw [h3], fun k hk => ?_⟩
  · unfold f_X0_add
    rw [if_neg (ti_neg h1 (by omega)), if_neg (by rw [ti_le (ti_nat (by decide)) h1]; omega), hv, wr_to h1 hn, ob_some]
  · by_cases hkn : k = n
    · rw [upd_eq hkn, upd_eq hkn]
      refine ⟨rfl, ?_⟩
      rw [← hv]
      exact and255_rng x
    · rw [upd_ne hkn, upd_ne hkn]
      exact h4 k (by omega)
theorem by24 (x : Int32) : (ushr x 24) &&& 255 = (x >>> ((24 : Int32) &&& 31)) &&& 255 := byte_same (s := 24) (by decide)
theorem by16 (x : Int32) : (ushr x 16) &&& 255 = (x >>> ((16 : Int32) &&& 31)) &&& 255 := byte_same (s := 16) (by decide)
theorem by8 (x : Int32) : (ushr x 8) &&& 255 = (x >>> ((8 : Int32) &&& 31)) &&& 255 := byte_same (s := 8) (by decide)
theorem by0 (x : Int32) : x &&& 255 = (x >>> ((0 : Int32) &&& 31)) &&& 255 := by
  rw [show ((0 : Int32) &&& 31) = 0 by decide, Int32.shiftRight_zero]
theorem word_L {f : Nat} {v l0 l1 l2 l3 l4 : Int32} {m0 m1 m2 m3 m4 : Nat → Int32} (h1 : wr m0 600 l0 ((v >>> ((24 : Int32) &&& 31)) &&& 255) = some m1) (e1 : l0 + 1 = l1) (h2 : wr m1 600 l1 ((v >>> ((16 : Int32) &&& 31)) &&& 255) = some m2) (e2 : l1 + 1 = l2) (h3 : wr m2 600 l2 ((v >>> ((8 : Int32) &&& 31)) &&& 255) = some m3) (e3 : l2 + 1 = l3) (h4 : wr m3 600 l3 ((v >>> ((0 : Int32) &&& 31)) &&& 255) = some m4) (e4 : l3 + 1 = l4) : f_X12_appendWord_L3 v (f + 5) l0 m0 24 = some (l4, m4) := by
  rw [f_X12_appendWord_L3, if_neg (by decide), h1, ob_some, e1, show (24 : Int32) + -8 = 16 by decide, f_X12_appendWord_L3, if_neg (by decide), h2, ob_some, e2, show (16 : Int32) + -8 = 8 by decide, f_X12_appendWord_L3, if_neg (by decide), h3, ob_some, e3, show (8 : Int32) + -8 = 0 by decide, f_X12_appendWord_L3, if_neg (by decide), h4, ob_some, e4, show (0 : Int32) + -8 = -8 by decide, f_X12_appendWord_L3, if_pos (by decide)]
theorem word_same {n : Nat} {ic ml : Int32} {ib mi : Nat → Int32} (h : INPn n ic ib ml mi) (hn : n + 4 ≤ 600) (v : Int32) : ∃ ic' ib' ml' mi', f_X0_addFour 600 ic ib v = some (ic', ib') ∧ f_X12_appendWord ml mi v = some (ml', mi') ∧ INPn (n + 4) ic' ib' ml' mi' := by
  obtain ⟨a1, a2, a3⟩ := putIn h (by omega) (by24 v)
  obtain ⟨b1, b2, b3⟩ := putIn a3 (by omega) (by16 v)
  obtain ⟨c1, c2, c3⟩ := putIn b3 (by omega) (by8 v)
  obtain ⟨d1, d2, d3⟩ := putIn c3 (by omega) (by0 v)
  have hw := word_L (f := 4995) a2 rfl b2 rfl c2 rfl d2 rfl
  refine ⟨_, _, _, _, ?_, ?_, d3⟩
  · simp only [f_X0_addFour, a1, b1, c1, d1, ob_some]
  · unfold f_X12_appendWord
    rw [show (5000 : Nat) = 4995 + 5 from rfl, hw, ob_some]
theorem slot_in {v : Int32} (h1 : ¬ v < 0) (h2 : ¬ 1 < v) : f_X11_checkSlot v = some 0 ∧ (v = 0 ∨ v = 1) ∧ ¬ (v < 0 ∨ 2 ≤ v.toNatClampNeg) := by
  rw [ti_lt rfl ti_zero] at h1
  rw [ti_lt ti_one rfl] at h2
  have h3 : v = 0 ∨ v = 1 := by
    rcases (show v.toInt = 0 ∨ v.toInt = 1 by omega) with e | e
    · exact Or.inl (ti_eq (by rw [e]; rfl))
    · exact Or.inr (ti_eq (by rw [e]; rfl))
  rcases h3 with rfl | rfl
  · exact ⟨by decide, Or.inl rfl, by decide⟩
  · exact ⟨by decide, Or.inr rfl, by decide⟩
theorem slot_out {v : Int32} (h : v < 0 ∨ 1 < v) : f_X11_checkSlot v = some 1 := by
  unfold f_X11_checkSlot
  by_cases h1 : v < 0
  · rw [if_pos h1]
  · have h2 := h.resolve_left h1
    rw [ti_lt ti_one rfl] at h2
    rw [if_neg h1, if_neg (by rw [ti_lt rfl (b := 2) (by decide)]; omega)]
theorem nar1 : vp_nar .boolean 1 = 1 := by decide
/-- a row of the slots -/
theorem slot_row {ms mk g : Nat → Int32} {tb mb : Nat} {sl : Nat → Option SV} {w : SV} {p : Nat} (h : SLO tb mb sl ms mk) (hp : p < 2) (hw : STw tb mb w g) : SLO tb mb (va_up sl p (some w)) (cpy g ms 0 (463 * p)) (upd mk p 1) := by
  intro q hq
  by_cases hqp : q = p
  · subst hqp
    refine Or.inr ⟨upd_eq rfl, w, va_up_eq' rfl, hw.congr (fun j hj => ?_)⟩
    show cpy g ms 0 (463 * q) (463 * q + j) = g j
    rw [cpy_in rfl hj, Nat.zero_add]
  · rw [upd_ne hqp, va_up_ne' hqp]
    rcases h q hq with h1 | ⟨h1, w', h2, h3⟩
    · exact Or.inl h1
    · refine Or.inr ⟨h1, w', h2, h3.congr (fun j hj => ?_)⟩
      show cpy g ms 0 (463 * p) (463 * q + j) = ms (463 * q + j)
      rw [cpy_out]
      omega
theorem hh0 (t : Nat) : H0 (REL (t + 1)) (REL t) := by
  intro nextPast pastCount i_count i_cells o_count o_cells p_start p_end p_kind p_value p_error p_errorAt p_d_time p_d_tolerance p_d_seed p_d_madeTickets p_d_cheesesOfText p_d_R_rows p_d_R_cells p_d_U_rows p_d_U_cells p_d_S_rows p_d_S_cells p_d_T_rows p_d_T_cells p_d_E_rows p_d_E_cells s_time s_tolerance s_seed s_madeTickets s_cheesesOfText s_R_rows s_R_cells s_U_rows s_U_cells s_S_rows s_S_cells s_T_rows s_T_cells s_E_rows s_E_cells sl pa m_undoable m_undoStart m_thrown m_inputLength m_position m_start m_token m_value m_letters m_code m_place m_outputLength m_s m_parsed m_tried m_remembered m_slots m_kept m_away m_input m_halfway m_output h
  have hX : RELX (t + 1) i_count i_cells m_inputLength m_input p_error m_code p_errorAt m_place o_count o_cells m_outputLength m_output s_time s_tolerance s_seed s_madeTickets s_cheesesOfText s_R_rows s_R_cells s_U_rows s_U_cells s_S_rows s_S_cells s_T_rows s_T_cells s_E_rows s_E_cells m_s sl m_slots m_kept nextPast pastCount pa m_undoable m_undoStart m_remembered := h
  obtain ⟨ht, hin, her, hou, hst, hsl, hun⟩ := hX
  have hst1 := hst.mono (tbt_le t) (mbt_le t)
  have hsl1 := hsl.mono (tbt_le t) (mbt_le t)
  have hun1 := hun.mono (tbt_le t) (mbt_le t)
  have htb := tbt_max (t + 1)
  have hmb := mbt_max (t + 1)
  intro v1 v2 v3 v4 v5
  obtain ⟨n, hn⟩ := hin
  have l20 : (i_count + 20).toInt = ((n + 20 : Nat) : Int) := off_ti hn.1 (C := 20) (by decide) (by have := hn.2.1; omega)
  have ml0 : m_inputLength = i_count := hn.2.2.1.symm
  by_cases hq : i_count + 20 ≤ 600
  case neg =>
    refine ⟨(3, 0, i_count, i_cells), (0, 1, m_inputLength, m_input), ?_, Or.inr rfl, ?_, rfl, (fun z => nomatch z), RELX.mk (show t ≤ 512 by omega) ⟨n, hn⟩ her hou hst1 hsl1 hun1⟩
    · simp only [f_X11_appendInput, f_X0_size, ob_some, if_neg hq]
    · unfold f_X12_appendInput
      rw [ml0, if_neg hq, ob_some, ref1 n10, ob_some, if_neg n10]
  have hn20 : n + 20 ≤ 600 := by
    rw [ti_le l20 (b := 600) (by decide)] at hq
    omega
  obtain ⟨c1, b1, l1, d1, x1, y1, p1⟩ := word_same hn (by omega) v1
  obtain ⟨c2, b2, l2, d2, x2, y2, p2⟩ := word_same p1 (by omega) v2
  obtain ⟨c3, b3, l3, d3, x3, y3, p3⟩ := word_same p2 (by omega) v3
  obtain ⟨c4, b4, l4, d4, x4, y4, p4⟩ := word_same p3 (by omega) v4
  obtain ⟨c5, b5, l5, d5, x5, y5, p5⟩ := word_same p4 (by omega) v5
  refine ⟨(0, c5, c5, b5), (l5, 0, l5, d5), ?_, Or.inl rfl, ?_, rfl, (fun _ => by show c5.toInt64 = l5.toInt64; rw [p5.2.2.1]), RELX.mk (show t ≤ 512 by omega) ⟨_, p5⟩ her hou hst1 hsl1 hun1⟩
  · simp only [f_X11_appendInput, f_X0_size, ob_some, if_pos hq, x1, x2, x3, x4, x5]
  · unfold f_X12_appendInput
    rw [if_pos (show m_inputLength + 20 ≤ 600 by rw [ml0]; exact hq), ob_some, ref0, ob_some, if_pos rfl]
    simp only [y1, y2, y3, y4, y5, ob_some]
theorem hh1 (t : Nat) : H1 (REL (t + 1)) (REL t) := by
  intro nextPast pastCount i_count i_cells o_count o_cells p_start p_end p_kind p_value p_error p_errorAt p_d_time p_d_tolerance p_d_seed p_d_madeTickets p_d_cheesesOfText p_d_R_rows p_d_R_cells p_d_U_rows p_d_U_cells p_d_S_rows p_d_S_cells p_d_T_rows p_d_T_cells p_d_E_rows p_d_E_cells s_time s_tolerance s_seed s_madeTickets s_cheesesOfText s_R_rows s_R_cells s_U_rows s_U_cells s_S_rows s_S_cells s_T_rows s_T_cells s_E_rows s_E_cells sl pa m_undoable m_undoStart m_thrown m_inputLength m_position m_start m_token m_value m_letters m_code m_place m_outputLength m_s m_parsed m_tried m_remembered m_slots m_kept m_away m_input m_halfway m_output h
  have hX : RELX (t + 1) i_count i_cells m_inputLength m_input p_error m_code p_errorAt m_place o_count o_cells m_outputLength m_output s_time s_tolerance s_seed s_madeTickets s_cheesesOfText s_R_rows s_R_cells s_U_rows s_U_cells s_S_rows s_S_cells s_T_rows s_T_cells s_E_rows s_E_cells m_s sl m_slots m_kept nextPast pastCount pa m_undoable m_undoStart m_remembered := h
  obtain ⟨ht, hin, her, hou, hst, hsl, hun⟩ := hX
  have hst1 := hst.mono (tbt_le t) (mbt_le t)
  have hsl1 := hsl.mono (tbt_le t) (mbt_le t)
  have hun1 := hun.mono (tbt_le t) (mbt_le t)
  have htb := tbt_max (t + 1)
  have hmb := mbt_max (t + 1)
  intro v1
  obtain ⟨n, hn1, hn2, hn3, hn4⟩ := hin
  have hiff : m_inputLength < v1 ↔ i_count < v1 := by rw [hn3]
  by_cases hp : v1 < 0 ∨ i_count < v1
  case pos =>
    refine ⟨(2, 0, i_count), (0, 1, m_inputLength), ?_, Or.inr rfl, ?_, rfl, (fun z => nomatch z), RELX.mk (show t ≤ 512 by omega) ⟨n, hn1, hn2, hn3, hn4⟩ her hou hst1 hsl1 hun1⟩
    · unfold f_X11_truncateInput
      by_cases h1 : v1 < 0
      · rw [if_pos h1]
      · rw [if_neg h1]
        simp only [f_X0_size, ob_some, if_neg (nle_of_lt (hp.resolve_left h1))]
    · simp only [f_X12_truncateInput, noNumber_out (hp.imp id hiff.mpr), ob_some, i10, if_false]
  have hp1 : ¬ v1 < 0 := fun z => hp (Or.inl z)
  have hp2 : ¬ i_count < v1 := fun z => hp (Or.inr z)
  have hv0 : v1.toInt = ((v1.toInt.toNat : Nat) : Int) := by
    rw [ti_lt rfl ti_zero] at hp1
    omega
  have hvn : v1.toInt.toNat ≤ n := by
    rw [ti_lt hn1 rfl] at hp2
    omega
  refine ⟨(0, v1, v1), (v1, 0, v1), ?_, Or.inl rfl, ?_, rfl, (fun _ => rfl), RELX.mk (show t ≤ 512 by omega) ⟨v1.toInt.toNat, hv0, by omega, rfl, fun k hk => hn4 k (by omega)⟩ her hou hst1 hsl1 hun1⟩
  · unfold f_X11_truncateInput
    rw [if_neg hp1]
    simp only [f_X0_size, f_X0_cut, ob_some, if_pos (le_of_nlt hp2)]
  · simp only [f_X12_truncateInput, noNumber_in hp1 (fun z => hp2 (hiff.mp z)), ob_some, if_true]
theorem hh2 (t : Nat) : H2 (REL (t + 1)) (REL t) := by
  intro nextPast pastCount i_count i_cells o_count o_cells p_start p_end p_kind p_value p_error p_errorAt p_d_time p_d_tolerance p_d_seed p_d_madeTickets p_d_cheesesOfText p_d_R_rows p_d_R_cells p_d_U_rows p_d_U_cells p_d_S_rows p_d_S_cells p_d_T_rows p_d_T_cells p_d_E_rows p_d_E_cells s_time s_tolerance s_seed s_madeTickets s_cheesesOfText s_R_rows s_R_cells s_U_rows s_U_cells s_S_rows s_S_cells s_T_rows s_T_cells s_E_rows s_E_cells sl pa m_undoable m_undoStart m_thrown m_inputLength m_position m_start m_token m_value m_letters m_code m_place m_outputLength m_s m_parsed m_tried m_remembered m_slots m_kept m_away m_input m_halfway m_output h
  have hX : RELX (t + 1) i_count i_cells m_inputLength m_input p_error m_code p_errorAt m_place o_count o_cells m_outputLength m_output s_time s_tolerance s_seed s_madeTickets s_cheesesOfText s_R_rows s_R_cells s_U_rows s_U_cells s_S_rows s_S_cells s_T_rows s_T_cells s_E_rows s_E_cells m_s sl m_slots m_kept nextPast pastCount pa m_undoable m_undoStart m_remembered := h
  obtain ⟨ht, hin, her, hou, hst, hsl, hun⟩ := hX
  have hst1 := hst.mono (tbt_le t) (mbt_le t)
  have hsl1 := hsl.mono (tbt_le t) (mbt_le t)
  have hun1 := hun.mono (tbt_le t) (mbt_le t)
  have htb := tbt_max (t + 1)
  have hmb := mbt_max (t + 1)
  obtain ⟨n, hn⟩ := hin
  obtain ⟨st', en', kd', va', tk', mv', lt', er', ea', tm', tol', seed', made', cot', Rr', R', Ur', U', Vr', V', Tr', T', Er', E', g', c1, c2, c3⟩ := run_same hn p_start p_end p_kind p_value p_error p_errorAt p_d_time p_d_tolerance p_d_seed p_d_madeTickets p_d_cheesesOfText p_d_R_rows p_d_R_cells p_d_U_rows p_d_U_cells p_d_S_rows p_d_S_cells p_d_T_rows p_d_T_cells p_d_E_rows p_d_E_cells m_position m_start m_token m_value m_letters m_code m_place m_parsed
  have hin0 : INP 0 i_cells 0 m_input := ⟨0, by decide, by decide, rfl, fun k hk => absurd hk (Nat.not_lt_zero k)⟩
  by_cases hz : er' = 0
  case neg =>
    have hX : f_X11_load nextPast pastCount i_count i_cells p_start p_end p_kind p_value p_error p_errorAt p_d_time p_d_tolerance p_d_seed p_d_madeTickets p_d_cheesesOfText p_d_R_rows p_d_R_cells p_d_U_rows p_d_U_cells p_d_S_rows p_d_S_cells p_d_T_rows p_d_T_cells p_d_E_rows p_d_E_cells s_time s_tolerance s_seed s_madeTickets s_cheesesOfText s_R_rows s_R_cells s_U_rows s_U_cells s_S_rows s_S_cells s_T_rows s_T_cells s_E_rows s_E_cells pa = some (2, 0, nextPast, pastCount, 0, st', en', kd', va', er', ea', tm', tol', seed', made', cot', Rr', R', Ur', U', Vr', V', Tr', T', Er', E', s_time, s_tolerance, s_seed, s_madeTickets, s_cheesesOfText, s_R_rows, s_R_cells, s_U_rows, s_U_cells, s_S_rows, s_S_cells, s_T_rows, s_T_cells, s_E_rows, s_E_cells, pa) := by
      simp only [f_X11_load, c1, f_X0_cut, if_neg hz, ob_some, if_true]
    have hM : f_X12_load m_undoable m_undoStart m_thrown m_inputLength m_position m_start m_token m_value m_letters m_code m_place m_s m_parsed m_remembered m_input = some (0, m_undoable, m_undoStart, 1, 0, en', st', tk', mv', lt', er', ea', m_s, g', m_remembered) := by
      simp only [f_X12_load, c2, if_neg hz, ref1 n10, ob_some, i10, if_false]
    exact ⟨_, _, hX, Or.inr rfl, hM, rfl, (fun z => nomatch z), RELX.mk (show t ≤ 512 by omega) hin0 ⟨rfl, rfl⟩ hou hst1 hsl1 hun1⟩
  have hST' := c3 hz
  obtain ⟨np', pc', pa', mu', us', mr', r1, r2, r3⟩ := remember_same hun hst
  have hcp : ∀ j, j < 463 → cpy g' m_s 0 0 j = g' j := fun j hj => by rw [cpy_in (i := j) (by omega) hj, Nat.zero_add]
  have hS2 : ST (tbt t) (mbt t) tm' tol' seed' made' cot' Rr' R' Ur' U' Vr' V' Tr' T' Er' E' (cpy g' m_s 0 0) := ST.congr (ST.mono hST' (by unfold tbt; omega) (by unfold mbt; omega)) hcp
  have h6 : Tr' = cpy g' m_s 0 0 6 := by
    rw [hcp 6 (by decide)]
    obtain ⟨_, _, _, _, _, _, _, _, _, hT, _⟩ := hST'
    exact hT.2.2.1.symm
  have hX : f_X11_load nextPast pastCount i_count i_cells p_start p_end p_kind p_value p_error p_errorAt p_d_time p_d_tolerance p_d_seed p_d_madeTickets p_d_cheesesOfText p_d_R_rows p_d_R_cells p_d_U_rows p_d_U_cells p_d_S_rows p_d_S_cells p_d_T_rows p_d_T_cells p_d_E_rows p_d_E_cells s_time s_tolerance s_seed s_madeTickets s_cheesesOfText s_R_rows s_R_cells s_U_rows s_U_cells s_S_rows s_S_cells s_T_rows s_T_cells s_E_rows s_E_cells pa = some (0, Tr', np', pc', 0, st', en', kd', va', er', ea', tm', tol', seed', made', cot', Rr', R', Ur', U', Vr', V', Tr', T', Er', E', tm', tol', seed', made', cot', Rr', R', Ur', U', Vr', V', Tr', T', Er', E', pa') := by
    simp only [f_X11_load, c1, f_X0_cut, f_X6_size, if_pos hz, r1, ob_some, i10, if_false, if_true]
  have hM : f_X12_load m_undoable m_undoStart m_thrown m_inputLength m_position m_start m_token m_value m_letters m_code m_place m_s m_parsed m_remembered m_input = some (cpy g' m_s 0 0 6, mu', us', 0, 0, en', st', tk', mv', lt', er', ea', cpy g' m_s 0 0, g', mr') := by
    simp only [f_X12_load, c2, if_pos hz, ref0, r2, copyRow_m (fn := 463) (tn := 463) (a := 0) (b := 0) (v1 := 0) (v3 := 0) (by decide) (by decide) (by decide) (by decide) (by decide) (by decide), zM6, ob_some, if_true]
  exact ⟨_, _, hX, Or.inl rfl, hM, rfl, (fun _ => by show Tr'.toInt64 = (cpy g' m_s 0 0 6).toInt64; rw [← h6]), RELX.mk (show t ≤ 512 by omega) hin0 ⟨rfl, rfl⟩ hou hS2 hsl1 (r3.mono (tbt_le t) (mbt_le t))⟩
theorem hh10 (t : Nat) : H10 (REL (t + 1)) (REL t) := by
  intro nextPast pastCount i_count i_cells o_count o_cells p_start p_end p_kind p_value p_error p_errorAt p_d_time p_d_tolerance p_d_seed p_d_madeTickets p_d_cheesesOfText p_d_R_rows p_d_R_cells p_d_U_rows p_d_U_cells p_d_S_rows p_d_S_cells p_d_T_rows p_d_T_cells p_d_E_rows p_d_E_cells s_time s_tolerance s_seed s_madeTickets s_cheesesOfText s_R_rows s_R_cells s_U_rows s_U_cells s_S_rows s_S_cells s_T_rows s_T_cells s_E_rows s_E_cells sl pa m_undoable m_undoStart m_thrown m_inputLength m_position m_start m_token m_value m_letters m_code m_place m_outputLength m_s m_parsed m_tried m_remembered m_slots m_kept m_away m_input m_halfway m_output h
  have hX : RELX (t + 1) i_count i_cells m_inputLength m_input p_error m_code p_errorAt m_place o_count o_cells m_outputLength m_output s_time s_tolerance s_seed s_madeTickets s_cheesesOfText s_R_rows s_R_cells s_U_rows s_U_cells s_S_rows s_S_cells s_T_rows s_T_cells s_E_rows s_E_cells m_s sl m_slots m_kept nextPast pastCount pa m_undoable m_undoStart m_remembered := h
  obtain ⟨ht, hin, her, hou, hst, hsl, hun⟩ := hX
  have hst1 := hst.mono (tbt_le t) (mbt_le t)
  have hsl1 := hsl.mono (tbt_le t) (mbt_le t)
  have hun1 := hun.mono (tbt_le t) (mbt_le t)
  have htb := tbt_max (t + 1)
  have hmb := mbt_max (t + 1)
  have H := RELX.mk (show t ≤ 512 by omega) hin her hou hst1 hsl1 hun1
  obtain ⟨r, u, s, k, e, ⟨y0, y1, y2, y7, y9⟩, ⟨hR, hR2, hR3⟩, ⟨hU, hU2⟩, ⟨hS, hS2⟩, hT, hE, ⟨z1, z2, z3, z4, z5, z6⟩, hRI, hUI, hSI, hTI, hEI, hUZ⟩ := id hst
  obtain ⟨g3, g4, g5, g6, g8⟩ := ST_gs (tb := 0) (mb := 0) (tm := 0) (tol := 0) (seed := 0) (made := 0) (cot := 0) hR hU hS hT hE
  obtain ⟨n, hn⟩ := id hin
  have hl : m_inputLength.toInt = ((n - 0 : Nat) : Int) := by rw [← hn.2.2.1, hn.1]; rfl
  obtain ⟨c, m, n1, n2, n3⟩ := name_same hn (s := 0) (a := 0) (by decide) hn.1 hl (Nat.zero_le n) (Nat.le_refl n)
  obtain ⟨a, a1, a2, a3⟩ := code_same hR hR2 hU hU2 hS hS2 n3
  refine ⟨a, (a, 0), ?_, ?_, rfl, H⟩
  · simp only [f_X11_findName, f_X0_size, n1, a1, ob_some]
  · simp only [f_X12_findName, n2, a2, ob_some]
    by_cases hm : m = -1
    · rw [if_pos hm, a3 hm]
    · rw [if_neg hm]
theorem hh60 (t : Nat) : H60 (REL (t + 1)) (REL t) := by
  intro nextPast pastCount i_count i_cells o_count o_cells p_start p_end p_kind p_value p_error p_errorAt p_d_time p_d_tolerance p_d_seed p_d_madeTickets p_d_cheesesOfText p_d_R_rows p_d_R_cells p_d_U_rows p_d_U_cells p_d_S_rows p_d_S_cells p_d_T_rows p_d_T_cells p_d_E_rows p_d_E_cells s_time s_tolerance s_seed s_madeTickets s_cheesesOfText s_R_rows s_R_cells s_U_rows s_U_cells s_S_rows s_S_cells s_T_rows s_T_cells s_E_rows s_E_cells sl pa m_undoable m_undoStart m_thrown m_inputLength m_position m_start m_token m_value m_letters m_code m_place m_outputLength m_s m_parsed m_tried m_remembered m_slots m_kept m_away m_input m_halfway m_output h
  have hX : RELX (t + 1) i_count i_cells m_inputLength m_input p_error m_code p_errorAt m_place o_count o_cells m_outputLength m_output s_time s_tolerance s_seed s_madeTickets s_cheesesOfText s_R_rows s_R_cells s_U_rows s_U_cells s_S_rows s_S_cells s_T_rows s_T_cells s_E_rows s_E_cells m_s sl m_slots m_kept nextPast pastCount pa m_undoable m_undoStart m_remembered := h
  obtain ⟨ht, hin, her, hou, hst, hsl, hun⟩ := hX
  have hst1 := hst.mono (tbt_le t) (mbt_le t)
  have hsl1 := hsl.mono (tbt_le t) (mbt_le t)
  have hun1 := hun.mono (tbt_le t) (mbt_le t)
  have htb := tbt_max (t + 1)
  have hmb := mbt_max (t + 1)
  have H := RELX.mk (show t ≤ 512 by omega) hin her hou hst1 hsl1 hun1
  intro v1
  obtain ⟨n, hn1, hn2, hn3, hn4⟩ := id hou
  have hl : m_outputLength.toInt = (n : Int) := by rw [← hn3]; exact hn1
  by_cases hp : v1 < 0 ∨ o_count ≤ v1
  case pos =>
    refine ⟨(4, 0), (0, 1), ?_, Or.inr rfl, ?_, rfl, (fun z => nomatch z), H⟩
    · unfold f_X11_outputByte
      by_cases h1 : v1 < 0
      · rw [if_pos h1]
      · rw [if_neg h1]
        have h2 := hp.resolve_left h1
        simp only [f_X0_size, ob_some, if_neg (show ¬ v1 < o_count from fun z => by rw [Int32.le_iff_toInt_le] at h2; rw [Int32.lt_iff_toInt_lt] at z; omega)]
    · simp only [f_X12_outputByte, noNumber_out (hp.imp id (fun z => (below_one hl).mpr (by rw [← hn3]; exact z))), ob_some, i10, if_false]
  have hp1 : ¬ v1 < 0 := fun z => hp (Or.inl z)
  have hp2 : ¬ o_count ≤ v1 := fun z => hp (Or.inr z)
  obtain ⟨k, hk, hv⟩ := row_of hn1 hp1 hp2
  have hk60 : k < 60 := by omega
  have hat : f_X0_at 64 o_count o_cells v1 = some (m_output k) := by
    unfold f_X0_at
    rw [if_neg hp1, if_neg hp2, if_neg (by rw [ti_le (ti_nat (by decide)) hv]; omega), ob_some, if_neg n10, rd_at hv (by omega), ob_some, hn4 k hk]
  refine ⟨(0, m_output k), (m_output k, 0), ?_, Or.inl rfl, ?_, rfl, (fun _ => rfl), H⟩
  · unfold f_X11_outputByte
    rw [if_neg hp1]
    simp only [f_X0_size, ob_some, if_pos (show v1 < o_count from by rw [ti_lt hv hn1]; omega), hat]
  · simp only [f_X12_outputByte, noNumber_in hp1 (fun z => hp2 (by rw [hn3]; exact (below_one hl).mp z)), rd_at (f := m_output) hv hk60, ob_some, if_true]
theorem hh61 (t : Nat) : H61 (REL (t + 1)) (REL t) := by
  intro nextPast pastCount i_count i_cells o_count o_cells p_start p_end p_kind p_value p_error p_errorAt p_d_time p_d_tolerance p_d_seed p_d_madeTickets p_d_cheesesOfText p_d_R_rows p_d_R_cells p_d_U_rows p_d_U_cells p_d_S_rows p_d_S_cells p_d_T_rows p_d_T_cells p_d_E_rows p_d_E_cells s_time s_tolerance s_seed s_madeTickets s_cheesesOfText s_R_rows s_R_cells s_U_rows s_U_cells s_S_rows s_S_cells s_T_rows s_T_cells s_E_rows s_E_cells sl pa m_undoable m_undoStart m_thrown m_inputLength m_position m_start m_token m_value m_letters m_code m_place m_outputLength m_s m_parsed m_tried m_remembered m_slots m_kept m_away m_input m_halfway m_output h
  have hX : RELX (t + 1) i_count i_cells m_inputLength m_input p_error m_code p_errorAt m_place o_count o_cells m_outputLength m_output s_time s_tolerance s_seed s_madeTickets s_cheesesOfText s_R_rows s_R_cells s_U_rows s_U_cells s_S_rows s_S_cells s_T_rows s_T_cells s_E_rows s_E_cells m_s sl m_slots m_kept nextPast pastCount pa m_undoable m_undoStart m_remembered := h
  obtain ⟨ht, hin, her, hou, hst, hsl, hun⟩ := hX
  have hst1 := hst.mono (tbt_le t) (mbt_le t)
  have hsl1 := hsl.mono (tbt_le t) (mbt_le t)
  have hun1 := hun.mono (tbt_le t) (mbt_le t)
  have htb := tbt_max (t + 1)
  have hmb := mbt_max (t + 1)
  have H := RELX.mk (show t ≤ 512 by omega) hin her hou hst1 hsl1 hun1
  intro v1
  obtain ⟨r, u, s, k, e, ⟨y0, y1, y2, y7, y9⟩, ⟨hR, hR2, hR3⟩, ⟨hU, hU2⟩, ⟨hS, hS2⟩, hT, hE, ⟨z1, z2, z3, z4, z5, z6⟩, hRI, hUI, hSI, hTI, hEI, hUZ⟩ := id hst
  obtain ⟨g3, g4, g5, g6, g8⟩ := ST_gs (tb := 0) (mb := 0) (tm := 0) (tol := 0) (seed := 0) (made := 0) (cot := 0) hR hU hS hT hE
  by_cases hp : v1 < 0 ∨ 1 < v1
  case pos =>
    refine ⟨(1, 0, sl), (0, 1, m_slots, m_kept), ?_, Or.inr rfl, ?_, rfl, (fun z => nomatch z), H⟩
    · simp only [f_X11_save, slot_out hp, ob_some, k10, if_false]
    · simp only [f_X12_save, noNumber_out hp, ob_some, i10, if_false]
  have hp1 : ¬ v1 < 0 := fun z => hp (Or.inl z)
  have hp2 : ¬ 1 < v1 := fun z => hp (Or.inr z)
  obtain ⟨s1, s2, s3⟩ := slot_in hp1 hp2
  obtain ⟨p, hp3, hv⟩ : ∃ p : Nat, p < 2 ∧ v1.toInt = (p : Int) := by
    rcases s2 with rfl | rfl
    · exact ⟨0, by decide, by decide⟩
    · exact ⟨1, by decide, by decide⟩
  have h463 : (463 * v1).toInt = ((463 * p : Nat) : Int) := by rw [ti_mul (a := 463) (by decide) hv (by omega) (by omega)]; omega
  have hcl : v1.toNatClampNeg = p := ti_clamp hv
  rw [hcl] at s3
  have hw : STw (tbt (t + 1)) (mbt (t + 1)) (s_time, s_tolerance, s_seed, s_madeTickets, s_cheesesOfText, s_R_rows, s_R_cells, s_U_rows, s_U_cells, s_S_rows, s_S_cells, s_T_rows, s_T_cells, s_E_rows, s_E_cells) m_s := hst
  refine ⟨(0, s_time, va_up sl p (some (s_time, s_tolerance, s_seed, s_madeTickets, s_cheesesOfText, s_R_rows, s_R_cells, s_U_rows, s_U_cells, s_S_rows, s_S_cells, s_T_rows, s_T_cells, s_E_rows, s_E_cells))), (m_s 0, 0, cpy m_s m_slots 0 (463 * p), upd m_kept p 1), ?_, Or.inl rfl, ?_, rfl, (fun _ => by show s_time.toInt64 = (m_s 0).toInt64; rw [y0]), RELX.mk (show t ≤ 512 by omega) hin her hou hst1 ((slot_row hsl hp3 hw).mono (tbt_le t) (mbt_le t)) hun1⟩
  · simp only [f_X11_save, s1, if_neg s3, hcl, ob_some, if_true]
  · simp only [f_X12_save, noNumber_in hp1 hp2, copyRow_m (fn := 463) (tn := 926) (a := 0) (b := 463 * p) (v1 := 0) (by decide) h463 (by decide) (show 463 * p + 463 ≤ 926 by omega) (by decide) (by decide), nar1, wr_to (f := m_kept) (L := 2) hv hp3, zM0, ob_some, if_true]
theorem hh62 (t : Nat) : H62 (REL (t + 1)) (REL t) := by
  intro nextPast pastCount i_count i_cells o_count o_cells p_start p_end p_kind p_value p_error p_errorAt p_d_time p_d_tolerance p_d_seed p_d_madeTickets p_d_cheesesOfText p_d_R_rows p_d_R_cells p_d_U_rows p_d_U_cells p_d_S_rows p_d_S_cells p_d_T_rows p_d_T_cells p_d_E_rows p_d_E_cells s_time s_tolerance s_seed s_madeTickets s_cheesesOfText s_R_rows s_R_cells s_U_rows s_U_cells s_S_rows s_S_cells s_T_rows s_T_cells s_E_rows s_E_cells sl pa m_undoable m_undoStart m_thrown m_inputLength m_position m_start m_token m_value m_letters m_code m_place m_outputLength m_s m_parsed m_tried m_remembered m_slots m_kept m_away m_input m_halfway m_output h
  have hX : RELX (t + 1) i_count i_cells m_inputLength m_input p_error m_code p_errorAt m_place o_count o_cells m_outputLength m_output s_time s_tolerance s_seed s_madeTickets s_cheesesOfText s_R_rows s_R_cells s_U_rows s_U_cells s_S_rows s_S_cells s_T_rows s_T_cells s_E_rows s_E_cells m_s sl m_slots m_kept nextPast pastCount pa m_undoable m_undoStart m_remembered := h
  obtain ⟨ht, hin, her, hou, hst, hsl, hun⟩ := hX
  have hst1 := hst.mono (tbt_le t) (mbt_le t)
  have hsl1 := hsl.mono (tbt_le t) (mbt_le t)
  have hun1 := hun.mono (tbt_le t) (mbt_le t)
  have htb := tbt_max (t + 1)
  have hmb := mbt_max (t + 1)
  have H := RELX.mk (show t ≤ 512 by omega) hin her hou hst1 hsl1 hun1
  intro v1
  obtain ⟨r, u, s, k, e, ⟨y0, y1, y2, y7, y9⟩, ⟨hR, hR2, hR3⟩, ⟨hU, hU2⟩, ⟨hS, hS2⟩, hT, hE, ⟨z1, z2, z3, z4, z5, z6⟩, hRI, hUI, hSI, hTI, hEI, hUZ⟩ := id hst
  obtain ⟨g3, g4, g5, g6, g8⟩ := ST_gs (tb := 0) (mb := 0) (tm := 0) (tol := 0) (seed := 0) (made := 0) (cot := 0) hR hU hS hT hE
  by_cases hp : v1 < 0 ∨ 1 < v1
  case pos =>
    have hX : f_X11_restore nextPast pastCount s_time s_tolerance s_seed s_madeTickets s_cheesesOfText s_R_rows s_R_cells s_U_rows s_U_cells s_S_rows s_S_cells s_T_rows s_T_cells s_E_rows s_E_cells sl pa v1 = some (1, 0, nextPast, pastCount, s_time, s_tolerance, s_seed, s_madeTickets, s_cheesesOfText, s_R_rows, s_R_cells, s_U_rows, s_U_cells, s_S_rows, s_S_cells, s_T_rows, s_T_cells, s_E_rows, s_E_cells, pa) := by
      simp only [f_X11_restore, slot_out hp, ob_some, k10, if_false]
    have hM : f_X12_restore m_undoable m_undoStart m_thrown m_s m_remembered m_slots m_kept v1 = some (0, m_undoable, m_undoStart, 1, m_s, m_remembered) := by
      simp only [f_X12_restore, noNumber_out hp, ob_some, i10, if_false]
    exact ⟨_, _, hX, Or.inr (Or.inl rfl), hM, rfl, (fun z => nomatch z), H⟩
  have hp1 : ¬ v1 < 0 := fun z => hp (Or.inl z)
  have hp2 : ¬ 1 < v1 := fun z => hp (Or.inr z)
  obtain ⟨s1, s2, s3⟩ := slot_in hp1 hp2
  obtain ⟨p, hp3, hv⟩ : ∃ p : Nat, p < 2 ∧ v1.toInt = (p : Int) := by
    rcases s2 with rfl | rfl
    · exact ⟨0, by decide, by decide⟩
    · exact ⟨1, by decide, by decide⟩
  have h463 : (463 * v1).toInt = ((463 * p : Nat) : Int) := by rw [ti_mul (a := 463) (by decide) hv (by omega) (by omega)]; omega
  have hcl : v1.toNatClampNeg = p := ti_clamp hv
  rw [hcl] at s3
  have hrk : rd m_kept 2 v1 = some (m_kept p) := rd_at hv hp3
  rcases hsl p hp3 with ⟨h0, hnone⟩ | ⟨h1, w, hw, hww⟩
  · have hX : f_X11_restore nextPast pastCount s_time s_tolerance s_seed s_madeTickets s_cheesesOfText s_R_rows s_R_cells s_U_rows s_U_cells s_S_rows s_S_cells s_T_rows s_T_cells s_E_rows s_E_cells sl pa v1 = some (3, 0, nextPast, pastCount, s_time, s_tolerance, s_seed, s_madeTickets, s_cheesesOfText, s_R_rows, s_R_cells, s_U_rows, s_U_cells, s_S_rows, s_S_cells, s_T_rows, s_T_cells, s_E_rows, s_E_cells, pa) := by
      simp only [f_X11_restore, s1, if_neg s3, hcl, hnone, ob_some, if_true]
    have hM : f_X12_restore m_undoable m_undoStart m_thrown m_s m_remembered m_slots m_kept v1 = some (0, m_undoable, m_undoStart, 2, m_s, m_remembered) := by
      simp only [f_X12_restore, noNumber_in hp1 hp2, hrk, h0, ref1 i20', ob_some, i10, if_false, if_true]
    exact ⟨_, _, hX, Or.inr (Or.inr rfl), hM, rfl, (fun z => nomatch z), H⟩
  · obtain ⟨np', pc', pa', mu', us', mr', r1, r2, r3⟩ := remember_same hun hst
    have hcp : ∀ j, j < 463 → cpy m_slots m_s (463 * p) 0 j = m_slots (463 * p + j) := fun j hj => cpy_in (i := j) (by omega) hj
    have hww2 : STw (tbt t) (mbt t) w (cpy m_slots m_s (463 * p) 0) := (hww.mono (tbt_le t) (mbt_le t)).congr (fun j hj => hcp j hj)
    have h00 : w.1 = cpy m_slots m_s (463 * p) 0 0 := by
      obtain ⟨_, _, _, _, _, ⟨q0, _⟩, _⟩ := hww2
      exact q0.symm
    have hX : f_X11_restore nextPast pastCount s_time s_tolerance s_seed s_madeTickets s_cheesesOfText s_R_rows s_R_cells s_U_rows s_U_cells s_S_rows s_S_cells s_T_rows s_T_cells s_E_rows s_E_cells sl pa v1 = some (0, w.1, np', pc', w.1, w.2.1, w.2.2.1, w.2.2.2.1, w.2.2.2.2.1, w.2.2.2.2.2.1, w.2.2.2.2.2.2.1, w.2.2.2.2.2.2.2.1, w.2.2.2.2.2.2.2.2.1, w.2.2.2.2.2.2.2.2.2.1, w.2.2.2.2.2.2.2.2.2.2.1, w.2.2.2.2.2.2.2.2.2.2.2.1, w.2.2.2.2.2.2.2.2.2.2.2.2.1, w.2.2.2.2.2.2.2.2.2.2.2.2.2.1, w.2.2.2.2.2.2.2.2.2.2.2.2.2.2, pa') := by
      simp only [f_X11_restore, s1, if_neg s3, hcl, hw, r1, ob_some, if_true]
    have hM : f_X12_restore m_undoable m_undoStart m_thrown m_s m_remembered m_slots m_kept v1 = some (cpy m_slots m_s (463 * p) 0 0, mu', us', 0, cpy m_slots m_s (463 * p) 0, mr') := by
      simp only [f_X12_restore, noNumber_in hp1 hp2, hrk, h1, ref0, r2, copyRow_m (fn := 926) (tn := 463) (a := 463 * p) (b := 0) (v3 := 0) h463 (by decide) (show 463 * p + 463 ≤ 926 by omega) (by decide) (by decide) (by decide), zM0, ob_some, i10, if_false, if_true]
    exact ⟨_, _, hX, Or.inl rfl, hM, rfl, (fun _ => by show w.1.toInt64 = (cpy m_slots m_s (463 * p) 0 0).toInt64; rw [h00]), RELX.mk (show t ≤ 512 by omega) hin her hou hww2 hsl1 (r3.mono (tbt_le t) (mbt_le t))⟩
theorem hh63 (t : Nat) : H63 (REL (t + 1)) (REL t) := by
  intro nextPast pastCount i_count i_cells o_count o_cells p_start p_end p_kind p_value p_error p_errorAt p_d_time p_d_tolerance p_d_seed p_d_madeTickets p_d_cheesesOfText p_d_R_rows p_d_R_cells p_d_U_rows p_d_U_cells p_d_S_rows p_d_S_cells p_d_T_rows p_d_T_cells p_d_E_rows p_d_E_cells s_time s_tolerance s_seed s_madeTickets s_cheesesOfText s_R_rows s_R_cells s_U_rows s_U_cells s_S_rows s_S_cells s_T_rows s_T_cells s_E_rows s_E_cells sl pa m_undoable m_undoStart m_thrown m_inputLength m_position m_start m_token m_value m_letters m_code m_place m_outputLength m_s m_parsed m_tried m_remembered m_slots m_kept m_away m_input m_halfway m_output h
  have hX : RELX (t + 1) i_count i_cells m_inputLength m_input p_error m_code p_errorAt m_place o_count o_cells m_outputLength m_output s_time s_tolerance s_seed s_madeTickets s_cheesesOfText s_R_rows s_R_cells s_U_rows s_U_cells s_S_rows s_S_cells s_T_rows s_T_cells s_E_rows s_E_cells m_s sl m_slots m_kept nextPast pastCount pa m_undoable m_undoStart m_remembered := h
  obtain ⟨ht, hin, her, hou, hst, hsl, hun⟩ := hX
  have hst1 := hst.mono (tbt_le t) (mbt_le t)
  have hsl1 := hsl.mono (tbt_le t) (mbt_le t)
  have hun1 := hun.mono (tbt_le t) (mbt_le t)
  have htb := tbt_max (t + 1)
  have hmb := mbt_max (t + 1)
  have H := RELX.mk (show t ≤ 512 by omega) hin her hou hst1 hsl1 hun1
  obtain ⟨c, a, hc, ha, q1, q2, q3, q4, q5⟩ := id hun
  by_cases h0 : c = 0
  · subst h0
    have hpc : pastCount = 0 := ti_eq (by rw [q3]; rfl)
    have hmu : m_undoable = 0 := ti_eq (by rw [q1]; rfl)
    have hX : f_X11_undo nextPast pastCount s_time s_tolerance s_seed s_madeTickets s_cheesesOfText s_R_rows s_R_cells s_U_rows s_U_cells s_S_rows s_S_cells s_T_rows s_T_cells s_E_rows s_E_cells pa = some (3, 0, nextPast, pastCount, s_time, s_tolerance, s_seed, s_madeTickets, s_cheesesOfText, s_R_rows, s_R_cells, s_U_rows, s_U_cells, s_S_rows, s_S_cells, s_T_rows, s_T_cells, s_E_rows, s_E_cells) := by
      unfold f_X11_undo
      rw [if_pos hpc]
    have hM : f_X12_undo m_undoable m_undoStart m_thrown m_s m_remembered = some (0, m_undoable, 1, m_s) := by
      unfold f_X12_undo
      rw [if_pos hmu, ob_some, ref1 n10, ob_some, if_neg n10]
    exact ⟨_, _, hX, Or.inr rfl, hM, rfl, (fun z => nomatch z), H⟩
  · have hpc : ¬ pastCount = 0 := fun z => h0 (by rw [z, ti_zero] at q3; omega)
    have hmu : ¬ m_undoable = 0 := fun z => h0 (by rw [z, ti_zero] at q1; omega)
    obtain ⟨d, rfl⟩ : ∃ d, c = d + 1 := ⟨c - 1, by omega⟩
    obtain ⟨w, w1, w2⟩ := q5 d (by omega)
    have n8 : (nextPast + 8 - 1).toInt = (((a + (d + 1)) % 8 + 7 : Nat) : Int) := by
      rw [ti_sub (ti_add q4 (b := 8) (by decide) (by omega) (by omega)) ti_one (by omega) (by omega)]
      omega
    have hnp := irm8_ti n8 (by omega)
    have hpos : ((a + (d + 1)) % 8 + 7) % 8 = (a + d) % 8 := by omega
    rw [hpos] at hnp
    have hcl : (irm (nextPast + 8 - 1) 8).toNatClampNeg = (a + d) % 8 := ti_clamp hnp
    have hcx : ¬ (irm (nextPast + 8 - 1) 8 < 0 ∨ 8 ≤ (irm (nextPast + 8 - 1) 8).toNatClampNeg) := by
      rintro (z | z)
      · exact ti_neg hnp (by omega) z
      · omega
    have hmu1 : (m_undoable - 1).toInt = (d : Int) := by rw [ti_sub q1 ti_one (by omega) (by omega)]; omega
    have hpc1 : (pastCount - 1).toInt = (d : Int) := by rw [ti_sub q3 ti_one (by omega) (by omega)]; omega
    have hp : (irm (m_undoStart + (m_undoable - 1)) 8).toInt = (((a + d) % 8 : Nat) : Int) := irm8_ti (by rw [ti_add q2 hmu1 (by omega) (by omega)]; omega) (by omega)
    have h463 : (463 * irm (m_undoStart + (m_undoable - 1)) 8).toInt = ((463 * ((a + d) % 8) : Nat) : Int) := by rw [ti_mul (a := 463) (by decide) hp (by omega) (by omega)]; omega
    have hcp : ∀ j, j < 463 → cpy m_remembered m_s (463 * ((a + d) % 8)) 0 j = m_remembered (463 * ((a + d) % 8) + j) := fun j hj => cpy_in (i := j) (by omega) hj
    have hww2 : STw (tbt t) (mbt t) w (cpy m_remembered m_s (463 * ((a + d) % 8)) 0) := (w2.mono (tbt_le t) (mbt_le t)).congr (fun j hj => hcp j hj)
    have hX : f_X11_undo nextPast pastCount s_time s_tolerance s_seed s_madeTickets s_cheesesOfText s_R_rows s_R_cells s_U_rows s_U_cells s_S_rows s_S_cells s_T_rows s_T_cells s_E_rows s_E_cells pa = some (0, pastCount - 1, irm (nextPast + 8 - 1) 8, pastCount - 1, w.1, w.2.1, w.2.2.1, w.2.2.2.1, w.2.2.2.2.1, w.2.2.2.2.2.1, w.2.2.2.2.2.2.1, w.2.2.2.2.2.2.2.1, w.2.2.2.2.2.2.2.2.1, w.2.2.2.2.2.2.2.2.2.1, w.2.2.2.2.2.2.2.2.2.2.1, w.2.2.2.2.2.2.2.2.2.2.2.1, w.2.2.2.2.2.2.2.2.2.2.2.2.1, w.2.2.2.2.2.2.2.2.2.2.2.2.2.1, w.2.2.2.2.2.2.2.2.2.2.2.2.2.2) := by
      unfold f_X11_undo
      rw [if_neg hpc, if_neg hcx, hcl, w1]
    have hM : f_X12_undo m_undoable m_undoStart m_thrown m_s m_remembered = some (m_undoable - 1, m_undoable - 1, 0, cpy m_remembered m_s (463 * ((a + d) % 8)) 0) := by
      unfold f_X12_undo
      rw [if_neg hmu, ob_some, ref0, ob_some, if_pos rfl, copyRow_m (a := 463 * ((a + d) % 8)) (b := 0) h463 (by decide) (by omega) (by decide) (by decide) (by decide), ob_some]
    have hU' : UND (tbt t) (mbt t) (irm (nextPast + 8 - 1) 8) (pastCount - 1) pa (m_undoable - 1) m_undoStart m_remembered := ⟨d, a, by omega, ha, hmu1, q2, hpc1, hnp, fun j hj => (q5 j (by omega)).imp (fun w' ⟨b1, b2⟩ => ⟨b1, b2.mono (tbt_le t) (mbt_le t)⟩)⟩
    have heq : pastCount - 1 = m_undoable - 1 := ti_eq (by rw [hpc1, hmu1])
    exact ⟨_, _, hX, Or.inl rfl, hM, rfl, (fun _ => by show (pastCount - 1).toInt64 = (m_undoable - 1).toInt64; rw [heq]), RELX.mk (show t ≤ 512 by omega) hin her hou hww2 hsl1 hU'⟩
