def f_X12_readRenew (m_inputLength : Int32) (m_position : Int32) (m_start : Int32) (m_token : Int32) (m_value : Int32) (m_letters : Int32) (m_code : Int32) (m_place : Int32) (m_parsed : Nat → Int32) (m_input : Nat → Int32) : Option (Int32 × Int32 × Int32 × Int32 × Int32 × Int32 × Int32 × (Nat → Int32)) :=
  (f_X12_next m_inputLength m_position m_start m_token m_value m_letters m_code m_input).bind fun o1 =>
  (f_X12_ticketHere m_inputLength o1.1 o1.2.1 o1.2.2.1 o1.2.2.2.1 o1.2.2.2.2 m_code m_place m_parsed m_input).bind fun o2 =>
  Option.bind (if o2.2.2.2.2.2.2.1 = 0 then (
    (f_X12_whyNotRenew m_parsed o2.1).bind fun o4 =>
    if o4 = 0 then (
      some (0))
    else (
      some (1)))
  else (
    some (0)) : Option (Int32)) fun j3 =>
  (f_X12_mayDo o2.2.2.1 o2.2.2.2.1 o2.2.2.2.2.2.2.1 o2.2.2.2.2.2.2.2 m_input j3).bind fun o5 =>
  if o5.1 = 0 then (
    (f_X12_next m_inputLength o2.2.1 o2.2.2.1 o2.2.2.2.1 o2.2.2.2.2.1 o2.2.2.2.2.2.1 o5.2.1 m_input).bind fun o6 =>
    some (o6.1, o6.2.1, o6.2.2.1, o6.2.2.2.1, o6.2.2.2.2, o5.2.1, o5.2.2, m_parsed))
  else (
    (f_X12_renews m_parsed o2.1).bind fun o7 =>
    if 0 ≤ o7.1 then (
      (f_X12_next m_inputLength o2.2.1 o2.2.2.1 o2.2.2.2.1 o2.2.2.2.2.1 o2.2.2.2.2.2.1 o5.2.1 m_input).bind fun o8 =>
      some (o8.1, o8.2.1, o8.2.2.1, o8.2.2.2.1, o8.2.2.2.2, o5.2.1, o5.2.2, o7.2))
    else (
      (f_X12_next m_inputLength o2.2.1 o2.2.2.1 o2.2.2.2.1 o2.2.2.2.2.1 o2.2.2.2.2.2.1 1 m_input).bind fun o9 =>
      some (o9.1, o9.2.1, o9.2.2.1, o9.2.2.2.1, o9.2.2.2.2, 1, o5.2.2, o7.2)))
set_option maxRecDepth 100000 in
set_option maxHeartbeats 4000000 in
theorem c_X12_readRenew (l : Launch) {G : (Nat → Prop) → State → Heap → Prop} (hG : vG G) (D : va_G) (c9 : Nat → ClassId) (ad : Nat → Nat) (m_undoable : Int32) (m_undoStart : Int32) (m_thrown : Int32) (m_inputLength : Int32) (m_position : Int32) (m_start : Int32) (m_token : Int32) (m_value : Int32) (m_letters : Int32) (m_code : Int32) (m_place : Int32) (m_outputLength : Int32) (m_s : Nat → Int32) (m_parsed : Nat → Int32) (m_tried : Nat → Int32) (m_remembered : Nat → Int32) (m_slots : Nat → Int32) (m_kept : Nat → Int32) (m_away : Nat → Int32) (m_input : Nat → Int32) (m_halfway : Nat → Int32) (m_output : Nat → Int32)  {o : Int32 × Int32 × Int32 × Int32 × Int32 × Int32 × Int32 × (Nat → Int32)} (hf : f_X12_readRenew m_inputLength m_position m_start m_token m_value m_letters m_code m_place m_parsed m_input = some o) : mV l yX12_readRenew (wq yX12_readRenew cX12_readRenew 2 none) { frames := 6, cells := 0, slots := 0, locals := 124 } G D (tyA c9) [.ref (ad 0)] (wX12 ad c9 m_undoable m_undoStart m_thrown m_inputLength m_position m_start m_token m_value m_letters m_code m_place m_outputLength m_s m_parsed m_tried m_remembered m_slots m_kept m_away m_input m_halfway m_output) [] 0 0 (wX12 ad c9 m_undoable m_undoStart m_thrown m_inputLength o.1 o.2.1 o.2.2.1 o.2.2.2.1 o.2.2.2.2.1 o.2.2.2.2.2.1 o.2.2.2.2.2.2.1 m_outputLength m_s o.2.2.2.2.2.2.2 m_tried m_remembered m_slots m_kept m_away m_input m_halfway m_output) := by
  refine mV_of hG (cc := cX12_readRenew) (maxL := 2) (by decide) rfl (Nat.le_of_ble_eq_true rfl) ?_
  intro p e s m args below meth c A hnm X
  have X : vX p s m args meth c cX12_readRenew 2 none RX12 (wq yX12_readRenew cX12_readRenew 2 none) D (tyA c9) G A := X
  refine v_eq (lv2 := [(0, .ref (ad 0))]) rfl rfl rfl rfl ?_
  rw [f_X12_readRenew] at hf
  refine v_aload_n X dX12_readRenew_0 0 rfl rfl 1 rfl ?_
  obtain ⟨o1, ho1, hf⟩ := bnd hf
  refine v_callVv X (ci := 11) (T := TX12) (C := RX12) (As := []) (rest := []) (ws' := (wX12 ad c9 m_undoable m_undoStart m_thrown m_inputLength o1.1 o1.2.1 o1.2.2.1 o1.2.2.2.1 o1.2.2.2.2 m_code m_place m_outputLength m_s m_parsed m_tried m_remembered m_slots m_kept m_away m_input m_halfway m_output)) (c_X12_next l hG D c9 ad m_undoable m_undoStart m_thrown m_inputLength m_position m_start m_token m_value m_letters m_code m_place m_outputLength m_s m_parsed m_tried m_remembered m_slots m_kept m_away m_input m_halfway m_output ho1) 0 (gV wm_141 wm_142 wm_143 wm_37 wm_144) rfl rfl rfl ⟨rfl, pd_X12_next⟩ ⟨Nat.le_of_ble_eq_true rfl, Nat.le_of_ble_eq_true rfl⟩ 0 rfl rfl rfl rfl (Nat.le_of_ble_eq_true rfl) ⟨Nat.zero_le _, Nat.zero_le _⟩ [0, 1, 2, 3, 4, 5, 6, 7, 8, 9, 10] [] [0, 1, 2, 3, 4, 5, 6, 7, 8, 9, 10] rfl rfl rfl rfl dX12_readRenew_1 4 rfl ?_
  refine v_aload_n X dX12_readRenew_4 0 rfl rfl 5 rfl ?_
  obtain ⟨o2, ho2, hf⟩ := bnd hf
  refine v_callVi X (ci := 11) (T := TX12) (C := RX12) (As := []) (rest := []) (ws' := (wX12 ad c9 m_undoable m_undoStart m_thrown m_inputLength o2.2.1 o2.2.2.1 o2.2.2.2.1 o2.2.2.2.2.1 o2.2.2.2.2.2.1 o2.2.2.2.2.2.2.1 o2.2.2.2.2.2.2.2 m_outputLength m_s m_parsed m_tried m_remembered m_slots m_kept m_away m_input m_halfway m_output)) (c_X12_ticketHere l hG D c9 ad m_undoable m_undoStart m_thrown m_inputLength o1.1 o1.2.1 o1.2.2.1 o1.2.2.2.1 o1.2.2.2.2 m_code m_place m_outputLength m_s m_parsed m_tried m_remembered m_slots m_kept m_away m_input m_halfway m_output ho2) 0 (gV wm_215 wm_216 wm_217 wm_37 wm_218) rfl rfl rfl ⟨rfl, pd_X12_ticketHere⟩ ⟨Nat.le_of_ble_eq_true rfl, Nat.le_of_ble_eq_true rfl⟩ 0 rfl rfl rfl rfl (Nat.le_of_ble_eq_true rfl) ⟨Nat.zero_le _, Nat.zero_le _⟩ [0, 1, 2, 3, 4, 5, 6, 7, 8, 9, 10] [] [0, 1, 2, 3, 4, 5, 6, 7, 8, 9, 10] rfl rfl rfl rfl dX12_readRenew_5 8 rfl ?_
  refine v_istore_n X (lv' := [(1, .int o2.1), (0, .ref (ad 0))]) dX12_readRenew_8 rfl (by decide) rfl 9 rfl ?_
  refine v_aload_n X dX12_readRenew_9 1 rfl rfl 10 rfl ?_
  refine v_aload_n X dX12_readRenew_10 1 rfl rfl 11 rfl ?_
  refine v_get X (C := RX12) (T := TX12) (N := 22) (ci := 11) (v := _) dX12_readRenew_11 (lay_of laym_X12) 0 rfl rfl 17 (by decide) (mw wm_118) rfl rfl 14 rfl ?_
  obtain ⟨j3, hj3, hf⟩ := bnd hf
  have Jj3 : vW p l e { frames := 6, cells := 0, slots := 0, locals := 124 } s m args below meth c 2 D A [] 0 0 (MQ below (eV D (tyA c9) A ((wX12 ad c9 m_undoable m_undoStart m_thrown m_inputLength o.1 o.2.1 o.2.2.1 o.2.2.2.1 o.2.2.2.2.1 o.2.2.2.2.2.1 o.2.2.2.2.2.2.1 m_outputLength m_s o.2.2.2.2.2.2.2 m_tried m_remembered m_slots m_kept m_away m_input m_halfway m_output) ++ [])) args s 0 0 A) (wX12 ad c9 m_undoable m_undoStart m_thrown m_inputLength o2.2.1 o2.2.2.1 o2.2.2.2.1 o2.2.2.2.2.1 o2.2.2.2.2.2.1 o2.2.2.2.2.2.2.1 o2.2.2.2.2.2.2.2 m_outputLength m_s m_parsed m_tried m_remembered m_slots m_kept m_away m_input m_halfway m_output) 33 [(0, .ref (ad 0)), (1, .int o2.1)] [.int j3, .ref (ad 0)] := by
    obtain ⟨o5, ho5, hf⟩ := bnd hf
    refine v_callVi X (ci := 11) (T := TX12) (C := RX12) (As := [.int j3]) (rest := []) (ws' := (wX12 ad c9 m_undoable m_undoStart m_thrown m_inputLength o2.2.1 o2.2.2.1 o2.2.2.2.1 o2.2.2.2.2.1 o2.2.2.2.2.2.1 o5.2.1 o5.2.2 m_outputLength m_s m_parsed m_tried m_remembered m_slots m_kept m_away m_input m_halfway m_output)) (c_X12_mayDo l hG D c9 ad m_undoable m_undoStart m_thrown m_inputLength o2.2.1 o2.2.2.1 o2.2.2.2.1 o2.2.2.2.2.1 o2.2.2.2.2.2.1 o2.2.2.2.2.2.2.1 o2.2.2.2.2.2.2.2 m_outputLength m_s m_parsed m_tried m_remembered m_slots m_kept m_away m_input m_halfway m_output j3 ho5) 1 (gV wm_201 wm_202 wm_203 wm_37 wm_204) rfl rfl rfl ⟨rfl, pd_X12_mayDo⟩ ⟨Nat.le_of_ble_eq_true rfl, Nat.le_of_ble_eq_true rfl⟩ 0 rfl rfl rfl rfl (Nat.le_of_ble_eq_true rfl) ⟨Nat.zero_le _, Nat.zero_le _⟩ [0, 1, 2, 3, 4, 5, 6, 7, 8, 9, 10] [] [0, 1, 2, 3, 4, 5, 6, 7, 8, 9, 10] rfl rfl rfl rfl dX12_readRenew_33 36 rfl ?_
    refine v_if_eq X (tgt := 55) dX12_readRenew_36 rfl 39 rfl hf (fun hf => ?_) (fun hf => ?_)
    · refine v_aload_n X dX12_readRenew_55 0 rfl rfl 56 rfl ?_
      obtain ⟨o6, ho6, hf⟩ := bnd hf
      refine v_callVv X (ci := 11) (T := TX12) (C := RX12) (As := []) (rest := []) (ws' := (wX12 ad c9 m_undoable m_undoStart m_thrown m_inputLength o6.1 o6.2.1 o6.2.2.1 o6.2.2.2.1 o6.2.2.2.2 o5.2.1 o5.2.2 m_outputLength m_s m_parsed m_tried m_remembered m_slots m_kept m_away m_input m_halfway m_output)) (c_X12_next l hG D c9 ad m_undoable m_undoStart m_thrown m_inputLength o2.2.1 o2.2.2.1 o2.2.2.2.1 o2.2.2.2.2.1 o2.2.2.2.2.2.1 o5.2.1 o5.2.2 m_outputLength m_s m_parsed m_tried m_remembered m_slots m_kept m_away m_input m_halfway m_output ho6) 0 (gV wm_141 wm_142 wm_143 wm_37 wm_144) rfl rfl rfl ⟨rfl, pd_X12_next⟩ ⟨Nat.le_of_ble_eq_true rfl, Nat.le_of_ble_eq_true rfl⟩ 0 rfl rfl rfl rfl (Nat.le_of_ble_eq_true rfl) ⟨Nat.zero_le _, Nat.zero_le _⟩ [0, 1, 2, 3, 4, 5, 6, 7, 8, 9, 10] [] [0, 1, 2, 3, 4, 5, 6, 7, 8, 9, 10] rfl rfl rfl rfl dX12_readRenew_56 59 rfl ?_
      obtain rfl := Option.some.inj hf
      exact v_vret X (Nat.zero_le _) (Nat.zero_le _) dX12_readRenew_59
    · refine v_aload_n X dX12_readRenew_39 0 rfl rfl 40 rfl ?_
      refine v_get X (C := RX12) (T := TX12) (N := 22) (ci := 11) (v := _) dX12_readRenew_40 (lay_of laym_X12) 0 rfl rfl 1 (by decide) (mw wm_162) rfl rfl 43 rfl ?_
      refine v_iload_n X dX12_readRenew_43 1 rfl rfl 44 rfl ?_
      obtain ⟨o7, ho7, hf⟩ := bnd hf
      refine v_callSi X (As := [.ref (ad 2), .int o2.1]) (rest := []) (ws' := (wX12 ad c9 m_undoable m_undoStart m_thrown m_inputLength o2.2.1 o2.2.2.1 o2.2.2.2.1 o2.2.2.2.2.1 o2.2.2.2.2.2.1 o5.2.1 o5.2.2 m_outputLength m_s o7.2 m_tried m_remembered m_slots m_kept m_away m_input m_halfway m_output)) (c_X12_renews l hG D c9 (ad 2) m_parsed o2.1 ho7) 2 (gS wm_235 wm_236 wm_37 wm_237) rfl rfl rfl pd_X12_renews ⟨Nat.le_of_ble_eq_true rfl, Nat.le_of_ble_eq_true rfl⟩ rfl rfl (Nat.le_of_ble_eq_true rfl) ⟨Nat.zero_le _, Nat.zero_le _⟩ [2] [0, 1, 3, 4, 5, 6, 7, 8, 9, 10] [0, 1, 10, 2, 3, 4, 5, 6, 7, 8, 9] rfl rfl rfl rfl dX12_readRenew_44 47 rfl ?_
      refine v_if_ge X (tgt := 55) dX12_readRenew_47 rfl 50 rfl hf (fun hf => ?_) (fun hf => ?_)
      · refine v_aload_n X dX12_readRenew_55 0 rfl rfl 56 rfl ?_
        obtain ⟨o8, ho8, hf⟩ := bnd hf
        refine v_callVv X (ci := 11) (T := TX12) (C := RX12) (As := []) (rest := []) (ws' := (wX12 ad c9 m_undoable m_undoStart m_thrown m_inputLength o8.1 o8.2.1 o8.2.2.1 o8.2.2.2.1 o8.2.2.2.2 o5.2.1 o5.2.2 m_outputLength m_s o7.2 m_tried m_remembered m_slots m_kept m_away m_input m_halfway m_output)) (c_X12_next l hG D c9 ad m_undoable m_undoStart m_thrown m_inputLength o2.2.1 o2.2.2.1 o2.2.2.2.1 o2.2.2.2.2.1 o2.2.2.2.2.2.1 o5.2.1 o5.2.2 m_outputLength m_s o7.2 m_tried m_remembered m_slots m_kept m_away m_input m_halfway m_output ho8) 0 (gV wm_141 wm_142 wm_143 wm_37 wm_144) rfl rfl rfl ⟨rfl, pd_X12_next⟩ ⟨Nat.le_of_ble_eq_true rfl, Nat.le_of_ble_eq_true rfl⟩ 0 rfl rfl rfl rfl (Nat.le_of_ble_eq_true rfl) ⟨Nat.zero_le _, Nat.zero_le _⟩ [0, 1, 2, 3, 4, 5, 6, 7, 8, 9, 10] [] [0, 1, 2, 3, 4, 5, 6, 7, 8, 9, 10] rfl rfl rfl rfl dX12_readRenew_56 59 rfl ?_
        obtain rfl := Option.some.inj hf
        exact v_vret X (Nat.zero_le _) (Nat.zero_le _) dX12_readRenew_59
      · refine v_aload_n X dX12_readRenew_50 0 rfl rfl 51 rfl ?_
        refine v_iconst X dX12_readRenew_51 ic_1 52 rfl ?_
        refine v_put X (C := RX12) (T := TX12) (N := 22) (ci := 11) (ty := tyX12 17) (ws' := (wX12 ad c9 m_undoable m_undoStart m_thrown m_inputLength o2.2.1 o2.2.2.1 o2.2.2.2.1 o2.2.2.2.2.1 o2.2.2.2.2.2.1 1 o5.2.2 m_outputLength m_s o7.2 m_tried m_remembered m_slots m_kept m_away m_input m_halfway m_output)) dX12_readRenew_52 (lay_of laym_X12) 0 rfl rfl 17 (by decide) tyX12 tyX12_ok nmX12 (mw wm_118) rfl rfl (tyX12_ok 17 (by decide)) rfl rfl (Nat.le_of_ble_eq_true rfl) rfl 55 rfl ?_
        refine v_aload_n X dX12_readRenew_55 0 rfl rfl 56 rfl ?_
        obtain ⟨o9, ho9, hf⟩ := bnd hf
        refine v_callVv X (ci := 11) (T := TX12) (C := RX12) (As := []) (rest := []) (ws' := (wX12 ad c9 m_undoable m_undoStart m_thrown m_inputLength o9.1 o9.2.1 o9.2.2.1 o9.2.2.2.1 o9.2.2.2.2 1 o5.2.2 m_outputLength m_s o7.2 m_tried m_remembered m_slots m_kept m_away m_input m_halfway m_output)) (c_X12_next l hG D c9 ad m_undoable m_undoStart m_thrown m_inputLength o2.2.1 o2.2.2.1 o2.2.2.2.1 o2.2.2.2.2.1 o2.2.2.2.2.2.1 1 o5.2.2 m_outputLength m_s o7.2 m_tried m_remembered m_slots m_kept m_away m_input m_halfway m_output ho9) 0 (gV wm_141 wm_142 wm_143 wm_37 wm_144) rfl rfl rfl ⟨rfl, pd_X12_next⟩ ⟨Nat.le_of_ble_eq_true rfl, Nat.le_of_ble_eq_true rfl⟩ 0 rfl rfl rfl rfl (Nat.le_of_ble_eq_true rfl) ⟨Nat.zero_le _, Nat.zero_le _⟩ [0, 1, 2, 3, 4, 5, 6, 7, 8, 9, 10] [] [0, 1, 2, 3, 4, 5, 6, 7, 8, 9, 10] rfl rfl rfl rfl dX12_readRenew_56 59 rfl ?_
        obtain rfl := Option.some.inj hf
        exact v_vret X (Nat.zero_le _) (Nat.zero_le _) dX12_readRenew_59
  clear hf
  refine v_if_ne X (tgt := 32) dX12_readRenew_14 rfl 17 rfl hj3 (fun hf => ?_) (fun hf => ?_)
  · refine v_iconst X dX12_readRenew_32 ic_0 33 rfl ?_
    obtain rfl := Option.some.inj hf
    refine v_sub (lv' := [(0, .ref (ad 0)), (1, .int o2.1)]) [1, 0] rfl ?_
    exact Jj3
  · refine v_aload_n X dX12_readRenew_17 1 rfl rfl 18 rfl ?_
    refine v_get X (C := RX12) (T := TX12) (N := 22) (ci := 11) (v := _) dX12_readRenew_18 (lay_of laym_X12) 0 rfl rfl 1 (by decide) (mw wm_162) rfl rfl 21 rfl ?_
    refine v_iload_n X dX12_readRenew_21 0 rfl rfl 22 rfl ?_
    obtain ⟨o4, ho4, hf⟩ := bnd hf
    refine v_callSi X (As := [.ref (ad 2), .int o2.1]) (rest := [.ref (ad 0)]) (ws' := (wX12 ad c9 m_undoable m_undoStart m_thrown m_inputLength o2.2.1 o2.2.2.1 o2.2.2.2.1 o2.2.2.2.2.1 o2.2.2.2.2.2.1 o2.2.2.2.2.2.2.1 o2.2.2.2.2.2.2.2 m_outputLength m_s m_parsed m_tried m_remembered m_slots m_kept m_away m_input m_halfway m_output)) (c_X12_whyNotRenew l hG D c9 (ad 2) m_parsed o2.1 ho4) 2 (gS wm_232 wm_233 wm_37 wm_234) rfl rfl rfl pd_X12_whyNotRenew ⟨Nat.le_of_ble_eq_true rfl, Nat.le_of_ble_eq_true rfl⟩ rfl rfl (Nat.le_of_ble_eq_true rfl) ⟨Nat.zero_le _, Nat.zero_le _⟩ [2] [0, 1, 3, 4, 5, 6, 7, 8, 9, 10] [0, 1, 10, 2, 3, 4, 5, 6, 7, 8, 9] rfl rfl rfl rfl dX12_readRenew_22 25 rfl ?_
    refine v_if_eq X (tgt := 32) dX12_readRenew_25 rfl 28 rfl hf (fun hf => ?_) (fun hf => ?_)
    · refine v_iconst X dX12_readRenew_32 ic_0 33 rfl ?_
      obtain rfl := Option.some.inj hf
      refine v_sub (lv' := [(0, .ref (ad 0)), (1, .int o2.1)]) [1, 0] rfl ?_
      exact Jj3
    · refine v_iconst X dX12_readRenew_28 ic_1 29 rfl ?_
      refine v_goto X (tgt := 33) dX12_readRenew_29 rfl ?_
      obtain rfl := Option.some.inj hf
      refine v_sub (lv' := [(0, .ref (ad 0)), (1, .int o2.1)]) [1, 0] rfl ?_
      exact Jj3
theorem pd_X12_readRenew : yX12_readRenew.cls ≠ "java/lang/invoke/MethodHandle" ∧ yX12_readRenew.cls ≠ "java/lang/invoke/VarHandle" ∧ (parseMethodDescriptor yX12_readRenew.desc).map (fun d => d.parameters.length) = some 0 := by decide +kernel
def f_X12_readCheese (m_inputLength : Int32) (m_position : Int32) (m_start : Int32) (m_token : Int32) (m_value : Int32) (m_letters : Int32) (m_code : Int32) (m_place : Int32) (m_parsed : Nat → Int32) (m_input : Nat → Int32) : Option (Int32 × Int32 × Int32 × Int32 × Int32 × Int32 × Int32 × (Nat → Int32)) :=
  (f_X12_next m_inputLength m_position m_start m_token m_value m_letters m_code m_input).bind fun o1 =>
  (f_X12_ticketHere m_inputLength o1.1 o1.2.1 o1.2.2.1 o1.2.2.2.1 o1.2.2.2.2 m_code m_place m_parsed m_input).bind fun o2 =>
  Option.bind (if o2.2.2.2.2.2.2.1 = 0 then (
    (f_X12_whyNotCheese m_parsed o2.1).bind fun o4 =>
    if o4 = 0 then (
      some (0))
    else (
      some (1)))
  else (
    some (0)) : Option (Int32)) fun j3 =>
  (f_X12_mayDo o2.2.2.1 o2.2.2.2.1 o2.2.2.2.2.2.2.1 o2.2.2.2.2.2.2.2 m_input j3).bind fun o5 =>
  if o5.1 = 0 then (
    (f_X12_next m_inputLength o2.2.1 o2.2.2.1 o2.2.2.2.1 o2.2.2.2.2.1 o2.2.2.2.2.2.1 o5.2.1 m_input).bind fun o6 =>
    some (o6.1, o6.2.1, o6.2.2.1, o6.2.2.2.1, o6.2.2.2.2, o5.2.1, o5.2.2, m_parsed))
  else (
    (f_X12_gives m_parsed o2.1).bind fun o7 =>
    if 0 ≤ o7.1 then (
      (f_X12_next m_inputLength o2.2.1 o2.2.2.1 o2.2.2.2.1 o2.2.2.2.2.1 o2.2.2.2.2.2.1 o5.2.1 m_input).bind fun o8 =>
      some (o8.1, o8.2.1, o8.2.2.1, o8.2.2.2.1, o8.2.2.2.2, o5.2.1, o5.2.2, o7.2))
    else (
      (f_X12_next m_inputLength o2.2.1 o2.2.2.1 o2.2.2.2.1 o2.2.2.2.2.1 o2.2.2.2.2.2.1 1 m_input).bind fun o9 =>
      some (o9.1, o9.2.1, o9.2.2.1, o9.2.2.2.1, o9.2.2.2.2, 1, o5.2.2, o7.2)))
set_option maxRecDepth 100000 in
set_option maxHeartbeats 4000000 in
theorem c_X12_readCheese (l : Launch) {G : (Nat → Prop) → State → Heap → Prop} (hG : vG G) (D : va_G) (c9 : Nat → ClassId) (ad : Nat → Nat) (m_undoable : Int32) (m_undoStart : Int32) (m_thrown : Int32) (m_inputLength : Int32) (m_position : Int32) (m_start : Int32) (m_token : Int32) (m_value : Int32) (m_letters : Int32) (m_code : Int32) (m_place : Int32) (m_outputLength : Int32) (m_s : Nat → Int32) (m_parsed : Nat → Int32) (m_tried : Nat → Int32) (m_remembered : Nat → Int32) (m_slots : Nat → Int32) (m_kept : Nat → Int32) (m_away : Nat → Int32) (m_input : Nat → Int32) (m_halfway : Nat → Int32) (m_output : Nat → Int32)  {o : Int32 × Int32 × Int32 × Int32 × Int32 × Int32 × Int32 × (Nat → Int32)} (hf : f_X12_readCheese m_inputLength m_position m_start m_token m_value m_letters m_code m_place m_parsed m_input = some o) : mV l yX12_readCheese (wq yX12_readCheese cX12_readCheese 2 none) { frames := 6, cells := 0, slots := 0, locals := 124 } G D (tyA c9) [.ref (ad 0)] (wX12 ad c9 m_undoable m_undoStart m_thrown m_inputLength m_position m_start m_token m_value m_letters m_code m_place m_outputLength m_s m_parsed m_tried m_remembered m_slots m_kept m_away m_input m_halfway m_output) [] 0 0 (wX12 ad c9 m_undoable m_undoStart m_thrown m_inputLength o.1 o.2.1 o.2.2.1 o.2.2.2.1 o.2.2.2.2.1 o.2.2.2.2.2.1 o.2.2.2.2.2.2.1 m_outputLength m_s o.2.2.2.2.2.2.2 m_tried m_remembered m_slots m_kept m_away m_input m_halfway m_output) := by
  refine mV_of hG (cc := cX12_readCheese) (maxL := 2) (by decide) rfl (Nat.le_of_ble_eq_true rfl) ?_
  intro p e s m args below meth c A hnm X
  have X : vX p s m args meth c cX12_readCheese 2 none RX12 (wq yX12_readCheese cX12_readCheese 2 none) D (tyA c9) G A := X
  refine v_eq (lv2 := [(0, .ref (ad 0))]) rfl rfl rfl rfl ?_
  rw [f_X12_readCheese] at hf
  refine v_aload_n X dX12_readCheese_0 0 rfl rfl 1 rfl ?_
  obtain ⟨o1, ho1, hf⟩ := bnd hf
  refine v_callVv X (ci := 11) (T := TX12) (C := RX12) (As := []) (rest := []) (ws' := (wX12 ad c9 m_undoable m_undoStart m_thrown m_inputLength o1.1 o1.2.1 o1.2.2.1 o1.2.2.2.1 o1.2.2.2.2 m_code m_place m_outputLength m_s m_parsed m_tried m_remembered m_slots m_kept m_away m_input m_halfway m_output)) (c_X12_next l hG D c9 ad m_undoable m_undoStart m_thrown m_inputLength m_position m_start m_token m_value m_letters m_code m_place m_outputLength m_s m_parsed m_tried m_remembered m_slots m_kept m_away m_input m_halfway m_output ho1) 0 (gV wm_141 wm_142 wm_143 wm_37 wm_144) rfl rfl rfl ⟨rfl, pd_X12_next⟩ ⟨Nat.le_of_ble_eq_true rfl, Nat.le_of_ble_eq_true rfl⟩ 0 rfl rfl rfl rfl (Nat.le_of_ble_eq_true rfl) ⟨Nat.zero_le _, Nat.zero_le _⟩ [0, 1, 2, 3, 4, 5, 6, 7, 8, 9, 10] [] [0, 1, 2, 3, 4, 5, 6, 7, 8, 9, 10] rfl rfl rfl rfl dX12_readCheese_1 4 rfl ?_
  refine v_aload_n X dX12_readCheese_4 0 rfl rfl 5 rfl ?_
  obtain ⟨o2, ho2, hf⟩ := bnd hf
  refine v_callVi X (ci := 11) (T := TX12) (C := RX12) (As := []) (rest := []) (ws' := (wX12 ad c9 m_undoable m_undoStart m_thrown m_inputLength o2.2.1 o2.2.2.1 o2.2.2.2.1 o2.2.2.2.2.1 o2.2.2.2.2.2.1 o2.2.2.2.2.2.2.1 o2.2.2.2.2.2.2.2 m_outputLength m_s m_parsed m_tried m_remembered m_slots m_kept m_away m_input m_halfway m_output)) (c_X12_ticketHere l hG D c9 ad m_undoable m_undoStart m_thrown m_inputLength o1.1 o1.2.1 o1.2.2.1 o1.2.2.2.1 o1.2.2.2.2 m_code m_place m_outputLength m_s m_parsed m_tried m_remembered m_slots m_kept m_away m_input m_halfway m_output ho2) 0 (gV wm_215 wm_216 wm_217 wm_37 wm_218) rfl rfl rfl ⟨rfl, pd_X12_ticketHere⟩ ⟨Nat.le_of_ble_eq_true rfl, Nat.le_of_ble_eq_true rfl⟩ 0 rfl rfl rfl rfl (Nat.le_of_ble_eq_true rfl) ⟨Nat.zero_le _, Nat.zero_le _⟩ [0, 1, 2, 3, 4, 5, 6, 7, 8, 9, 10] [] [0, 1, 2, 3, 4, 5, 6, 7, 8, 9, 10] rfl rfl rfl rfl dX12_readCheese_5 8 rfl ?_
  refine v_istore_n X (lv' := [(1, .int o2.1), (0, .ref (ad 0))]) dX12_readCheese_8 rfl (by decide) rfl 9 rfl ?_
  refine v_aload_n X dX12_readCheese_9 1 rfl rfl 10 rfl ?_
  refine v_aload_n X dX12_readCheese_10 1 rfl rfl 11 rfl ?_
  refine v_get X (C := RX12) (T := TX12) (N := 22) (ci := 11) (v := _) dX12_readCheese_11 (lay_of laym_X12) 0 rfl rfl 17 (by decide) (mw wm_118) rfl rfl 14 rfl ?_
  obtain ⟨j3, hj3, hf⟩ := bnd hf
  have Jj3 : vW p l e { frames := 6, cells := 0, slots := 0, locals := 124 } s m args below meth c 2 D A [] 0 0 (MQ below (eV D (tyA c9) A ((wX12 ad c9 m_undoable m_undoStart m_thrown m_inputLength o.1 o.2.1 o.2.2.1 o.2.2.2.1 o.2.2.2.2.1 o.2.2.2.2.2.1 o.2.2.2.2.2.2.1 m_outputLength m_s o.2.2.2.2.2.2.2 m_tried m_remembered m_slots m_kept m_away m_input m_halfway m_output) ++ [])) args s 0 0 A) (wX12 ad c9 m_undoable m_undoStart m_thrown m_inputLength o2.2.1 o2.2.2.1 o2.2.2.2.1 o2.2.2.2.2.1 o2.2.2.2.2.2.1 o2.2.2.2.2.2.2.1 o2.2.2.2.2.2.2.2 m_outputLength m_s m_parsed m_tried m_remembered m_slots m_kept m_away m_input m_halfway m_output) 33 [(0, .ref (ad 0)), (1, .int o2.1)] [.int j3, .ref (ad 0)] := by
    obtain ⟨o5, ho5, hf⟩ := bnd hf
    refine v_callVi X (ci := 11) (T := TX12) (C := RX12) (As := [.int j3]) (rest := []) (ws' := (wX12 ad c9 m_undoable m_undoStart m_thrown m_inputLength o2.2.1 o2.2.2.1 o2.2.2.2.1 o2.2.2.2.2.1 o2.2.2.2.2.2.1 o5.2.1 o5.2.2 m_outputLength m_s m_parsed m_tried m_remembered m_slots m_kept m_away m_input m_halfway m_output)) (c_X12_mayDo l hG D c9 ad m_undoable m_undoStart m_thrown m_inputLength o2.2.1 o2.2.2.1 o2.2.2.2.1 o2.2.2.2.2.1 o2.2.2.2.2.2.1 o2.2.2.2.2.2.2.1 o2.2.2.2.2.2.2.2 m_outputLength m_s m_parsed m_tried m_remembered m_slots m_kept m_away m_input m_halfway m_output j3 ho5) 1 (gV wm_201 wm_202 wm_203 wm_37 wm_204) rfl rfl rfl ⟨rfl, pd_X12_mayDo⟩ ⟨Nat.le_of_ble_eq_true rfl, Nat.le_of_ble_eq_true rfl⟩ 0 rfl rfl rfl rfl (Nat.le_of_ble_eq_true rfl) ⟨Nat.zero_le _, Nat.zero_le _⟩ [0, 1, 2, 3, 4, 5, 6, 7, 8, 9, 10] [] [0, 1, 2, 3, 4, 5, 6, 7, 8, 9, 10] rfl rfl rfl rfl dX12_readCheese_33 36 rfl ?_
    refine v_if_eq X (tgt := 55) dX12_readCheese_36 rfl 39 rfl hf (fun hf => ?_) (fun hf => ?_)
    · refine v_aload_n X dX12_readCheese_55 0 rfl rfl 56 rfl ?_
      obtain ⟨o6, ho6, hf⟩ := bnd hf
      refine v_callVv X (ci := 11) (T := TX12) (C := RX12) (As := []) (rest := []) (ws' := (wX12 ad c9 m_undoable m_undoStart m_thrown m_inputLength o6.1 o6.2.1 o6.2.2.1 o6.2.2.2.1 o6.2.2.2.2 o5.2.1 o5.2.2 m_outputLength m_s m_parsed m_tried m_remembered m_slots m_kept m_away m_input m_halfway m_output)) (c_X12_next l hG D c9 ad m_undoable m_undoStart m_thrown m_inputLength o2.2.1 o2.2.2.1 o2.2.2.2.1 o2.2.2.2.2.1 o2.2.2.2.2.2.1 o5.2.1 o5.2.2 m_outputLength m_s m_parsed m_tried m_remembered m_slots m_kept m_away m_input m_halfway m_output ho6) 0 (gV wm_141 wm_142 wm_143 wm_37 wm_144) rfl rfl rfl ⟨rfl, pd_X12_next⟩ ⟨Nat.le_of_ble_eq_true rfl, Nat.le_of_ble_eq_true rfl⟩ 0 rfl rfl rfl rfl (Nat.le_of_ble_eq_true rfl) ⟨Nat.zero_le _, Nat.zero_le _⟩ [0, 1, 2, 3, 4, 5, 6, 7, 8, 9, 10] [] [0, 1, 2, 3, 4, 5, 6, 7, 8, 9, 10] rfl rfl rfl rfl dX12_readCheese_56 59 rfl ?_
      obtain rfl := Option.some.inj hf
      exact v_vret X (Nat.zero_le _) (Nat.zero_le _) dX12_readCheese_59
    · refine v_aload_n X dX12_readCheese_39 0 rfl rfl 40 rfl ?_
      refine v_get X (C := RX12) (T := TX12) (N := 22) (ci := 11) (v := _) dX12_readCheese_40 (lay_of laym_X12) 0 rfl rfl 1 (by decide) (mw wm_162) rfl rfl 43 rfl ?_
      refine v_iload_n X dX12_readCheese_43 1 rfl rfl 44 rfl ?_
      obtain ⟨o7, ho7, hf⟩ := bnd hf
      refine v_callSi X (As := [.ref (ad 2), .int o2.1]) (rest := []) (ws' := (wX12 ad c9 m_undoable m_undoStart m_thrown m_inputLength o2.2.1 o2.2.2.1 o2.2.2.2.1 o2.2.2.2.2.1 o2.2.2.2.2.2.1 o5.2.1 o5.2.2 m_outputLength m_s o7.2 m_tried m_remembered m_slots m_kept m_away m_input m_halfway m_output)) (c_X12_gives l hG D c9 (ad 2) m_parsed o2.1 ho7) 2 (gS wm_241 wm_242 wm_37 wm_243) rfl rfl rfl pd_X12_gives ⟨Nat.le_of_ble_eq_true rfl, Nat.le_of_ble_eq_true rfl⟩ rfl rfl (Nat.le_of_ble_eq_true rfl) ⟨Nat.zero_le _, Nat.zero_le _⟩ [2] [0, 1, 3, 4, 5, 6, 7, 8, 9, 10] [0, 1, 10, 2, 3, 4, 5, 6, 7, 8, 9] rfl rfl rfl rfl dX12_readCheese_44 47 rfl ?_
      refine v_if_ge X (tgt := 55) dX12_readCheese_47 rfl 50 rfl hf (fun hf => ?_) (fun hf => ?_)
      · refine v_aload_n X dX12_readCheese_55 0 rfl rfl 56 rfl ?_
        obtain ⟨o8, ho8, hf⟩ := bnd hf
        refine v_callVv X (ci := 11) (T := TX12) (C := RX12) (As := []) (rest := []) (ws' := (wX12 ad c9 m_undoable m_undoStart m_thrown m_inputLength o8.1 o8.2.1 o8.2.2.1 o8.2.2.2.1 o8.2.2.2.2 o5.2.1 o5.2.2 m_outputLength m_s o7.2 m_tried m_remembered m_slots m_kept m_away m_input m_halfway m_output)) (c_X12_next l hG D c9 ad m_undoable m_undoStart m_thrown m_inputLength o2.2.1 o2.2.2.1 o2.2.2.2.1 o2.2.2.2.2.1 o2.2.2.2.2.2.1 o5.2.1 o5.2.2 m_outputLength m_s o7.2 m_tried m_remembered m_slots m_kept m_away m_input m_halfway m_output ho8) 0 (gV wm_141 wm_142 wm_143 wm_37 wm_144) rfl rfl rfl ⟨rfl, pd_X12_next⟩ ⟨Nat.le_of_ble_eq_true rfl, Nat.le_of_ble_eq_true rfl⟩ 0 rfl rfl rfl rfl (Nat.le_of_ble_eq_true rfl) ⟨Nat.zero_le _, Nat.zero_le _⟩ [0, 1, 2, 3, 4, 5, 6, 7, 8, 9, 10] [] [0, 1, 2, 3, 4, 5, 6, 7, 8, 9, 10] rfl rfl rfl rfl dX12_readCheese_56 59 rfl ?_
        obtain rfl := Option.some.inj hf
        exact v_vret X (Nat.zero_le _) (Nat.zero_le _) dX12_readCheese_59
      · refine v_aload_n X dX12_readCheese_50 0 rfl rfl 51 rfl ?_
        refine v_iconst X dX12_readCheese_51 ic_1 52 rfl ?_
        refine v_put X (C := RX12) (T := TX12) (N := 22) (ci := 11) (ty := tyX12 17) (ws' := (wX12 ad c9 m_undoable m_undoStart m_thrown m_inputLength o2.2.1 o2.2.2.1 o2.2.2.2.1 o2.2.2.2.2.1 o2.2.2.2.2.2.1 1 o5.2.2 m_outputLength m_s o7.2 m_tried m_remembered m_slots m_kept m_away m_input m_halfway m_output)) dX12_readCheese_52 (lay_of laym_X12) 0 rfl rfl 17 (by decide) tyX12 tyX12_ok nmX12 (mw wm_118) rfl rfl (tyX12_ok 17 (by decide)) rfl rfl (Nat.le_of_ble_eq_true rfl) rfl 55 rfl ?_
        refine v_aload_n X dX12_readCheese_55 0 rfl rfl 56 rfl ?_
        obtain ⟨o9, ho9, hf⟩ := bnd hf
        refine v_callVv X (ci := 11) (T := TX12) (C := RX12) (As := []) (rest := []) (ws' := (wX12 ad c9 m_undoable m_undoStart m_thrown m_inputLength o9.1 o9.2.1 o9.2.2.1 o9.2.2.2.1 o9.2.2.2.2 1 o5.2.2 m_outputLength m_s o7.2 m_tried m_remembered m_slots m_kept m_away m_input m_halfway m_output)) (c_X12_next l hG D c9 ad m_undoable m_undoStart m_thrown m_inputLength o2.2.1 o2.2.2.1 o2.2.2.2.1 o2.2.2.2.2.1 o2.2.2.2.2.2.1 1 o5.2.2 m_outputLength m_s o7.2 m_tried m_remembered m_slots m_kept m_away m_input m_halfway m_output ho9) 0 (gV wm_141 wm_142 wm_143 wm_37 wm_144) rfl rfl rfl ⟨rfl, pd_X12_next⟩ ⟨Nat.le_of_ble_eq_true rfl, Nat.le_of_ble_eq_true rfl⟩ 0 rfl rfl rfl rfl (Nat.le_of_ble_eq_true rfl) ⟨Nat.zero_le _, Nat.zero_le _⟩ [0, 1, 2, 3, 4, 5, 6, 7, 8, 9, 10] [] [0, 1, 2, 3, 4, 5, 6, 7, 8, 9, 10] rfl rfl rfl rfl dX12_readCheese_56 59 rfl ?_
        obtain rfl := Option.some.inj hf
        exact v_vret X (Nat.zero_le _) (Nat.zero_le _) dX12_readCheese_59
  clear hf
  refine v_if_ne X (tgt := 32) dX12_readCheese_14 rfl 17 rfl hj3 (fun hf => ?_) (fun hf => ?_)
  · refine v_iconst X dX12_readCheese_32 ic_0 33 rfl ?_
    obtain rfl := Option.some.inj hf
    refine v_sub (lv' := [(0, .ref (ad 0)), (1, .int o2.1)]) [1, 0] rfl ?_
    exact Jj3
  · refine v_aload_n X dX12_readCheese_17 1 rfl rfl 18 rfl ?_
    refine v_get X (C := RX12) (T := TX12) (N := 22) (ci := 11) (v := _) dX12_readCheese_18 (lay_of laym_X12) 0 rfl rfl 1 (by decide) (mw wm_162) rfl rfl 21 rfl ?_
    refine v_iload_n X dX12_readCheese_21 0 rfl rfl 22 rfl ?_
    obtain ⟨o4, ho4, hf⟩ := bnd hf
    refine v_callSi X (As := [.ref (ad 2), .int o2.1]) (rest := [.ref (ad 0)]) (ws' := (wX12 ad c9 m_undoable m_undoStart m_thrown m_inputLength o2.2.1 o2.2.2.1 o2.2.2.2.1 o2.2.2.2.2.1 o2.2.2.2.2.2.1 o2.2.2.2.2.2.2.1 o2.2.2.2.2.2.2.2 m_outputLength m_s m_parsed m_tried m_remembered m_slots m_kept m_away m_input m_halfway m_output)) (c_X12_whyNotCheese l hG D c9 (ad 2) m_parsed o2.1 ho4) 2 (gS wm_238 wm_239 wm_37 wm_240) rfl rfl rfl pd_X12_whyNotCheese ⟨Nat.le_of_ble_eq_true rfl, Nat.le_of_ble_eq_true rfl⟩ rfl rfl (Nat.le_of_ble_eq_true rfl) ⟨Nat.zero_le _, Nat.zero_le _⟩ [2] [0, 1, 3, 4, 5, 6, 7, 8, 9, 10] [0, 1, 10, 2, 3, 4, 5, 6, 7, 8, 9] rfl rfl rfl rfl dX12_readCheese_22 25 rfl ?_
    refine v_if_eq X (tgt := 32) dX12_readCheese_25 rfl 28 rfl hf (fun hf => ?_) (fun hf => ?_)
    · refine v_iconst X dX12_readCheese_32 ic_0 33 rfl ?_
      obtain rfl := Option.some.inj hf
      refine v_sub (lv' := [(0, .ref (ad 0)), (1, .int o2.1)]) [1, 0] rfl ?_
      exact Jj3
    · refine v_iconst X dX12_readCheese_28 ic_1 29 rfl ?_
      refine v_goto X (tgt := 33) dX12_readCheese_29 rfl ?_
      obtain rfl := Option.some.inj hf
      refine v_sub (lv' := [(0, .ref (ad 0)), (1, .int o2.1)]) [1, 0] rfl ?_
      exact Jj3
theorem pd_X12_readCheese : yX12_readCheese.cls ≠ "java/lang/invoke/MethodHandle" ∧ yX12_readCheese.cls ≠ "java/lang/invoke/VarHandle" ∧ (parseMethodDescriptor yX12_readCheese.desc).map (fun d => d.parameters.length) = some 0 := by decide +kernel
def f_X12_readDrop (m_inputLength : Int32) (m_position : Int32) (m_start : Int32) (m_token : Int32) (m_value : Int32) (m_letters : Int32) (m_code : Int32) (m_place : Int32) (m_parsed : Nat → Int32) (m_input : Nat → Int32) : Option (Int32 × Int32 × Int32 × Int32 × Int32 × Int32 × Int32 × (Nat → Int32)) :=
  (f_X12_next m_inputLength m_position m_start m_token m_value m_letters m_code m_input).bind fun o1 =>
  (f_X12_ticketHere m_inputLength o1.1 o1.2.1 o1.2.2.1 o1.2.2.2.1 o1.2.2.2.2 m_code m_place m_parsed m_input).bind fun o2 =>
  (f_X12_finish m_inputLength o2.2.1 o2.2.2.1 o2.2.2.2.1 o2.2.2.2.2.1 o2.2.2.2.2.2.1 o2.2.2.2.2.2.2.1 o2.2.2.2.2.2.2.2 m_input).bind fun o3 =>
  if o3.2.2.2.2.2.1 = 0 then (
    (f_X12_drops m_parsed o2.1).bind fun o4 =>
    if 0 ≤ o4.1 then (
      some (o3.1, o3.2.1, o3.2.2.1, o3.2.2.2.1, o3.2.2.2.2.1, o3.2.2.2.2.2.1, o3.2.2.2.2.2.2, o4.2))
    else (
      some (o3.1, o3.2.1, o3.2.2.1, o3.2.2.2.1, o3.2.2.2.2.1, 1, o3.2.2.2.2.2.2, o4.2)))
  else (
    some (o3.1, o3.2.1, o3.2.2.1, o3.2.2.2.1, o3.2.2.2.2.1, o3.2.2.2.2.2.1, o3.2.2.2.2.2.2, m_parsed))
set_option maxRecDepth 100000 in
set_option maxHeartbeats 4000000 in
theorem c_X12_readDrop (l : Launch) {G : (Nat → Prop) → State → Heap → Prop} (hG : vG G) (D : va_G) (c9 : Nat → ClassId) (ad : Nat → Nat) (m_undoable : Int32) (m_undoStart : Int32) (m_thrown : Int32) (m_inputLength : Int32) (m_position : Int32) (m_start : Int32) (m_token : Int32) (m_value : Int32) (m_letters : Int32) (m_code : Int32) (m_place : Int32) (m_outputLength : Int32) (m_s : Nat → Int32) (m_parsed : Nat → Int32) (m_tried : Nat → Int32) (m_remembered : Nat → Int32) (m_slots : Nat → Int32) (m_kept : Nat → Int32) (m_away : Nat → Int32) (m_input : Nat → Int32) (m_halfway : Nat → Int32) (m_output : Nat → Int32)  {o : Int32 × Int32 × Int32 × Int32 × Int32 × Int32 × Int32 × (Nat → Int32)} (hf : f_X12_readDrop m_inputLength m_position m_start m_token m_value m_letters m_code m_place m_parsed m_input = some o) : mV l yX12_readDrop (wq yX12_readDrop cX12_readDrop 2 none) { frames := 6, cells := 0, slots := 0, locals := 124 } G D (tyA c9) [.ref (ad 0)] (wX12 ad c9 m_undoable m_undoStart m_thrown m_inputLength m_position m_start m_token m_value m_letters m_code m_place m_outputLength m_s m_parsed m_tried m_remembered m_slots m_kept m_away m_input m_halfway m_output) [] 0 0 (wX12 ad c9 m_undoable m_undoStart m_thrown m_inputLength o.1 o.2.1 o.2.2.1 o.2.2.2.1 o.2.2.2.2.1 o.2.2.2.2.2.1 o.2.2.2.2.2.2.1 m_outputLength m_s o.2.2.2.2.2.2.2 m_tried m_remembered m_slots m_kept m_away m_input m_halfway m_output) := by
  refine mV_of hG (cc := cX12_readDrop) (maxL := 2) (by decide) rfl (Nat.le_of_ble_eq_true rfl) ?_
  intro p e s m args below meth c A hnm X
  have X : vX p s m args meth c cX12_readDrop 2 none RX12 (wq yX12_readDrop cX12_readDrop 2 none) D (tyA c9) G A := X
  refine v_eq (lv2 := [(0, .ref (ad 0))]) rfl rfl rfl rfl ?_
  rw [f_X12_readDrop] at hf
  refine v_aload_n X dX12_readDrop_0 0 rfl rfl 1 rfl ?_
  obtain ⟨o1, ho1, hf⟩ := bnd hf
  refine v_callVv X (ci := 11) (T := TX12) (C := RX12) (As := []) (rest := []) (ws' := (wX12 ad c9 m_undoable m_undoStart m_thrown m_inputLength o1.1 o1.2.1 o1.2.2.1 o1.2.2.2.1 o1.2.2.2.2 m_code m_place m_outputLength m_s m_parsed m_tried m_remembered m_slots m_kept m_away m_input m_halfway m_output)) (c_X12_next l hG D c9 ad m_undoable m_undoStart m_thrown m_inputLength m_position m_start m_token m_value m_letters m_code m_place m_outputLength m_s m_parsed m_tried m_remembered m_slots m_kept m_away m_input m_halfway m_output ho1) 0 (gV wm_141 wm_142 wm_143 wm_37 wm_144) rfl rfl rfl ⟨rfl, pd_X12_next⟩ ⟨Nat.le_of_ble_eq_true rfl, Nat.le_of_ble_eq_true rfl⟩ 0 rfl rfl rfl rfl (Nat.le_of_ble_eq_true rfl) ⟨Nat.zero_le _, Nat.zero_le _⟩ [0, 1, 2, 3, 4, 5, 6, 7, 8, 9, 10] [] [0, 1, 2, 3, 4, 5, 6, 7, 8, 9, 10] rfl rfl rfl rfl dX12_readDrop_1 4 rfl ?_
  refine v_aload_n X dX12_readDrop_4 0 rfl rfl 5 rfl ?_
  obtain ⟨o2, ho2, hf⟩ := bnd hf
  refine v_callVi X (ci := 11) (T := TX12) (C := RX12) (As := []) (rest := []) (ws' := (wX12 ad c9 m_undoable m_undoStart m_thrown m_inputLength o2.2.1 o2.2.2.1 o2.2.2.2.1 o2.2.2.2.2.1 o2.2.2.2.2.2.1 o2.2.2.2.2.2.2.1 o2.2.2.2.2.2.2.2 m_outputLength m_s m_parsed m_tried m_remembered m_slots m_kept m_away m_input m_halfway m_output)) (c_X12_ticketHere l hG D c9 ad m_undoable m_undoStart m_thrown m_inputLength o1.1 o1.2.1 o1.2.2.1 o1.2.2.2.1 o1.2.2.2.2 m_code m_place m_outputLength m_s m_parsed m_tried m_remembered m_slots m_kept m_away m_input m_halfway m_output ho2) 0 (gV wm_215 wm_216 wm_217 wm_37 wm_218) rfl rfl rfl ⟨rfl, pd_X12_ticketHere⟩ ⟨Nat.le_of_ble_eq_true rfl, Nat.le_of_ble_eq_true rfl⟩ 0 rfl rfl rfl rfl (Nat.le_of_ble_eq_true rfl) ⟨Nat.zero_le _, Nat.zero_le _⟩ [0, 1, 2, 3, 4, 5, 6, 7, 8, 9, 10] [] [0, 1, 2, 3, 4, 5, 6, 7, 8, 9, 10] rfl rfl rfl rfl dX12_readDrop_5 8 rfl ?_
  refine v_istore_n X (lv' := [(1, .int o2.1), (0, .ref (ad 0))]) dX12_readDrop_8 rfl (by decide) rfl 9 rfl ?_
  refine v_aload_n X dX12_readDrop_9 1 rfl rfl 10 rfl ?_
  obtain ⟨o3, ho3, hf⟩ := bnd hf
  refine v_callVv X (ci := 11) (T := TX12) (C := RX12) (As := []) (rest := []) (ws' := (wX12 ad c9 m_undoable m_undoStart m_thrown m_inputLength o3.1 o3.2.1 o3.2.2.1 o3.2.2.2.1 o3.2.2.2.2.1 o3.2.2.2.2.2.1 o3.2.2.2.2.2.2 m_outputLength m_s m_parsed m_tried m_remembered m_slots m_kept m_away m_input m_halfway m_output)) (c_X12_finish l hG D c9 ad m_undoable m_undoStart m_thrown m_inputLength o2.2.1 o2.2.2.1 o2.2.2.2.1 o2.2.2.2.2.1 o2.2.2.2.2.2.1 o2.2.2.2.2.2.2.1 o2.2.2.2.2.2.2.2 m_outputLength m_s m_parsed m_tried m_remembered m_slots m_kept m_away m_input m_halfway m_output ho3) 0 (gV wm_193 wm_194 wm_195 wm_37 wm_196) rfl rfl rfl ⟨rfl, pd_X12_finish⟩ ⟨Nat.le_of_ble_eq_true rfl, Nat.le_of_ble_eq_true rfl⟩ 0 rfl rfl rfl rfl (Nat.le_of_ble_eq_true rfl) ⟨Nat.zero_le _, Nat.zero_le _⟩ [0, 1, 2, 3, 4, 5, 6, 7, 8, 9, 10] [] [0, 1, 2, 3, 4, 5, 6, 7, 8, 9, 10] rfl rfl rfl rfl dX12_readDrop_10 13 rfl ?_
  refine v_aload_n X dX12_readDrop_13 1 rfl rfl 14 rfl ?_
  refine v_get X (C := RX12) (T := TX12) (N := 22) (ci := 11) (v := _) dX12_readDrop_14 (lay_of laym_X12) 0 rfl rfl 17 (by decide) (mw wm_118) rfl rfl 17 rfl ?_
  refine v_if_ne X (tgt := 36) dX12_readDrop_17 rfl 20 rfl hf (fun hf => ?_) (fun hf => ?_)
  · obtain rfl := Option.some.inj hf
    exact v_vret X (Nat.zero_le _) (Nat.zero_le _) dX12_readDrop_36
  · refine v_aload_n X dX12_readDrop_20 1 rfl rfl 21 rfl ?_
    refine v_get X (C := RX12) (T := TX12) (N := 22) (ci := 11) (v := _) dX12_readDrop_21 (lay_of laym_X12) 0 rfl rfl 1 (by decide) (mw wm_162) rfl rfl 24 rfl ?_
    refine v_iload_n X dX12_readDrop_24 0 rfl rfl 25 rfl ?_
    obtain ⟨o4, ho4, hf⟩ := bnd hf
    refine v_callSi X (As := [.ref (ad 2), .int o2.1]) (rest := []) (ws' := (wX12 ad c9 m_undoable m_undoStart m_thrown m_inputLength o3.1 o3.2.1 o3.2.2.1 o3.2.2.2.1 o3.2.2.2.2.1 o3.2.2.2.2.2.1 o3.2.2.2.2.2.2 m_outputLength m_s o4.2 m_tried m_remembered m_slots m_kept m_away m_input m_halfway m_output)) (c_X12_drops l hG D c9 (ad 2) m_parsed o2.1 ho4) 2 (gS wm_94 wm_95 wm_37 wm_96) rfl rfl rfl pd_X12_drops ⟨Nat.le_of_ble_eq_true rfl, Nat.le_of_ble_eq_true rfl⟩ rfl rfl (Nat.le_of_ble_eq_true rfl) ⟨Nat.zero_le _, Nat.zero_le _⟩ [2] [0, 1, 3, 4, 5, 6, 7, 8, 9, 10] [0, 1, 10, 2, 3, 4, 5, 6, 7, 8, 9] rfl rfl rfl rfl dX12_readDrop_25 28 rfl ?_
    refine v_if_ge X (tgt := 36) dX12_readDrop_28 rfl 31 rfl hf (fun hf => ?_) (fun hf => ?_)
    · obtain rfl := Option.some.inj hf
      exact v_vret X (Nat.zero_le _) (Nat.zero_le _) dX12_readDrop_36
    · refine v_aload_n X dX12_readDrop_31 1 rfl rfl 32 rfl ?_
      refine v_iconst X dX12_readDrop_32 ic_1 33 rfl ?_
      refine v_put X (C := RX12) (T := TX12) (N := 22) (ci := 11) (ty := tyX12 17) (ws' := (wX12 ad c9 m_undoable m_undoStart m_thrown m_inputLength o3.1 o3.2.1 o3.2.2.1 o3.2.2.2.1 o3.2.2.2.2.1 1 o3.2.2.2.2.2.2 m_outputLength m_s o4.2 m_tried m_remembered m_slots m_kept m_away m_input m_halfway m_output)) dX12_readDrop_33 (lay_of laym_X12) 0 rfl rfl 17 (by decide) tyX12 tyX12_ok nmX12 (mw wm_118) rfl rfl (tyX12_ok 17 (by decide)) rfl rfl (Nat.le_of_ble_eq_true rfl) rfl 36 rfl ?_
      obtain rfl := Option.some.inj hf
      exact v_vret X (Nat.zero_le _) (Nat.zero_le _) dX12_readDrop_36
theorem pd_X12_readDrop : yX12_readDrop.cls ≠ "java/lang/invoke/MethodHandle" ∧ yX12_readDrop.cls ≠ "java/lang/invoke/VarHandle" ∧ (parseMethodDescriptor yX12_readDrop.desc).map (fun d => d.parameters.length) = some 0 := by decide +kernel
def f_X12_readSweep (m_inputLength : Int32) (m_position : Int32) (m_start : Int32) (m_token : Int32) (m_value : Int32) (m_letters : Int32) (m_code : Int32) (m_place : Int32) (m_parsed : Nat → Int32) (m_input : Nat → Int32) : Option (Int32 × Int32 × Int32 × Int32 × Int32 × Int32 × Int32 × (Nat → Int32)) :=
  (f_X12_next m_inputLength m_position m_start m_token m_value m_letters m_code m_input).bind fun o1 =>
  (f_X12_finish m_inputLength o1.1 o1.2.1 o1.2.2.1 o1.2.2.2.1 o1.2.2.2.2 m_code m_place m_input).bind fun o2 =>
  if o2.2.2.2.2.2.1 = 0 then (
    (f_X12_sweeps m_parsed).bind fun o3 =>
    if 0 ≤ o3.1 then (
      some (o2.1, o2.2.1, o2.2.2.1, o2.2.2.2.1, o2.2.2.2.2.1, o2.2.2.2.2.2.1, o2.2.2.2.2.2.2, o3.2))
    else (
      some (o2.1, o2.2.1, o2.2.2.1, o2.2.2.2.1, o2.2.2.2.2.1, 1, o2.2.2.2.2.2.2, o3.2)))
  else (
    some (o2.1, o2.2.1, o2.2.2.1, o2.2.2.2.1, o2.2.2.2.2.1, o2.2.2.2.2.2.1, o2.2.2.2.2.2.2, m_parsed))
set_option maxRecDepth 100000 in
set_option maxHeartbeats 4000000 in
theorem c_X12_readSweep (l : Launch) {G : (Nat → Prop) → State → Heap → Prop} (hG : vG G) (D : va_G) (c9 : Nat → ClassId) (ad : Nat → Nat) (m_undoable : Int32) (m_undoStart : Int32) (m_thrown : Int32) (m_inputLength : Int32) (m_position : Int32) (m_start : Int32) (m_token : Int32) (m_value : Int32) (m_letters : Int32) (m_code : Int32) (m_place : Int32) (m_outputLength : Int32) (m_s : Nat → Int32) (m_parsed : Nat → Int32) (m_tried : Nat → Int32) (m_remembered : Nat → Int32) (m_slots : Nat → Int32) (m_kept : Nat → Int32) (m_away : Nat → Int32) (m_input : Nat → Int32) (m_halfway : Nat → Int32) (m_output : Nat → Int32)  {o : Int32 × Int32 × Int32 × Int32 × Int32 × Int32 × Int32 × (Nat → Int32)} (hf : f_X12_readSweep m_inputLength m_position m_start m_token m_value m_letters m_code m_place m_parsed m_input = some o) : mV l yX12_readSweep (wq yX12_readSweep cX12_readSweep 1 none) { frames := 5, cells := 0, slots := 0, locals := 103 } G D (tyA c9) [.ref (ad 0)] (wX12 ad c9 m_undoable m_undoStart m_thrown m_inputLength m_position m_start m_token m_value m_letters m_code m_place m_outputLength m_s m_parsed m_tried m_remembered m_slots m_kept m_away m_input m_halfway m_output) [] 0 0 (wX12 ad c9 m_undoable m_undoStart m_thrown m_inputLength o.1 o.2.1 o.2.2.1 o.2.2.2.1 o.2.2.2.2.1 o.2.2.2.2.2.1 o.2.2.2.2.2.2.1 m_outputLength m_s o.2.2.2.2.2.2.2 m_tried m_remembered m_slots m_kept m_away m_input m_halfway m_output) := by
  refine mV_of hG (cc := cX12_readSweep) (maxL := 1) (by decide) rfl (Nat.le_of_ble_eq_true rfl) ?_
  intro p e s m args below meth c A hnm X
  have X : vX p s m args meth c cX12_readSweep 1 none RX12 (wq yX12_readSweep cX12_readSweep 1 none) D (tyA c9) G A := X
  refine v_eq (lv2 := [(0, .ref (ad 0))]) rfl rfl rfl rfl ?_
  rw [f_X12_readSweep] at hf
  refine v_aload_n X dX12_readSweep_0 0 rfl rfl 1 rfl ?_
  obtain ⟨o1, ho1, hf⟩ := bnd hf
  refine v_callVv X (ci := 11) (T := TX12) (C := RX12) (As := []) (rest := []) (ws' := (wX12 ad c9 m_undoable m_undoStart m_thrown m_inputLength o1.1 o1.2.1 o1.2.2.1 o1.2.2.2.1 o1.2.2.2.2 m_code m_place m_outputLength m_s m_parsed m_tried m_remembered m_slots m_kept m_away m_input m_halfway m_output)) (c_X12_next l hG D c9 ad m_undoable m_undoStart m_thrown m_inputLength m_position m_start m_token m_value m_letters m_code m_place m_outputLength m_s m_parsed m_tried m_remembered m_slots m_kept m_away m_input m_halfway m_output ho1) 0 (gV wm_141 wm_142 wm_143 wm_37 wm_144) rfl rfl rfl ⟨rfl, pd_X12_next⟩ ⟨Nat.le_of_ble_eq_true rfl, Nat.le_of_ble_eq_true rfl⟩ 0 rfl rfl rfl rfl (Nat.le_of_ble_eq_true rfl) ⟨Nat.zero_le _, Nat.zero_le _⟩ [0, 1, 2, 3, 4, 5, 6, 7, 8, 9, 10] [] [0, 1, 2, 3, 4, 5, 6, 7, 8, 9, 10] rfl rfl rfl rfl dX12_readSweep_1 4 rfl ?_
  refine v_aload_n X dX12_readSweep_4 0 rfl rfl 5 rfl ?_
  obtain ⟨o2, ho2, hf⟩ := bnd hf
  refine v_callVv X (ci := 11) (T := TX12) (C := RX12) (As := []) (rest := []) (ws' := (wX12 ad c9 m_undoable m_undoStart m_thrown m_inputLength o2.1 o2.2.1 o2.2.2.1 o2.2.2.2.1 o2.2.2.2.2.1 o2.2.2.2.2.2.1 o2.2.2.2.2.2.2 m_outputLength m_s m_parsed m_tried m_remembered m_slots m_kept m_away m_input m_halfway m_output)) (c_X12_finish l hG D c9 ad m_undoable m_undoStart m_thrown m_inputLength o1.1 o1.2.1 o1.2.2.1 o1.2.2.2.1 o1.2.2.2.2 m_code m_place m_outputLength m_s m_parsed m_tried m_remembered m_slots m_kept m_away m_input m_halfway m_output ho2) 0 (gV wm_193 wm_194 wm_195 wm_37 wm_196) rfl rfl rfl ⟨rfl, pd_X12_finish⟩ ⟨Nat.le_of_ble_eq_true rfl, Nat.le_of_ble_eq_true rfl⟩ 0 rfl rfl rfl rfl (Nat.le_of_ble_eq_true rfl) ⟨Nat.zero_le _, Nat.zero_le _⟩ [0, 1, 2, 3, 4, 5, 6, 7, 8, 9, 10] [] [0, 1, 2, 3, 4, 5, 6, 7, 8, 9, 10] rfl rfl rfl rfl dX12_readSweep_5 8 rfl ?_
  refine v_aload_n X dX12_readSweep_8 0 rfl rfl 9 rfl ?_
  refine v_get X (C := RX12) (T := TX12) (N := 22) (ci := 11) (v := _) dX12_readSweep_9 (lay_of laym_X12) 0 rfl rfl 17 (by decide) (mw wm_118) rfl rfl 12 rfl ?_
  refine v_if_ne X (tgt := 30) dX12_readSweep_12 rfl 15 rfl hf (fun hf => ?_) (fun hf => ?_)
  · obtain rfl := Option.some.inj hf
    exact v_vret X (Nat.zero_le _) (Nat.zero_le _) dX12_readSweep_30
  · refine v_aload_n X dX12_readSweep_15 0 rfl rfl 16 rfl ?_
    refine v_get X (C := RX12) (T := TX12) (N := 22) (ci := 11) (v := _) dX12_readSweep_16 (lay_of laym_X12) 0 rfl rfl 1 (by decide) (mw wm_162) rfl rfl 19 rfl ?_
    obtain ⟨o3, ho3, hf⟩ := bnd hf
    refine v_callSi X (As := [.ref (ad 2)]) (rest := []) (ws' := (wX12 ad c9 m_undoable m_undoStart m_thrown m_inputLength o2.1 o2.2.1 o2.2.2.1 o2.2.2.2.1 o2.2.2.2.2.1 o2.2.2.2.2.2.1 o2.2.2.2.2.2.2 m_outputLength m_s o3.2 m_tried m_remembered m_slots m_kept m_away m_input m_halfway m_output)) (c_X12_sweeps l hG D c9 (ad 2) m_parsed ho3) 1 (gS wm_244 wm_245 wm_37 wm_246) rfl rfl rfl pd_X12_sweeps ⟨Nat.le_of_ble_eq_true rfl, Nat.le_of_ble_eq_true rfl⟩ rfl rfl (Nat.le_of_ble_eq_true rfl) ⟨Nat.zero_le _, Nat.zero_le _⟩ [2] [0, 1, 3, 4, 5, 6, 7, 8, 9, 10] [0, 1, 10, 2, 3, 4, 5, 6, 7, 8, 9] rfl rfl rfl rfl dX12_readSweep_19 22 rfl ?_
    refine v_if_ge X (tgt := 30) dX12_readSweep_22 rfl 25 rfl hf (fun hf => ?_) (fun hf => ?_)
    · obtain rfl := Option.some.inj hf
      exact v_vret X (Nat.zero_le _) (Nat.zero_le _) dX12_readSweep_30
    · refine v_aload_n X dX12_readSweep_25 0 rfl rfl 26 rfl ?_
      refine v_iconst X dX12_readSweep_26 ic_1 27 rfl ?_
      refine v_put X (C := RX12) (T := TX12) (N := 22) (ci := 11) (ty := tyX12 17) (ws' := (wX12 ad c9 m_undoable m_undoStart m_thrown m_inputLength o2.1 o2.2.1 o2.2.2.1 o2.2.2.2.1 o2.2.2.2.2.1 1 o2.2.2.2.2.2.2 m_outputLength m_s o3.2 m_tried m_remembered m_slots m_kept m_away m_input m_halfway m_output)) dX12_readSweep_27 (lay_of laym_X12) 0 rfl rfl 17 (by decide) tyX12 tyX12_ok nmX12 (mw wm_118) rfl rfl (tyX12_ok 17 (by decide)) rfl rfl (Nat.le_of_ble_eq_true rfl) rfl 30 rfl ?_
      obtain rfl := Option.some.inj hf
      exact v_vret X (Nat.zero_le _) (Nat.zero_le _) dX12_readSweep_30
theorem pd_X12_readSweep : yX12_readSweep.cls ≠ "java/lang/invoke/MethodHandle" ∧ yX12_readSweep.cls ≠ "java/lang/invoke/VarHandle" ∧ (parseMethodDescriptor yX12_readSweep.desc).map (fun d => d.parameters.length) = some 0 := by decide +kernel
def f_X12_readPass (m_inputLength : Int32) (m_position : Int32) (m_start : Int32) (m_token : Int32) (m_value : Int32) (m_letters : Int32) (m_code : Int32) (m_place : Int32) (m_parsed : Nat → Int32) (m_input : Nat → Int32) : Option (Int32 × Int32 × Int32 × Int32 × Int32 × Int32 × Int32 × (Nat → Int32)) :=
  (f_X12_next m_inputLength m_position m_start m_token m_value m_letters m_code m_input).bind fun o1 =>
  (f_X12_number m_inputLength o1.1 o1.2.1 o1.2.2.1 o1.2.2.2.1 o1.2.2.2.2 m_code m_place m_input 0 999).bind fun o2 =>
  (f_X12_finish m_inputLength o2.2.1 o2.2.2.1 o2.2.2.2.1 o2.2.2.2.2.1 o2.2.2.2.2.2.1 o2.2.2.2.2.2.2.1 o2.2.2.2.2.2.2.2 m_input).bind fun o3 =>
  if o3.2.2.2.2.2.1 = 0 then (
    (f_X12_passes m_parsed o2.1).bind fun o4 =>
    if 0 ≤ o4.1 then (
      some (o3.1, o3.2.1, o3.2.2.1, o3.2.2.2.1, o3.2.2.2.2.1, o3.2.2.2.2.2.1, o3.2.2.2.2.2.2, o4.2))
    else (
      some (o3.1, o3.2.1, o3.2.2.1, o3.2.2.2.1, o3.2.2.2.2.1, 1, o3.2.2.2.2.2.2, o4.2)))
  else (
    some (o3.1, o3.2.1, o3.2.2.1, o3.2.2.2.1, o3.2.2.2.2.1, o3.2.2.2.2.2.1, o3.2.2.2.2.2.2, m_parsed))
set_option maxRecDepth 100000 in
set_option maxHeartbeats 4000000 in
theorem c_X12_readPass (l : Launch) {G : (Nat → Prop) → State → Heap → Prop} (hG : vG G) (D : va_G) (c9 : Nat → ClassId) (ad : Nat → Nat) (m_undoable : Int32) (m_undoStart : Int32) (m_thrown : Int32) (m_inputLength : Int32) (m_position : Int32) (m_start : Int32) (m_token : Int32) (m_value : Int32) (m_letters : Int32) (m_code : Int32) (m_place : Int32) (m_outputLength : Int32) (m_s : Nat → Int32) (m_parsed : Nat → Int32) (m_tried : Nat → Int32) (m_remembered : Nat → Int32) (m_slots : Nat → Int32) (m_kept : Nat → Int32) (m_away : Nat → Int32) (m_input : Nat → Int32) (m_halfway : Nat → Int32) (m_output : Nat → Int32)  {o : Int32 × Int32 × Int32 × Int32 × Int32 × Int32 × Int32 × (Nat → Int32)} (hf : f_X12_readPass m_inputLength m_position m_start m_token m_value m_letters m_code m_place m_parsed m_input = some o) : mV l yX12_readPass (wq yX12_readPass cX12_readPass 2 none) { frames := 5, cells := 0, slots := 0, locals := 106 } G D (tyA c9) [.ref (ad 0)] (wX12 ad c9 m_undoable m_undoStart m_thrown m_inputLength m_position m_start m_token m_value m_letters m_code m_place m_outputLength m_s m_parsed m_tried m_remembered m_slots m_kept m_away m_input m_halfway m_output) [] 0 0 (wX12 ad c9 m_undoable m_undoStart m_thrown m_inputLength o.1 o.2.1 o.2.2.1 o.2.2.2.1 o.2.2.2.2.1 o.2.2.2.2.2.1 o.2.2.2.2.2.2.1 m_outputLength m_s o.2.2.2.2.2.2.2 m_tried m_remembered m_slots m_kept m_away m_input m_halfway m_output) := by
  refine mV_of hG (cc := cX12_readPass) (maxL := 2) (by decide) rfl (Nat.le_of_ble_eq_true rfl) ?_
  intro p e s m args below meth c A hnm X
  have X : vX p s m args meth c cX12_readPass 2 none RX12 (wq yX12_readPass cX12_readPass 2 none) D (tyA c9) G A := X
  refine v_eq (lv2 := [(0, .ref (ad 0))]) rfl rfl rfl rfl ?_
  rw [f_X12_readPass] at hf
  refine v_aload_n X dX12_readPass_0 0 rfl rfl 1 rfl ?_
  obtain ⟨o1, ho1, hf⟩ := bnd hf
  refine v_callVv X (ci := 11) (T := TX12) (C := RX12) (As := []) (rest := []) (ws' := (wX12 ad c9 m_undoable m_undoStart m_thrown m_inputLength o1.1 o1.2.1 o1.2.2.1 o1.2.2.2.1 o1.2.2.2.2 m_code m_place m_outputLength m_s m_parsed m_tried m_remembered m_slots m_kept m_away m_input m_halfway m_output)) (c_X12_next l hG D c9 ad m_undoable m_undoStart m_thrown m_inputLength m_position m_start m_token m_value m_letters m_code m_place m_outputLength m_s m_parsed m_tried m_remembered m_slots m_kept m_away m_input m_halfway m_output ho1) 0 (gV wm_141 wm_142 wm_143 wm_37 wm_144) rfl rfl rfl ⟨rfl, pd_X12_next⟩ ⟨Nat.le_of_ble_eq_true rfl, Nat.le_of_ble_eq_true rfl⟩ 0 rfl rfl rfl rfl (Nat.le_of_ble_eq_true rfl) ⟨Nat.zero_le _, Nat.zero_le _⟩ [0, 1, 2, 3, 4, 5, 6, 7, 8, 9, 10] [] [0, 1, 2, 3, 4, 5, 6, 7, 8, 9, 10] rfl rfl rfl rfl dX12_readPass_1 4 rfl ?_
  refine v_aload_n X dX12_readPass_4 0 rfl rfl 5 rfl ?_
  refine v_iconst X dX12_readPass_5 ic_0 6 rfl ?_
  refine v_sipush X dX12_readPass_6 sp_999 9 rfl ?_
  obtain ⟨o2, ho2, hf⟩ := bnd hf
  refine v_callVi X (ci := 11) (T := TX12) (C := RX12) (As := [.int 0, .int 999]) (rest := []) (ws' := (wX12 ad c9 m_undoable m_undoStart m_thrown m_inputLength o2.2.1 o2.2.2.1 o2.2.2.2.1 o2.2.2.2.2.1 o2.2.2.2.2.2.1 o2.2.2.2.2.2.2.1 o2.2.2.2.2.2.2.2 m_outputLength m_s m_parsed m_tried m_remembered m_slots m_kept m_away m_input m_halfway m_output)) (c_X12_number l hG D c9 ad m_undoable m_undoStart m_thrown m_inputLength o1.1 o1.2.1 o1.2.2.1 o1.2.2.2.1 o1.2.2.2.2 m_code m_place m_outputLength m_s m_parsed m_tried m_remembered m_slots m_kept m_away m_input m_halfway m_output 0 999 ho2) 2 (gV wm_181 wm_182 wm_183 wm_37 wm_184) rfl rfl rfl ⟨rfl, pd_X12_number⟩ ⟨Nat.le_of_ble_eq_true rfl, Nat.le_of_ble_eq_true rfl⟩ 0 rfl rfl rfl rfl (Nat.le_of_ble_eq_true rfl) ⟨Nat.zero_le _, Nat.zero_le _⟩ [0, 1, 2, 3, 4, 5, 6, 7, 8, 9, 10] [] [0, 1, 2, 3, 4, 5, 6, 7, 8, 9, 10] rfl rfl rfl rfl dX12_readPass_9 12 rfl ?_
  refine v_istore_n X (lv' := [(1, .int o2.1), (0, .ref (ad 0))]) dX12_readPass_12 rfl (by decide) rfl 13 rfl ?_
  refine v_aload_n X dX12_readPass_13 1 rfl rfl 14 rfl ?_
  obtain ⟨o3, ho3, hf⟩ := bnd hf
  refine v_callVv X (ci := 11) (T := TX12) (C := RX12) (As := []) (rest := []) (ws' := (wX12 ad c9 m_undoable m_undoStart m_thrown m_inputLength o3.1 o3.2.1 o3.2.2.1 o3.2.2.2.1 o3.2.2.2.2.1 o3.2.2.2.2.2.1 o3.2.2.2.2.2.2 m_outputLength m_s m_parsed m_tried m_remembered m_slots m_kept m_away m_input m_halfway m_output)) (c_X12_finish l hG D c9 ad m_undoable m_undoStart m_thrown m_inputLength o2.2.1 o2.2.2.1 o2.2.2.2.1 o2.2.2.2.2.1 o2.2.2.2.2.2.1 o2.2.2.2.2.2.2.1 o2.2.2.2.2.2.2.2 m_outputLength m_s m_parsed m_tried m_remembered m_slots m_kept m_away m_input m_halfway m_output ho3) 0 (gV wm_193 wm_194 wm_195 wm_37 wm_196) rfl rfl rfl ⟨rfl, pd_X12_finish⟩ ⟨Nat.le_of_ble_eq_true rfl, Nat.le_of_ble_eq_true rfl⟩ 0 rfl rfl rfl rfl (Nat.le_of_ble_eq_true rfl) ⟨Nat.zero_le _, Nat.zero_le _⟩ [0, 1, 2, 3, 4, 5, 6, 7, 8, 9, 10] [] [0, 1, 2, 3, 4, 5, 6, 7, 8, 9, 10] rfl rfl rfl rfl dX12_readPass_14 17 rfl ?_
  refine v_aload_n X dX12_readPass_17 1 rfl rfl 18 rfl ?_
  refine v_get X (C := RX12) (T := TX12) (N := 22) (ci := 11) (v := _) dX12_readPass_18 (lay_of laym_X12) 0 rfl rfl 17 (by decide) (mw wm_118) rfl rfl 21 rfl ?_
  refine v_if_ne X (tgt := 40) dX12_readPass_21 rfl 24 rfl hf (fun hf => ?_) (fun hf => ?_)
  · obtain rfl := Option.some.inj hf
    exact v_vret X (Nat.zero_le _) (Nat.zero_le _) dX12_readPass_40
  · refine v_aload_n X dX12_readPass_24 1 rfl rfl 25 rfl ?_
    refine v_get X (C := RX12) (T := TX12) (N := 22) (ci := 11) (v := _) dX12_readPass_25 (lay_of laym_X12) 0 rfl rfl 1 (by decide) (mw wm_162) rfl rfl 28 rfl ?_
    refine v_iload_n X dX12_readPass_28 0 rfl rfl 29 rfl ?_
    obtain ⟨o4, ho4, hf⟩ := bnd hf
    refine v_callSi X (As := [.ref (ad 2), .int o2.1]) (rest := []) (ws' := (wX12 ad c9 m_undoable m_undoStart m_thrown m_inputLength o3.1 o3.2.1 o3.2.2.1 o3.2.2.2.1 o3.2.2.2.2.1 o3.2.2.2.2.2.1 o3.2.2.2.2.2.2 m_outputLength m_s o4.2 m_tried m_remembered m_slots m_kept m_away m_input m_halfway m_output)) (c_X12_passes l hG D c9 (ad 2) m_parsed o2.1 ho4) 2 (gS wm_247 wm_248 wm_37 wm_249) rfl rfl rfl pd_X12_passes ⟨Nat.le_of_ble_eq_true rfl, Nat.le_of_ble_eq_true rfl⟩ rfl rfl (Nat.le_of_ble_eq_true rfl) ⟨Nat.zero_le _, Nat.zero_le _⟩ [2] [0, 1, 3, 4, 5, 6, 7, 8, 9, 10] [0, 1, 10, 2, 3, 4, 5, 6, 7, 8, 9] rfl rfl rfl rfl dX12_readPass_29 32 rfl ?_
    refine v_if_ge X (tgt := 40) dX12_readPass_32 rfl 35 rfl hf (fun hf => ?_) (fun hf => ?_)
    · obtain rfl := Option.some.inj hf
      exact v_vret X (Nat.zero_le _) (Nat.zero_le _) dX12_readPass_40
    · refine v_aload_n X dX12_readPass_35 1 rfl rfl 36 rfl ?_
      refine v_iconst X dX12_readPass_36 ic_1 37 rfl ?_
      refine v_put X (C := RX12) (T := TX12) (N := 22) (ci := 11) (ty := tyX12 17) (ws' := (wX12 ad c9 m_undoable m_undoStart m_thrown m_inputLength o3.1 o3.2.1 o3.2.2.1 o3.2.2.2.1 o3.2.2.2.2.1 1 o3.2.2.2.2.2.2 m_outputLength m_s o4.2 m_tried m_remembered m_slots m_kept m_away m_input m_halfway m_output)) dX12_readPass_37 (lay_of laym_X12) 0 rfl rfl 17 (by decide) tyX12 tyX12_ok nmX12 (mw wm_118) rfl rfl (tyX12_ok 17 (by decide)) rfl rfl (Nat.le_of_ble_eq_true rfl) rfl 40 rfl ?_
      obtain rfl := Option.some.inj hf
      exact v_vret X (Nat.zero_le _) (Nat.zero_le _) dX12_readPass_40
theorem pd_X12_readPass : yX12_readPass.cls ≠ "java/lang/invoke/MethodHandle" ∧ yX12_readPass.cls ≠ "java/lang/invoke/VarHandle" ∧ (parseMethodDescriptor yX12_readPass.desc).map (fun d => d.parameters.length) = some 0 := by decide +kernel
def f_X12_readStatement (m_inputLength : Int32) (m_position : Int32) (m_start : Int32) (m_token : Int32) (m_value : Int32) (m_letters : Int32) (m_code : Int32) (m_place : Int32) (m_parsed : Nat → Int32) (m_input : Nat → Int32) : Option (Int32 × Int32 × Int32 × Int32 × Int32 × Int32 × Int32 × (Nat → Int32)) :=
  (f_X12_is m_start m_token m_letters m_input 10).bind fun o1 =>
  if o1 = 0 then (
    (f_X12_is m_start m_token m_letters m_input 11).bind fun o2 =>
    if o2 = 0 then (
      (f_X12_is m_start m_token m_letters m_input 12).bind fun o3 =>
      if o3 = 0 then (
        (f_X12_is m_start m_token m_letters m_input 13).bind fun o4 =>
        if o4 = 0 then (
          (f_X12_is m_start m_token m_letters m_input 14).bind fun o5 =>
          if o5 = 0 then (
            (f_X12_is m_start m_token m_letters m_input 15).bind fun o6 =>
            if o6 = 0 then (
              (f_X12_is m_start m_token m_letters m_input 16).bind fun o7 =>
              if o7 = 0 then (
                (f_X12_is m_start m_token m_letters m_input 17).bind fun o8 =>
                if o8 = 0 then (
                  (f_X12_is m_start m_token m_letters m_input 18).bind fun o9 =>
                  if o9 = 0 then (
                    (f_X12_is m_start m_token m_letters m_input 19).bind fun o10 =>
                    if o10 = 0 then (
                      (f_X12_is m_start m_token m_letters m_input 20).bind fun o11 =>
                      if o11 = 0 then (
                        (f_X12_is m_start m_token m_letters m_input 21).bind fun o12 =>
                        if o12 = 0 then (
                          (f_X12_check m_start m_code m_place 0 1).bind fun o13 =>
                          some (m_position, m_start, m_token, m_value, m_letters, o13.2.1, o13.2.2, m_parsed))
                        else (
                          (f_X12_readPass m_inputLength m_position m_start m_token m_value m_letters m_code m_place m_parsed m_input).bind fun o14 =>
                          some (o14.1, o14.2.1, o14.2.2.1, o14.2.2.2.1, o14.2.2.2.2.1, o14.2.2.2.2.2.1, o14.2.2.2.2.2.2.1, o14.2.2.2.2.2.2.2)))
                      else (
                        (f_X12_readSweep m_inputLength m_position m_start m_token m_value m_letters m_code m_place m_parsed m_input).bind fun o15 =>
                        some (o15.1, o15.2.1, o15.2.2.1, o15.2.2.2.1, o15.2.2.2.2.1, o15.2.2.2.2.2.1, o15.2.2.2.2.2.2.1, o15.2.2.2.2.2.2.2)))
                    else (
                      (f_X12_readDrop m_inputLength m_position m_start m_token m_value m_letters m_code m_place m_parsed m_input).bind fun o16 =>
                      some (o16.1, o16.2.1, o16.2.2.1, o16.2.2.2.1, o16.2.2.2.2.1, o16.2.2.2.2.2.1, o16.2.2.2.2.2.2.1, o16.2.2.2.2.2.2.2)))
                  else (
                    (f_X12_readCheese m_inputLength m_position m_start m_token m_value m_letters m_code m_place m_parsed m_input).bind fun o17 =>
                    some (o17.1, o17.2.1, o17.2.2.1, o17.2.2.2.1, o17.2.2.2.2.1, o17.2.2.2.2.2.1, o17.2.2.2.2.2.2.1, o17.2.2.2.2.2.2.2)))
                else (
                  (f_X12_readRenew m_inputLength m_position m_start m_token m_value m_letters m_code m_place m_parsed m_input).bind fun o18 =>
                  some (o18.1, o18.2.1, o18.2.2.1, o18.2.2.2.1, o18.2.2.2.2.1, o18.2.2.2.2.2.1, o18.2.2.2.2.2.2.1, o18.2.2.2.2.2.2.2)))
              else (
                (f_X12_readRequest m_inputLength m_position m_start m_token m_value m_letters m_code m_place m_parsed m_input).bind fun o19 =>
                some (o19.1, o19.2.1, o19.2.2.1, o19.2.2.2.1, o19.2.2.2.2.1, o19.2.2.2.2.2.1, o19.2.2.2.2.2.2.1, o19.2.2.2.2.2.2.2)))
            else (
              (f_X12_readRefer m_inputLength m_position m_start m_token m_value m_letters m_code m_place m_parsed m_input).bind fun o20 =>
              some (o20.1, o20.2.1, o20.2.2.1, o20.2.2.2.1, o20.2.2.2.2.1, o20.2.2.2.2.2.1, o20.2.2.2.2.2.2.1, o20.2.2.2.2.2.2.2)))
          else (
            (f_X12_readLogin m_inputLength m_position m_start m_token m_value m_letters m_code m_place m_parsed m_input).bind fun o21 =>
            some (o21.1, o21.2.1, o21.2.2.1, o21.2.2.2.1, o21.2.2.2.2.1, o21.2.2.2.2.2.1, o21.2.2.2.2.2.2.1, o21.2.2.2.2.2.2.2)))
        else (
          (f_X12_readService m_inputLength m_position m_start m_token m_value m_letters m_code m_place m_parsed m_input).bind fun o22 =>
          some (o22.1, o22.2.1, o22.2.2.1, o22.2.2.2.1, o22.2.2.2.2.1, o22.2.2.2.2.2.1, o22.2.2.2.2.2.2.1, o22.2.2.2.2.2.2.2)))
      else (
        (f_X12_readUser m_inputLength m_position m_start m_token m_value m_letters m_code m_place m_parsed m_input).bind fun o23 =>
        some (o23.1, o23.2.1, o23.2.2.1, o23.2.2.2.1, o23.2.2.2.2.1, o23.2.2.2.2.2.1, o23.2.2.2.2.2.2.1, o23.2.2.2.2.2.2.2)))
    else (
      (f_X12_readTrust m_inputLength m_position m_start m_token m_value m_letters m_code m_place m_parsed m_input).bind fun o24 =>
      some (o24.1, o24.2.1, o24.2.2.1, o24.2.2.2.1, o24.2.2.2.2.1, o24.2.2.2.2.2.1, o24.2.2.2.2.2.2.1, o24.2.2.2.2.2.2.2)))
  else (
    (f_X12_readRealm m_inputLength m_position m_start m_token m_value m_letters m_code m_place m_parsed m_input).bind fun o25 =>
    some (o25.1, o25.2.1, o25.2.2.1, o25.2.2.2.1, o25.2.2.2.2.1, o25.2.2.2.2.2.1, o25.2.2.2.2.2.2.1, o25.2.2.2.2.2.2.2))
set_option maxRecDepth 100000 in
set_option maxHeartbeats 4000000 in
theorem c_X12_readStatement (l : Launch) {G : (Nat → Prop) → State → Heap → Prop} (hG : vG G) (D : va_G) (c9 : Nat → ClassId) (sk sv : Nat → Nat) (hGU : ∀ (A : Nat → Prop) (U : State) (H : Heap), G A U H → vU sk sv A U H) (ad : Nat → Nat) (m_undoable : Int32) (m_undoStart : Int32) (m_thrown : Int32) (m_inputLength : Int32) (m_position : Int32) (m_start : Int32) (m_token : Int32) (m_value : Int32) (m_letters : Int32) (m_code : Int32) (m_place : Int32) (m_outputLength : Int32) (m_s : Nat → Int32) (m_parsed : Nat → Int32) (m_tried : Nat → Int32) (m_remembered : Nat → Int32) (m_slots : Nat → Int32) (m_kept : Nat → Int32) (m_away : Nat → Int32) (m_input : Nat → Int32) (m_halfway : Nat → Int32) (m_output : Nat → Int32)  {o : Int32 × Int32 × Int32 × Int32 × Int32 × Int32 × Int32 × (Nat → Int32)} (hf : f_X12_readStatement m_inputLength m_position m_start m_token m_value m_letters m_code m_place m_parsed m_input = some o) : mV l yX12_readStatement (wq yX12_readStatement cX12_readStatement 1 none) { frames := 8, cells := 0, slots := 0, locals := 220 } G D (tyA c9) [.ref (ad 0)] (wX12 ad c9 m_undoable m_undoStart m_thrown m_inputLength m_position m_start m_token m_value m_letters m_code m_place m_outputLength m_s m_parsed m_tried m_remembered m_slots m_kept m_away m_input m_halfway m_output) [] 0 0 (wX12 ad c9 m_undoable m_undoStart m_thrown m_inputLength o.1 o.2.1 o.2.2.1 o.2.2.2.1 o.2.2.2.2.1 o.2.2.2.2.2.1 o.2.2.2.2.2.2.1 m_outputLength m_s o.2.2.2.2.2.2.2 m_tried m_remembered m_slots m_kept m_away m_input m_halfway m_output) := by
  refine mV_of hG (cc := cX12_readStatement) (maxL := 1) (by decide) rfl (Nat.le_of_ble_eq_true rfl) ?_
  intro p e s m args below meth c A hnm X
  have X : vX p s m args meth c cX12_readStatement 1 none RX12 (wq yX12_readStatement cX12_readStatement 1 none) D (tyA c9) G A := X
  refine v_eq (lv2 := [(0, .ref (ad 0))]) rfl rfl rfl rfl ?_
  rw [f_X12_readStatement] at hf
  refine v_aload_n X dX12_readStatement_0 0 rfl rfl 1 rfl ?_
  refine v_ldsw X hGU (i := 10) dX12_readStatement_1 js_RX12_304 4 rfl ?_
  obtain ⟨o1, ho1, hf⟩ := bnd hf
  refine v_callVi X (ci := 11) (T := TX12) (C := RX12) (As := [.ref (sk 10)]) (rest := []) (ws' := (wX12 ad c9 m_undoable m_undoStart m_thrown m_inputLength m_position m_start m_token m_value m_letters m_code m_place m_outputLength m_s m_parsed m_tried m_remembered m_slots m_kept m_away m_input m_halfway m_output)) (c_X12_is l hG D c9 sk sv hGU ad m_undoable m_undoStart m_thrown m_inputLength m_position m_start m_token m_value m_letters m_code m_place m_outputLength m_s m_parsed m_tried m_remembered m_slots m_kept m_away m_input m_halfway m_output 10 (by decide) ho1) 1 (gV wm_177 wm_178 wm_179 wm_37 wm_180) rfl rfl rfl ⟨rfl, pd_X12_is⟩ ⟨Nat.le_of_ble_eq_true rfl, Nat.le_of_ble_eq_true rfl⟩ 0 rfl rfl rfl rfl (Nat.le_of_ble_eq_true rfl) ⟨Nat.zero_le _, Nat.zero_le _⟩ [0, 1, 2, 3, 4, 5, 6, 7, 8, 9, 10] [] [0, 1, 2, 3, 4, 5, 6, 7, 8, 9, 10] rfl rfl rfl rfl dX12_readStatement_4 7 rfl ?_
  refine v_if_eq X (tgt := 17) dX12_readStatement_7 rfl 10 rfl hf (fun hf => ?_) (fun hf => ?_)
  · refine v_aload_n X dX12_readStatement_17 0 rfl rfl 18 rfl ?_
    refine v_ldsw X hGU (i := 11) dX12_readStatement_18 js_RX12_309 21 rfl ?_
    obtain ⟨o2, ho2, hf⟩ := bnd hf
    refine v_callVi X (ci := 11) (T := TX12) (C := RX12) (As := [.ref (sk 11)]) (rest := []) (ws' := (wX12 ad c9 m_undoable m_undoStart m_thrown m_inputLength m_position m_start m_token m_value m_letters m_code m_place m_outputLength m_s m_parsed m_tried m_remembered m_slots m_kept m_away m_input m_halfway m_output)) (c_X12_is l hG D c9 sk sv hGU ad m_undoable m_undoStart m_thrown m_inputLength m_position m_start m_token m_value m_letters m_code m_place m_outputLength m_s m_parsed m_tried m_remembered m_slots m_kept m_away m_input m_halfway m_output 11 (by decide) ho2) 1 (gV wm_177 wm_178 wm_179 wm_37 wm_180) rfl rfl rfl ⟨rfl, pd_X12_is⟩ ⟨Nat.le_of_ble_eq_true rfl, Nat.le_of_ble_eq_true rfl⟩ 0 rfl rfl rfl rfl (Nat.le_of_ble_eq_true rfl) ⟨Nat.zero_le _, Nat.zero_le _⟩ [0, 1, 2, 3, 4, 5, 6, 7, 8, 9, 10] [] [0, 1, 2, 3, 4, 5, 6, 7, 8, 9, 10] rfl rfl rfl rfl dX12_readStatement_21 24 rfl ?_
    refine v_if_eq X (tgt := 34) dX12_readStatement_24 rfl 27 rfl hf (fun hf => ?_) (fun hf => ?_)
    · refine v_aload_n X dX12_readStatement_34 0 rfl rfl 35 rfl ?_
      refine v_ldsw X hGU (i := 12) dX12_readStatement_35 js_RX12_314 38 rfl ?_
      obtain ⟨o3, ho3, hf⟩ := bnd hf
      refine v_callVi X (ci := 11) (T := TX12) (C := RX12) (As := [.ref (sk 12)]) (rest := []) (ws' := (wX12 ad c9 m_undoable m_undoStart m_thrown m_inputLength m_position m_start m_token m_value m_letters m_code m_place m_outputLength m_s m_parsed m_tried m_remembered m_slots m_kept m_away m_input m_halfway m_output)) (c_X12_is l hG D c9 sk sv hGU ad m_undoable m_undoStart m_thrown m_inputLength m_position m_start m_token m_value m_letters m_code m_place m_outputLength m_s m_parsed m_tried m_remembered m_slots m_kept m_away m_input m_halfway m_output 12 (by decide) ho3) 1 (gV wm_177 wm_178 wm_179 wm_37 wm_180) rfl rfl rfl ⟨rfl, pd_X12_is⟩ ⟨Nat.le_of_ble_eq_true rfl, Nat.le_of_ble_eq_true rfl⟩ 0 rfl rfl rfl rfl (Nat.le_of_ble_eq_true rfl) ⟨Nat.zero_le _, Nat.zero_le _⟩ [0, 1, 2, 3, 4, 5, 6, 7, 8, 9, 10] [] [0, 1, 2, 3, 4, 5, 6, 7, 8, 9, 10] rfl rfl rfl rfl dX12_readStatement_38 41 rfl ?_
      refine v_if_eq X (tgt := 51) dX12_readStatement_41 rfl 44 rfl hf (fun hf => ?_) (fun hf => ?_)
      · refine v_aload_n X dX12_readStatement_51 0 rfl rfl 52 rfl ?_
        refine v_ldsw X hGU (i := 13) dX12_readStatement_52 js_RX12_319 55 rfl ?_
        obtain ⟨o4, ho4, hf⟩ := bnd hf
        refine v_callVi X (ci := 11) (T := TX12) (C := RX12) (As := [.ref (sk 13)]) (rest := []) (ws' := (wX12 ad c9 m_undoable m_undoStart m_thrown m_inputLength m_position m_start m_token m_value m_letters m_code m_place m_outputLength m_s m_parsed m_tried m_remembered m_slots m_kept m_away m_input m_halfway m_output)) (c_X12_is l hG D c9 sk sv hGU ad m_undoable m_undoStart m_thrown m_inputLength m_position m_start m_token m_value m_letters m_code m_place m_outputLength m_s m_parsed m_tried m_remembered m_slots m_kept m_away m_input m_halfway m_output 13 (by decide) ho4) 1 (gV wm_177 wm_178 wm_179 wm_37 wm_180) rfl rfl rfl ⟨rfl, pd_X12_is⟩ ⟨Nat.le_of_ble_eq_true rfl, Nat.le_of_ble_eq_true rfl⟩ 0 rfl rfl rfl rfl (Nat.le_of_ble_eq_true rfl) ⟨Nat.zero_le _, Nat.zero_le _⟩ [0, 1, 2, 3, 4, 5, 6, 7, 8, 9, 10] [] [0, 1, 2, 3, 4, 5, 6, 7, 8, 9, 10] rfl rfl rfl rfl dX12_readStatement_55 58 rfl ?_
        refine v_if_eq X (tgt := 68) dX12_readStatement_58 rfl 61 rfl hf (fun hf => ?_) (fun hf => ?_)
        · refine v_aload_n X dX12_readStatement_68 0 rfl rfl 69 rfl ?_
          refine v_ldsw X hGU (i := 14) dX12_readStatement_69 js_RX12_324 72 rfl ?_
          obtain ⟨o5, ho5, hf⟩ := bnd hf
          refine v_callVi X (ci := 11) (T := TX12) (C := RX12) (As := [.ref (sk 14)]) (rest := []) (ws' := (wX12 ad c9 m_undoable m_undoStart m_thrown m_inputLength m_position m_start m_token m_value m_letters m_code m_place m_outputLength m_s m_parsed m_tried m_remembered m_slots m_kept m_away m_input m_halfway m_output)) (c_X12_is l hG D c9 sk sv hGU ad m_undoable m_undoStart m_thrown m_inputLength m_position m_start m_token m_value m_letters m_code m_place m_outputLength m_s m_parsed m_tried m_remembered m_slots m_kept m_away m_input m_halfway m_output 14 (by decide) ho5) 1 (gV wm_177 wm_178 wm_179 wm_37 wm_180) rfl rfl rfl ⟨rfl, pd_X12_is⟩ ⟨Nat.le_of_ble_eq_true rfl, Nat.le_of_ble_eq_true rfl⟩ 0 rfl rfl rfl rfl (Nat.le_of_ble_eq_true rfl) ⟨Nat.zero_le _, Nat.zero_le _⟩ [0, 1, 2, 3, 4, 5, 6, 7, 8, 9, 10] [] [0, 1, 2, 3, 4, 5, 6, 7, 8, 9, 10] rfl rfl rfl rfl dX12_readStatement_72 75 rfl ?_
          refine v_if_eq X (tgt := 85) dX12_readStatement_75 rfl 78 rfl hf (fun hf => ?_) (fun hf => ?_)
          · refine v_aload_n X dX12_readStatement_85 0 rfl rfl 86 rfl ?_
            refine v_ldsw X hGU (i := 15) dX12_readStatement_86 js_RX12_329 89 rfl ?_
            obtain ⟨o6, ho6, hf⟩ := bnd hf
            refine v_callVi X (ci := 11) (T := TX12) (C := RX12) (As := [.ref (sk 15)]) (rest := []) (ws' := (wX12 ad c9 m_undoable m_undoStart m_thrown m_inputLength m_position m_start m_token m_value m_letters m_code m_place m_outputLength m_s m_parsed m_tried m_remembered m_slots m_kept m_away m_input m_halfway m_output)) (c_X12_is l hG D c9 sk sv hGU ad m_undoable m_undoStart m_thrown m_inputLength m_position m_start m_token m_value m_letters m_code m_place m_outputLength m_s m_parsed m_tried m_remembered m_slots m_kept m_away m_input m_halfway m_output 15 (by decide) ho6) 1 (gV wm_177 wm_178 wm_179 wm_37 wm_180) rfl rfl rfl ⟨rfl, pd_X12_is⟩ ⟨Nat.le_of_ble_eq_true rfl, Nat.le_of_ble_eq_true rfl⟩ 0 rfl rfl rfl rfl (Nat.le_of_ble_eq_true rfl) ⟨Nat.zero_le _, Nat.zero_le _⟩ [0, 1, 2, 3, 4, 5, 6, 7, 8, 9, 10] [] [0, 1, 2, 3, 4, 5, 6, 7, 8, 9, 10] rfl rfl rfl rfl dX12_readStatement_89 92 rfl ?_
            refine v_if_eq X (tgt := 102) dX12_readStatement_92 rfl 95 rfl hf (fun hf => ?_) (fun hf => ?_)
            · refine v_aload_n X dX12_readStatement_102 0 rfl rfl 103 rfl ?_
              refine v_ldsw X hGU (i := 16) dX12_readStatement_103 js_RX12_334 106 rfl ?_
              obtain ⟨o7, ho7, hf⟩ := bnd hf
              refine v_callVi X (ci := 11) (T := TX12) (C := RX12) (As := [.ref (sk 16)]) (rest := []) (ws' := (wX12 ad c9 m_undoable m_undoStart m_thrown m_inputLength m_position m_start m_token m_value m_letters m_code m_place m_outputLength m_s m_parsed m_tried m_remembered m_slots m_kept m_away m_input m_halfway m_output)) (c_X12_is l hG D c9 sk sv hGU ad m_undoable m_undoStart m_thrown m_inputLength m_position m_start m_token m_value m_letters m_code m_place m_outputLength m_s m_parsed m_tried m_remembered m_slots m_kept m_away m_input m_halfway m_output 16 (by decide) ho7) 1 (gV wm_177 wm_178 wm_179 wm_37 wm_180) rfl rfl rfl ⟨rfl, pd_X12_is⟩ ⟨Nat.le_of_ble_eq_true rfl, Nat.le_of_ble_eq_true rfl⟩ 0 rfl rfl rfl rfl (Nat.le_of_ble_eq_true rfl) ⟨Nat.zero_le _, Nat.zero_le _⟩ [0, 1, 2, 3, 4, 5, 6, 7, 8, 9, 10] [] [0, 1, 2, 3, 4, 5, 6, 7, 8, 9, 10] rfl rfl rfl rfl dX12_readStatement_106 109 rfl ?_
              refine v_if_eq X (tgt := 119) dX12_readStatement_109 rfl 112 rfl hf (fun hf => ?_) (fun hf => ?_)
              · refine v_aload_n X dX12_readStatement_119 0 rfl rfl 120 rfl ?_
                refine v_ldsw X hGU (i := 17) dX12_readStatement_120 js_RX12_339 123 rfl ?_
                obtain ⟨o8, ho8, hf⟩ := bnd hf
                refine v_callVi X (ci := 11) (T := TX12) (C := RX12) (As := [.ref (sk 17)]) (rest := []) (ws' := (wX12 ad c9 m_undoable m_undoStart m_thrown m_inputLength m_position m_start m_token m_value m_letters m_code m_place m_outputLength m_s m_parsed m_tried m_remembered m_slots m_kept m_away m_input m_halfway m_output)) (c_X12_is l hG D c9 sk sv hGU ad m_undoable m_undoStart m_thrown m_inputLength m_position m_start m_token m_value m_letters m_code m_place m_outputLength m_s m_parsed m_tried m_remembered m_slots m_kept m_away m_input m_halfway m_output 17 (by decide) ho8) 1 (gV wm_177 wm_178 wm_179 wm_37 wm_180) rfl rfl rfl ⟨rfl, pd_X12_is⟩ ⟨Nat.le_of_ble_eq_true rfl, Nat.le_of_ble_eq_true rfl⟩ 0 rfl rfl rfl rfl (Nat.le_of_ble_eq_true rfl) ⟨Nat.zero_le _, Nat.zero_le _⟩ [0, 1, 2, 3, 4, 5, 6, 7, 8, 9, 10] [] [0, 1, 2, 3, 4, 5, 6, 7, 8, 9, 10] rfl rfl rfl rfl dX12_readStatement_123 126 rfl ?_
                refine v_if_eq X (tgt := 136) dX12_readStatement_126 rfl 129 rfl hf (fun hf => ?_) (fun hf => ?_)
                · refine v_aload_n X dX12_readStatement_136 0 rfl rfl 137 rfl ?_
                  refine v_ldsw X hGU (i := 18) dX12_readStatement_137 js_RX12_344 140 rfl ?_
                  obtain ⟨o9, ho9, hf⟩ := bnd hf
                  refine v_callVi X (ci := 11) (T := TX12) (C := RX12) (As := [.ref (sk 18)]) (rest := []) (ws' := (wX12 ad c9 m_undoable m_undoStart m_thrown m_inputLength m_position m_start m_token m_value m_letters m_code m_place m_outputLength m_s m_parsed m_tried m_remembered m_slots m_kept m_away m_input m_halfway m_output)) (c_X12_is l hG D c9 sk sv hGU ad m_undoable m_undoStart m_thrown m_inputLength m_position m_start m_token m_value m_letters m_code m_place m_outputLength m_s m_parsed m_tried m_remembered m_slots m_kept m_away m_input m_halfway m_output 18 (by decide) ho9) 1 (gV wm_177 wm_178 wm_179 wm_37 wm_180) rfl rfl rfl ⟨rfl, pd_X12_is⟩ ⟨Nat.le_of_ble_eq_true rfl, Nat.le_of_ble_eq_true rfl⟩ 0 rfl rfl rfl rfl (Nat.le_of_ble_eq_true rfl) ⟨Nat.zero_le _, Nat.zero_le _⟩ [0, 1, 2, 3, 4, 5, 6, 7, 8, 9, 10] [] [0, 1, 2, 3, 4, 5, 6, 7, 8, 9, 10] rfl rfl rfl rfl dX12_readStatement_140 143 rfl ?_
                  refine v_if_eq X (tgt := 153) dX12_readStatement_143 rfl 146 rfl hf (fun hf => ?_) (fun hf => ?_)
                  · refine v_aload_n X dX12_readStatement_153 0 rfl rfl 154 rfl ?_
                    refine v_ldsw X hGU (i := 19) dX12_readStatement_154 js_RX12_349 157 rfl ?_
                    obtain ⟨o10, ho10, hf⟩ := bnd hf
                    refine v_callVi X (ci := 11) (T := TX12) (C := RX12) (As := [.ref (sk 19)]) (rest := []) (ws' := (wX12 ad c9 m_undoable m_undoStart m_thrown m_inputLength m_position m_start m_token m_value m_letters m_code m_place m_outputLength m_s m_parsed m_tried m_remembered m_slots m_kept m_away m_input m_halfway m_output)) (c_X12_is l hG D c9 sk sv hGU ad m_undoable m_undoStart m_thrown m_inputLength m_position m_start m_token m_value m_letters m_code m_place m_outputLength m_s m_parsed m_tried m_remembered m_slots m_kept m_away m_input m_halfway m_output 19 (by decide) ho10) 1 (gV wm_177 wm_178 wm_179 wm_37 wm_180) rfl rfl rfl ⟨rfl, pd_X12_is⟩ ⟨Nat.le_of_ble_eq_true rfl, Nat.le_of_ble_eq_true rfl⟩ 0 rfl rfl rfl rfl (Nat.le_of_ble_eq_true rfl) ⟨Nat.zero_le _, Nat.zero_le _⟩ [0, 1, 2, 3, 4, 5, 6, 7, 8, 9, 10] [] [0, 1, 2, 3, 4, 5, 6, 7, 8, 9, 10] rfl rfl rfl rfl dX12_readStatement_157 160 rfl ?_
                    refine v_if_eq X (tgt := 170) dX12_readStatement_160 rfl 163 rfl hf (fun hf => ?_) (fun hf => ?_)
                    · refine v_aload_n X dX12_readStatement_170 0 rfl rfl 171 rfl ?_
                      refine v_ldsw X hGU (i := 20) dX12_readStatement_171 js_RX12_354 174 rfl ?_
                      obtain ⟨o11, ho11, hf⟩ := bnd hf
                      refine v_callVi X (ci := 11) (T := TX12) (C := RX12) (As := [.ref (sk 20)]) (rest := []) (ws' := (wX12 ad c9 m_undoable m_undoStart m_thrown m_inputLength m_position m_start m_token m_value m_letters m_code m_place m_outputLength m_s m_parsed m_tried m_remembered m_slots m_kept m_away m_input m_halfway m_output)) (c_X12_is l hG D c9 sk sv hGU ad m_undoable m_undoStart m_thrown m_inputLength m_position m_start m_token m_value m_letters m_code m_place m_outputLength m_s m_parsed m_tried m_remembered m_slots m_kept m_away m_input m_halfway m_output 20 (by decide) ho11) 1 (gV wm_177 wm_178 wm_179 wm_37 wm_180) rfl rfl rfl ⟨rfl, pd_X12_is⟩ ⟨Nat.le_of_ble_eq_true rfl, Nat.le_of_ble_eq_true rfl⟩ 0 rfl rfl rfl rfl (Nat.le_of_ble_eq_true rfl) ⟨Nat.zero_le _, Nat.zero_le _⟩ [0, 1, 2, 3, 4, 5, 6, 7, 8, 9, 10] [] [0, 1, 2, 3, 4, 5, 6, 7, 8, 9, 10] rfl rfl rfl rfl dX12_readStatement_174 177 rfl ?_
                      refine v_if_eq X (tgt := 187) dX12_readStatement_177 rfl 180 rfl hf (fun hf => ?_) (fun hf => ?_)
                      · refine v_aload_n X dX12_readStatement_187 0 rfl rfl 188 rfl ?_
                        refine v_ldsw X hGU (i := 21) dX12_readStatement_188 js_RX12_359 191 rfl ?_
                        obtain ⟨o12, ho12, hf⟩ := bnd hf
                        refine v_callVi X (ci := 11) (T := TX12) (C := RX12) (As := [.ref (sk 21)]) (rest := []) (ws' := (wX12 ad c9 m_undoable m_undoStart m_thrown m_inputLength m_position m_start m_token m_value m_letters m_code m_place m_outputLength m_s m_parsed m_tried m_remembered m_slots m_kept m_away m_input m_halfway m_output)) (c_X12_is l hG D c9 sk sv hGU ad m_undoable m_undoStart m_thrown m_inputLength m_position m_start m_token m_value m_letters m_code m_place m_outputLength m_s m_parsed m_tried m_remembered m_slots m_kept m_away m_input m_halfway m_output 21 (by decide) ho12) 1 (gV wm_177 wm_178 wm_179 wm_37 wm_180) rfl rfl rfl ⟨rfl, pd_X12_is⟩ ⟨Nat.le_of_ble_eq_true rfl, Nat.le_of_ble_eq_true rfl⟩ 0 rfl rfl rfl rfl (Nat.le_of_ble_eq_true rfl) ⟨Nat.zero_le _, Nat.zero_le _⟩ [0, 1, 2, 3, 4, 5, 6, 7, 8, 9, 10] [] [0, 1, 2, 3, 4, 5, 6, 7, 8, 9, 10] rfl rfl rfl rfl dX12_readStatement_191 194 rfl ?_
                        refine v_if_eq X (tgt := 204) dX12_readStatement_194 rfl 197 rfl hf (fun hf => ?_) (fun hf => ?_)
                        · refine v_aload_n X dX12_readStatement_204 0 rfl rfl 205 rfl ?_
                          refine v_iconst X dX12_readStatement_205 ic_0 206 rfl ?_
                          refine v_iconst X dX12_readStatement_206 ic_1 207 rfl ?_
                          obtain ⟨o13, ho13, hf⟩ := bnd hf
                          refine v_callVi X (ci := 11) (T := TX12) (C := RX12) (As := [.int 0, .int 1]) (rest := []) (ws' := (wX12 ad c9 m_undoable m_undoStart m_thrown m_inputLength m_position m_start m_token m_value m_letters o13.2.1 o13.2.2 m_outputLength m_s m_parsed m_tried m_remembered m_slots m_kept m_away m_input m_halfway m_output)) (c_X12_check l hG D c9 ad m_undoable m_undoStart m_thrown m_inputLength m_position m_start m_token m_value m_letters m_code m_place m_outputLength m_s m_parsed m_tried m_remembered m_slots m_kept m_away m_input m_halfway m_output 0 1 ho13) 2 (gV wm_137 wm_138 wm_139 wm_37 wm_140) rfl rfl rfl ⟨rfl, pd_X12_check⟩ ⟨Nat.le_of_ble_eq_true rfl, Nat.le_of_ble_eq_true rfl⟩ 0 rfl rfl rfl rfl (Nat.le_of_ble_eq_true rfl) ⟨Nat.zero_le _, Nat.zero_le _⟩ [0, 1, 2, 3, 4, 5, 6, 7, 8, 9, 10] [] [0, 1, 2, 3, 4, 5, 6, 7, 8, 9, 10] rfl rfl rfl rfl dX12_readStatement_207 210 rfl ?_
                          refine v_pop X dX12_readStatement_210 rfl 211 rfl ?_
                          obtain rfl := Option.some.inj hf
                          exact v_vret X (Nat.zero_le _) (Nat.zero_le _) dX12_readStatement_211
                        · refine v_aload_n X dX12_readStatement_197 0 rfl rfl 198 rfl ?_
                          obtain ⟨o14, ho14, hf⟩ := bnd hf
                          refine v_callVv X (ci := 11) (T := TX12) (C := RX12) (As := []) (rest := []) (ws' := (wX12 ad c9 m_undoable m_undoStart m_thrown m_inputLength o14.1 o14.2.1 o14.2.2.1 o14.2.2.2.1 o14.2.2.2.2.1 o14.2.2.2.2.2.1 o14.2.2.2.2.2.2.1 m_outputLength m_s o14.2.2.2.2.2.2.2 m_tried m_remembered m_slots m_kept m_away m_input m_halfway m_output)) (c_X12_readPass l hG D c9 ad m_undoable m_undoStart m_thrown m_inputLength m_position m_start m_token m_value m_letters m_code m_place m_outputLength m_s m_parsed m_tried m_remembered m_slots m_kept m_away m_input m_halfway m_output ho14) 0 (gV wm_250 wm_251 wm_252 wm_37 wm_253) rfl rfl rfl ⟨rfl, pd_X12_readPass⟩ ⟨Nat.le_of_ble_eq_true rfl, Nat.le_of_ble_eq_true rfl⟩ 0 rfl rfl rfl rfl (Nat.le_of_ble_eq_true rfl) ⟨Nat.zero_le _, Nat.zero_le _⟩ [0, 1, 2, 3, 4, 5, 6, 7, 8, 9, 10] [] [0, 1, 2, 3, 4, 5, 6, 7, 8, 9, 10] rfl rfl rfl rfl dX12_readStatement_198 201 rfl ?_
                          refine v_goto X (tgt := 211) dX12_readStatement_201 rfl ?_
                          obtain rfl := Option.some.inj hf
                          exact v_vret X (Nat.zero_le _) (Nat.zero_le _) dX12_readStatement_211
                      · refine v_aload_n X dX12_readStatement_180 0 rfl rfl 181 rfl ?_
                        obtain ⟨o15, ho15, hf⟩ := bnd hf
                        refine v_callVv X (ci := 11) (T := TX12) (C := RX12) (As := []) (rest := []) (ws' := (wX12 ad c9 m_undoable m_undoStart m_thrown m_inputLength o15.1 o15.2.1 o15.2.2.1 o15.2.2.2.1 o15.2.2.2.2.1 o15.2.2.2.2.2.1 o15.2.2.2.2.2.2.1 m_outputLength m_s o15.2.2.2.2.2.2.2 m_tried m_remembered m_slots m_kept m_away m_input m_halfway m_output)) (c_X12_readSweep l hG D c9 ad m_undoable m_undoStart m_thrown m_inputLength m_position m_start m_token m_value m_letters m_code m_place m_outputLength m_s m_parsed m_tried m_remembered m_slots m_kept m_away m_input m_halfway m_output ho15) 0 (gV wm_254 wm_255 wm_256 wm_37 wm_257) rfl rfl rfl ⟨rfl, pd_X12_readSweep⟩ ⟨Nat.le_of_ble_eq_true rfl, Nat.le_of_ble_eq_true rfl⟩ 0 rfl rfl rfl rfl (Nat.le_of_ble_eq_true rfl) ⟨Nat.zero_le _, Nat.zero_le _⟩ [0, 1, 2, 3, 4, 5, 6, 7, 8, 9, 10] [] [0, 1, 2, 3, 4, 5, 6, 7, 8, 9, 10] rfl rfl rfl rfl dX12_readStatement_181 184 rfl ?_
                        refine v_goto X (tgt := 211) dX12_readStatement_184 rfl ?_
                        obtain rfl := Option.some.inj hf
                        exact v_vret X (Nat.zero_le _) (Nat.zero_le _) dX12_readStatement_211
                    · refine v_aload_n X dX12_readStatement_163 0 rfl rfl 164 rfl ?_
                      obtain ⟨o16, ho16, hf⟩ := bnd hf
                      refine v_callVv X (ci := 11) (T := TX12) (C := RX12) (As := []) (rest := []) (ws' := (wX12 ad c9 m_undoable m_undoStart m_thrown m_inputLength o16.1 o16.2.1 o16.2.2.1 o16.2.2.2.1 o16.2.2.2.2.1 o16.2.2.2.2.2.1 o16.2.2.2.2.2.2.1 m_outputLength m_s o16.2.2.2.2.2.2.2 m_tried m_remembered m_slots m_kept m_away m_input m_halfway m_output)) (c_X12_readDrop l hG D c9 ad m_undoable m_undoStart m_thrown m_inputLength m_position m_start m_token m_value m_letters m_code m_place m_outputLength m_s m_parsed m_tried m_remembered m_slots m_kept m_away m_input m_halfway m_output ho16) 0 (gV wm_258 wm_259 wm_260 wm_37 wm_261) rfl rfl rfl ⟨rfl, pd_X12_readDrop⟩ ⟨Nat.le_of_ble_eq_true rfl, Nat.le_of_ble_eq_true rfl⟩ 0 rfl rfl rfl rfl (Nat.le_of_ble_eq_true rfl) ⟨Nat.zero_le _, Nat.zero_le _⟩ [0, 1, 2, 3, 4, 5, 6, 7, 8, 9, 10] [] [0, 1, 2, 3, 4, 5, 6, 7, 8, 9, 10] rfl rfl rfl rfl dX12_readStatement_164 167 rfl ?_
                      refine v_goto X (tgt := 211) dX12_readStatement_167 rfl ?_
                      obtain rfl := Option.some.inj hf
                      exact v_vret X (Nat.zero_le _) (Nat.zero_le _) dX12_readStatement_211
                  · refine v_aload_n X dX12_readStatement_146 0 rfl rfl 147 rfl ?_
                    obtain ⟨o17, ho17, hf⟩ := bnd hf
                    refine v_callVv X (ci := 11) (T := TX12) (C := RX12) (As := []) (rest := []) (ws' := (wX12 ad c9 m_undoable m_undoStart m_thrown m_inputLength o17.1 o17.2.1 o17.2.2.1 o17.2.2.2.1 o17.2.2.2.2.1 o17.2.2.2.2.2.1 o17.2.2.2.2.2.2.1 m_outputLength m_s o17.2.2.2.2.2.2.2 m_tried m_remembered m_slots m_kept m_away m_input m_halfway m_output)) (c_X12_readCheese l hG D c9 ad m_undoable m_undoStart m_thrown m_inputLength m_position m_start m_token m_value m_letters m_code m_place m_outputLength m_s m_parsed m_tried m_remembered m_slots m_kept m_away m_input m_halfway m_output ho17) 0 (gV wm_262 wm_263 wm_264 wm_37 wm_265) rfl rfl rfl ⟨rfl, pd_X12_readCheese⟩ ⟨Nat.le_of_ble_eq_true rfl, Nat.le_of_ble_eq_true rfl⟩ 0 rfl rfl rfl rfl (Nat.le_of_ble_eq_true rfl) ⟨Nat.zero_le _, Nat.zero_le _⟩ [0, 1, 2, 3, 4, 5, 6, 7, 8, 9, 10] [] [0, 1, 2, 3, 4, 5, 6, 7, 8, 9, 10] rfl rfl rfl rfl dX12_readStatement_147 150 rfl ?_
                    refine v_goto X (tgt := 211) dX12_readStatement_150 rfl ?_
                    obtain rfl := Option.some.inj hf
                    exact v_vret X (Nat.zero_le _) (Nat.zero_le _) dX12_readStatement_211
                · refine v_aload_n X dX12_readStatement_129 0 rfl rfl 130 rfl ?_
                  obtain ⟨o18, ho18, hf⟩ := bnd hf
                  refine v_callVv X (ci := 11) (T := TX12) (C := RX12) (As := []) (rest := []) (ws' := (wX12 ad c9 m_undoable m_undoStart m_thrown m_inputLength o18.1 o18.2.1 o18.2.2.1 o18.2.2.2.1 o18.2.2.2.2.1 o18.2.2.2.2.2.1 o18.2.2.2.2.2.2.1 m_outputLength m_s o18.2.2.2.2.2.2.2 m_tried m_remembered m_slots m_kept m_away m_input m_halfway m_output)) (c_X12_readRenew l hG D c9 ad m_undoable m_undoStart m_thrown m_inputLength m_position m_start m_token m_value m_letters m_code m_place m_outputLength m_s m_parsed m_tried m_remembered m_slots m_kept m_away m_input m_halfway m_output ho18) 0 (gV wm_266 wm_267 wm_268 wm_37 wm_269) rfl rfl rfl ⟨rfl, pd_X12_readRenew⟩ ⟨Nat.le_of_ble_eq_true rfl, Nat.le_of_ble_eq_true rfl⟩ 0 rfl rfl rfl rfl (Nat.le_of_ble_eq_true rfl) ⟨Nat.zero_le _, Nat.zero_le _⟩ [0, 1, 2, 3, 4, 5, 6, 7, 8, 9, 10] [] [0, 1, 2, 3, 4, 5, 6, 7, 8, 9, 10] rfl rfl rfl rfl dX12_readStatement_130 133 rfl ?_
                  refine v_goto X (tgt := 211) dX12_readStatement_133 rfl ?_
                  obtain rfl := Option.some.inj hf
                  exact v_vret X (Nat.zero_le _) (Nat.zero_le _) dX12_readStatement_211
              · refine v_aload_n X dX12_readStatement_112 0 rfl rfl 113 rfl ?_
                obtain ⟨o19, ho19, hf⟩ := bnd hf
                refine v_callVv X (ci := 11) (T := TX12) (C := RX12) (As := []) (rest := []) (ws' := (wX12 ad c9 m_undoable m_undoStart m_thrown m_inputLength o19.1 o19.2.1 o19.2.2.1 o19.2.2.2.1 o19.2.2.2.2.1 o19.2.2.2.2.2.1 o19.2.2.2.2.2.2.1 m_outputLength m_s o19.2.2.2.2.2.2.2 m_tried m_remembered m_slots m_kept m_away m_input m_halfway m_output)) (c_X12_readRequest l hG D c9 ad m_undoable m_undoStart m_thrown m_inputLength m_position m_start m_token m_value m_letters m_code m_place m_outputLength m_s m_parsed m_tried m_remembered m_slots m_kept m_away m_input m_halfway m_output ho19) 0 (gV wm_270 wm_271 wm_272 wm_37 wm_273) rfl rfl rfl ⟨rfl, pd_X12_readRequest⟩ ⟨Nat.le_of_ble_eq_true rfl, Nat.le_of_ble_eq_true rfl⟩ 0 rfl rfl rfl rfl (Nat.le_of_ble_eq_true rfl) ⟨Nat.zero_le _, Nat.zero_le _⟩ [0, 1, 2, 3, 4, 5, 6, 7, 8, 9, 10] [] [0, 1, 2, 3, 4, 5, 6, 7, 8, 9, 10] rfl rfl rfl rfl dX12_readStatement_113 116 rfl ?_
                refine v_goto X (tgt := 211) dX12_readStatement_116 rfl ?_
                obtain rfl := Option.some.inj hf
                exact v_vret X (Nat.zero_le _) (Nat.zero_le _) dX12_readStatement_211
            · refine v_aload_n X dX12_readStatement_95 0 rfl rfl 96 rfl ?_
              obtain ⟨o20, ho20, hf⟩ := bnd hf
              refine v_callVv X (ci := 11) (T := TX12) (C := RX12) (As := []) (rest := []) (ws' := (wX12 ad c9 m_undoable m_undoStart m_thrown m_inputLength o20.1 o20.2.1 o20.2.2.1 o20.2.2.2.1 o20.2.2.2.2.1 o20.2.2.2.2.2.1 o20.2.2.2.2.2.2.1 m_outputLength m_s o20.2.2.2.2.2.2.2 m_tried m_remembered m_slots m_kept m_away m_input m_halfway m_output)) (c_X12_readRefer l hG D c9 ad m_undoable m_undoStart m_thrown m_inputLength m_position m_start m_token m_value m_letters m_code m_place m_outputLength m_s m_parsed m_tried m_remembered m_slots m_kept m_away m_input m_halfway m_output ho20) 0 (gV wm_274 wm_275 wm_276 wm_37 wm_277) rfl rfl rfl ⟨rfl, pd_X12_readRefer⟩ ⟨Nat.le_of_ble_eq_true rfl, Nat.le_of_ble_eq_true rfl⟩ 0 rfl rfl rfl rfl (Nat.le_of_ble_eq_true rfl) ⟨Nat.zero_le _, Nat.zero_le _⟩ [0, 1, 2, 3, 4, 5, 6, 7, 8, 9, 10] [] [0, 1, 2, 3, 4, 5, 6, 7, 8, 9, 10] rfl rfl rfl rfl dX12_readStatement_96 99 rfl ?_
              refine v_goto X (tgt := 211) dX12_readStatement_99 rfl ?_
              obtain rfl := Option.some.inj hf
              exact v_vret X (Nat.zero_le _) (Nat.zero_le _) dX12_readStatement_211
          · refine v_aload_n X dX12_readStatement_78 0 rfl rfl 79 rfl ?_
            obtain ⟨o21, ho21, hf⟩ := bnd hf
            refine v_callVv X (ci := 11) (T := TX12) (C := RX12) (As := []) (rest := []) (ws' := (wX12 ad c9 m_undoable m_undoStart m_thrown m_inputLength o21.1 o21.2.1 o21.2.2.1 o21.2.2.2.1 o21.2.2.2.2.1 o21.2.2.2.2.2.1 o21.2.2.2.2.2.2.1 m_outputLength m_s o21.2.2.2.2.2.2.2 m_tried m_remembered m_slots m_kept m_away m_input m_halfway m_output)) (c_X12_readLogin l hG D c9 sk sv hGU ad m_undoable m_undoStart m_thrown m_inputLength m_position m_start m_token m_value m_letters m_code m_place m_outputLength m_s m_parsed m_tried m_remembered m_slots m_kept m_away m_input m_halfway m_output ho21) 0 (gV wm_278 wm_279 wm_280 wm_37 wm_281) rfl rfl rfl ⟨rfl, pd_X12_readLogin⟩ ⟨Nat.le_of_ble_eq_true rfl, Nat.le_of_ble_eq_true rfl⟩ 0 rfl rfl rfl rfl (Nat.le_of_ble_eq_true rfl) ⟨Nat.zero_le _, Nat.zero_le _⟩ [0, 1, 2, 3, 4, 5, 6, 7, 8, 9, 10] [] [0, 1, 2, 3, 4, 5, 6, 7, 8, 9, 10] rfl rfl rfl rfl dX12_readStatement_79 82 rfl ?_
            refine v_goto X (tgt := 211) dX12_readStatement_82 rfl ?_
            obtain rfl := Option.some.inj hf
            exact v_vret X (Nat.zero_le _) (Nat.zero_le _) dX12_readStatement_211
        · refine v_aload_n X dX12_readStatement_61 0 rfl rfl 62 rfl ?_
          obtain ⟨o22, ho22, hf⟩ := bnd hf
          refine v_callVv X (ci := 11) (T := TX12) (C := RX12) (As := []) (rest := []) (ws' := (wX12 ad c9 m_undoable m_undoStart m_thrown m_inputLength o22.1 o22.2.1 o22.2.2.1 o22.2.2.2.1 o22.2.2.2.2.1 o22.2.2.2.2.2.1 o22.2.2.2.2.2.2.1 m_outputLength m_s o22.2.2.2.2.2.2.2 m_tried m_remembered m_slots m_kept m_away m_input m_halfway m_output)) (c_X12_readService l hG D c9 ad m_undoable m_undoStart m_thrown m_inputLength m_position m_start m_token m_value m_letters m_code m_place m_outputLength m_s m_parsed m_tried m_remembered m_slots m_kept m_away m_input m_halfway m_output ho22) 0 (gV wm_282 wm_283 wm_284 wm_37 wm_285) rfl rfl rfl ⟨rfl, pd_X12_readService⟩ ⟨Nat.le_of_ble_eq_true rfl, Nat.le_of_ble_eq_true rfl⟩ 0 rfl rfl rfl rfl (Nat.le_of_ble_eq_true rfl) ⟨Nat.zero_le _, Nat.zero_le _⟩ [0, 1, 2, 3, 4, 5, 6, 7, 8, 9, 10] [] [0, 1, 2, 3, 4, 5, 6, 7, 8, 9, 10] rfl rfl rfl rfl dX12_readStatement_62 65 rfl ?_
          refine v_goto X (tgt := 211) dX12_readStatement_65 rfl ?_
          obtain rfl := Option.some.inj hf
          exact v_vret X (Nat.zero_le _) (Nat.zero_le _) dX12_readStatement_211
      · refine v_aload_n X dX12_readStatement_44 0 rfl rfl 45 rfl ?_
        obtain ⟨o23, ho23, hf⟩ := bnd hf
        refine v_callVv X (ci := 11) (T := TX12) (C := RX12) (As := []) (rest := []) (ws' := (wX12 ad c9 m_undoable m_undoStart m_thrown m_inputLength o23.1 o23.2.1 o23.2.2.1 o23.2.2.2.1 o23.2.2.2.2.1 o23.2.2.2.2.2.1 o23.2.2.2.2.2.2.1 m_outputLength m_s o23.2.2.2.2.2.2.2 m_tried m_remembered m_slots m_kept m_away m_input m_halfway m_output)) (c_X12_readUser l hG D c9 sk sv hGU ad m_undoable m_undoStart m_thrown m_inputLength m_position m_start m_token m_value m_letters m_code m_place m_outputLength m_s m_parsed m_tried m_remembered m_slots m_kept m_away m_input m_halfway m_output ho23) 0 (gV wm_286 wm_287 wm_288 wm_37 wm_289) rfl rfl rfl ⟨rfl, pd_X12_readUser⟩ ⟨Nat.le_of_ble_eq_true rfl, Nat.le_of_ble_eq_true rfl⟩ 0 rfl rfl rfl rfl (Nat.le_of_ble_eq_true rfl) ⟨Nat.zero_le _, Nat.zero_le _⟩ [0, 1, 2, 3, 4, 5, 6, 7, 8, 9, 10] [] [0, 1, 2, 3, 4, 5, 6, 7, 8, 9, 10] rfl rfl rfl rfl dX12_readStatement_45 48 rfl ?_
        refine v_goto X (tgt := 211) dX12_readStatement_48 rfl ?_
        obtain rfl := Option.some.inj hf
        exact v_vret X (Nat.zero_le _) (Nat.zero_le _) dX12_readStatement_211
    · refine v_aload_n X dX12_readStatement_27 0 rfl rfl 28 rfl ?_
      obtain ⟨o24, ho24, hf⟩ := bnd hf
      refine v_callVv X (ci := 11) (T := TX12) (C := RX12) (As := []) (rest := []) (ws' := (wX12 ad c9 m_undoable m_undoStart m_thrown m_inputLength o24.1 o24.2.1 o24.2.2.1 o24.2.2.2.1 o24.2.2.2.2.1 o24.2.2.2.2.2.1 o24.2.2.2.2.2.2.1 m_outputLength m_s o24.2.2.2.2.2.2.2 m_tried m_remembered m_slots m_kept m_away m_input m_halfway m_output)) (c_X12_readTrust l hG D c9 ad m_undoable m_undoStart m_thrown m_inputLength m_position m_start m_token m_value m_letters m_code m_place m_outputLength m_s m_parsed m_tried m_remembered m_slots m_kept m_away m_input m_halfway m_output ho24) 0 (gV wm_290 wm_291 wm_292 wm_37 wm_293) rfl rfl rfl ⟨rfl, pd_X12_readTrust⟩ ⟨Nat.le_of_ble_eq_true rfl, Nat.le_of_ble_eq_true rfl⟩ 0 rfl rfl rfl rfl (Nat.le_of_ble_eq_true rfl) ⟨Nat.zero_le _, Nat.zero_le _⟩ [0, 1, 2, 3, 4, 5, 6, 7, 8, 9, 10] [] [0, 1, 2, 3, 4, 5, 6, 7, 8, 9, 10] rfl rfl rfl rfl dX12_readStatement_28 31 rfl ?_
      refine v_goto X (tgt := 211) dX12_readStatement_31 rfl ?_
      obtain rfl := Option.some.inj hf
      exact v_vret X (Nat.zero_le _) (Nat.zero_le _) dX12_readStatement_211
  · refine v_aload_n X dX12_readStatement_10 0 rfl rfl 11 rfl ?_
    obtain ⟨o25, ho25, hf⟩ := bnd hf
    refine v_callVv X (ci := 11) (T := TX12) (C := RX12) (As := []) (rest := []) (ws' := (wX12 ad c9 m_undoable m_undoStart m_thrown m_inputLength o25.1 o25.2.1 o25.2.2.1 o25.2.2.2.1 o25.2.2.2.2.1 o25.2.2.2.2.2.1 o25.2.2.2.2.2.2.1 m_outputLength m_s o25.2.2.2.2.2.2.2 m_tried m_remembered m_slots m_kept m_away m_input m_halfway m_output)) (c_X12_readRealm l hG D c9 sk sv hGU ad m_undoable m_undoStart m_thrown m_inputLength m_position m_start m_token m_value m_letters m_code m_place m_outputLength m_s m_parsed m_tried m_remembered m_slots m_kept m_away m_input m_halfway m_output ho25) 0 (gV wm_294 wm_295 wm_296 wm_37 wm_297) rfl rfl rfl ⟨rfl, pd_X12_readRealm⟩ ⟨Nat.le_of_ble_eq_true rfl, Nat.le_of_ble_eq_true rfl⟩ 0 rfl rfl rfl rfl (Nat.le_of_ble_eq_true rfl) ⟨Nat.zero_le _, Nat.zero_le _⟩ [0, 1, 2, 3, 4, 5, 6, 7, 8, 9, 10] [] [0, 1, 2, 3, 4, 5, 6, 7, 8, 9, 10] rfl rfl rfl rfl dX12_readStatement_11 14 rfl ?_
    refine v_goto X (tgt := 211) dX12_readStatement_14 rfl ?_
    obtain rfl := Option.some.inj hf
    exact v_vret X (Nat.zero_le _) (Nat.zero_le _) dX12_readStatement_211
theorem pd_X12_readStatement : yX12_readStatement.cls ≠ "java/lang/invoke/MethodHandle" ∧ yX12_readStatement.cls ≠ "java/lang/invoke/VarHandle" ∧ (parseMethodDescriptor yX12_readStatement.desc).map (fun d => d.parameters.length) = some 0 := by decide +kernel
def f_X12_read_L17  : Nat → (Nat → Int32) → Int32 → Option ((Nat → Int32))
  | 0, _, _ => none
  | n + 1, m_parsed, v1 =>
    if 463 ≤ v1 then (
      some (m_parsed))
    else (
      (wr m_parsed 463 v1 0).bind fun g1 =>
      f_X12_read_L17  n g1 (v1 + 1))
def f_X12_read_L89 (m_inputLength : Int32) (m_input : Nat → Int32) : Nat → Int32 → Int32 → Int32 → Int32 → Int32 → Int32 → Int32 → (Nat → Int32) → Option (Int32 × Int32 × Int32 × Int32 × Int32 × Int32 × Int32 × (Nat → Int32))
  | 0, _, _, _, _, _, _, _, _ => none
  | n + 1, m_position, m_start, m_token, m_value, m_letters, m_code, m_place, m_parsed =>
    if m_code = 0 then (
      if m_token = 0 then (
        some (m_position, m_start, m_token, m_value, m_letters, m_code, m_place, m_parsed))
      else (
        (f_X12_readStatement m_inputLength m_position m_start m_token m_value m_letters m_code m_place m_parsed m_input).bind fun o12 =>
        f_X12_read_L89 m_inputLength m_input n o12.1 o12.2.1 o12.2.2.1 o12.2.2.2.1 o12.2.2.2.2.1 o12.2.2.2.2.2.1 o12.2.2.2.2.2.2.1 o12.2.2.2.2.2.2.2))
    else (
      some (m_position, m_start, m_token, m_value, m_letters, m_code, m_place, m_parsed))
def f_X12_read (m_inputLength : Int32) (m_position : Int32) (m_start : Int32) (m_token : Int32) (m_value : Int32) (m_letters : Int32) (m_code : Int32) (m_place : Int32) (m_parsed : Nat → Int32) (m_input : Nat → Int32) : Option (Int32 × Int32 × Int32 × Int32 × Int32 × Int32 × Int32 × (Nat → Int32)) :=
  (f_X12_read_L17 5000 m_parsed 0).bind fun o2 =>
  (f_X12_advance m_inputLength 0 m_start m_token m_value m_letters m_input).bind fun o3 =>
  (f_X12_is o3.2.1 o3.2.2.1 o3.2.2.2.2 m_input 22).bind fun o4 =>
  (f_X12_check o3.2.1 0 (-1) o4 1).bind fun o5 =>
  (f_X12_next m_inputLength o3.1 o3.2.1 o3.2.2.1 o3.2.2.2.1 o3.2.2.2.2 o5.2.1 m_input).bind fun o6 =>
  (f_X12_number m_inputLength o6.1 o6.2.1 o6.2.2.1 o6.2.2.2.1 o6.2.2.2.2 o5.2.1 o5.2.2 m_input 0 9).bind fun o7 =>
  (wr o2 463 1 o7.1).bind fun g8 =>
  (f_X12_number m_inputLength o7.2.1 o7.2.2.1 o7.2.2.2.1 o7.2.2.2.2.1 o7.2.2.2.2.2.1 o7.2.2.2.2.2.2.1 o7.2.2.2.2.2.2.2 m_input 0 1023).bind fun o9 =>
  (wr g8 463 2 o9.1).bind fun g10 =>
  (f_X12_finish m_inputLength o9.2.1 o9.2.2.1 o9.2.2.2.1 o9.2.2.2.2.1 o9.2.2.2.2.2.1 o9.2.2.2.2.2.2.1 o9.2.2.2.2.2.2.2 m_input).bind fun o11 =>
  (f_X12_read_L89 m_inputLength m_input 5000 o11.1 o11.2.1 o11.2.2.1 o11.2.2.2.1 o11.2.2.2.2.1 o11.2.2.2.2.2.1 o11.2.2.2.2.2.2 g10).bind fun o13 =>
  some (o13.1, o13.2.1, o13.2.2.1, o13.2.2.2.1, o13.2.2.2.2.1, o13.2.2.2.2.2.1, o13.2.2.2.2.2.2.1, o13.2.2.2.2.2.2.2)
set_option maxRecDepth 100000 in
set_option maxHeartbeats 4000000 in
theorem l_X12_read_L17 (l : Launch) {G : (Nat → Prop) → State → Heap → Prop} (hG : vG G) (D : va_G) (c9 : Nat → ClassId) (sk sv : Nat → Nat) (hGU : ∀ (A : Nat → Prop) (U : State) (H : Heap), G A U H → vU sk sv A U H) (ad : Nat → Nat) (m_undoable : Int32) (m_undoStart : Int32) (m_thrown : Int32) (m_inputLength : Int32) (m_position : Int32) (m_start : Int32) (m_token : Int32) (m_value : Int32) (m_letters : Int32) (m_code : Int32) (m_place : Int32) (m_outputLength : Int32) (m_s : Nat → Int32) (m_tried : Nat → Int32) (m_remembered : Nat → Int32) (m_slots : Nat → Int32) (m_kept : Nat → Int32) (m_away : Nat → Int32) (m_input : Nat → Int32) (m_halfway : Nat → Int32) (m_output : Nat → Int32) {p : Program} {e : Env} {s : State} {m : MethodId} {args : Array Value} {below : List Frame} {meth : Method} {c : Code} {A : Nat → Prop} {F : va_W} (X : vX p s m args meth c cX12_read 2 none RX12 (wq yX12_read cX12_read 2 none) D (tyA c9) G A) {Q : State → Prop} (o : (Nat → Int32)) (K : vW p l e { frames := 9, cells := 0, slots := 0, locals := 240 } s m args below meth c 2 D A F 0 0 Q (wX12 ad c9 m_undoable m_undoStart m_thrown m_inputLength m_position m_start m_token m_value m_letters m_code m_place m_outputLength m_s o m_tried m_remembered m_slots m_kept m_away m_input m_halfway m_output) 37 [(0, .ref (ad 0))] []) :
    ∀ (n : Nat) (m_parsed : Nat → Int32) (v1 : Int32), f_X12_read_L17 n m_parsed v1 = some o → vW p l e { frames := 9, cells := 0, slots := 0, locals := 240 } s m args below meth c 2 D A F 0 0 Q (wX12 ad c9 m_undoable m_undoStart m_thrown m_inputLength m_position m_start m_token m_value m_letters m_code m_place m_outputLength m_s m_parsed m_tried m_remembered m_slots m_kept m_away m_input m_halfway m_output) 17 [(0, .ref (ad 0)), (1, .int v1)] [] := by
  intro n
  induction n with
  | zero =>
    intro m_parsed v1 hf
    rw [f_X12_read_L17] at hf
    cases hf
  | succ n ih =>
    intro m_parsed v1 hf
    rw [f_X12_read_L17] at hf
    refine v_iload_n X dX12_read_17 1 rfl rfl 18 rfl ?_
    refine v_sipush X dX12_read_18 sp_463 21 rfl ?_
    refine v_icmp_ge X (tgt := 37) dX12_read_21 rfl 24 rfl hf (fun hf => ?_) (fun hf => ?_)
    · obtain rfl := Option.some.inj hf
      refine v_sub (lv' := [(0, .ref (ad 0))]) [0] rfl ?_
      exact K
    · refine v_aload_n X dX12_read_24 0 rfl rfl 25 rfl ?_
      refine v_get X (C := RX12) (T := TX12) (N := 22) (ci := 11) (v := _) dX12_read_25 (lay_of laym_X12) 0 rfl rfl 1 (by decide) (mw wm_162) rfl rfl 28 rfl ?_
      refine v_iload_n X dX12_read_28 1 rfl rfl 29 rfl ?_
      refine v_iconst X dX12_read_29 ic_0 30 rfl ?_
      obtain ⟨g1, hg1, hf⟩ := bnd hf
      refine v_iast X (ws' := (wX12 ad c9 m_undoable m_undoStart m_thrown m_inputLength m_position m_start m_token m_value m_letters m_code m_place m_outputLength m_s g1 m_tried m_remembered m_slots m_kept m_away m_input m_halfway m_output)) dX12_read_30 2 0 rfl rfl hg1 rfl 31 rfl ?_
      refine v_iinc X (lv' := [(1, .int (v1 + 1)), (0, .ref (ad 0))]) dX12_read_31 1 rfl ic_1 (by decide) rfl 34 rfl ?_
      refine v_goto X (tgt := 17) dX12_read_34 rfl ?_
      refine v_sub (lv' := [(0, .ref (ad 0)), (1, .int (v1 + 1))]) [1, 0] rfl ?_
      exact ih g1 (v1 + 1) hf
set_option maxRecDepth 100000 in
set_option maxHeartbeats 4000000 in
theorem l_X12_read_L89 (l : Launch) {G : (Nat → Prop) → State → Heap → Prop} (hG : vG G) (D : va_G) (c9 : Nat → ClassId) (sk sv : Nat → Nat) (hGU : ∀ (A : Nat → Prop) (U : State) (H : Heap), G A U H → vU sk sv A U H) (ad : Nat → Nat) (m_undoable : Int32) (m_undoStart : Int32) (m_thrown : Int32) (m_inputLength : Int32) (m_outputLength : Int32) (m_s : Nat → Int32) (m_tried : Nat → Int32) (m_remembered : Nat → Int32) (m_slots : Nat → Int32) (m_kept : Nat → Int32) (m_away : Nat → Int32) (m_input : Nat → Int32) (m_halfway : Nat → Int32) (m_output : Nat → Int32) {p : Program} {e : Env} {s : State} {m : MethodId} {args : Array Value} {below : List Frame} {meth : Method} {c : Code} {A : Nat → Prop} {F : va_W} (X : vX p s m args meth c cX12_read 2 none RX12 (wq yX12_read cX12_read 2 none) D (tyA c9) G A) {Q : State → Prop} (o : Int32 × Int32 × Int32 × Int32 × Int32 × Int32 × Int32 × (Nat → Int32)) (K : vW p l e { frames := 9, cells := 0, slots := 0, locals := 240 } s m args below meth c 2 D A F 0 0 Q (wX12 ad c9 m_undoable m_undoStart m_thrown m_inputLength o.1 o.2.1 o.2.2.1 o.2.2.2.1 o.2.2.2.2.1 o.2.2.2.2.2.1 o.2.2.2.2.2.2.1 m_outputLength m_s o.2.2.2.2.2.2.2 m_tried m_remembered m_slots m_kept m_away m_input m_halfway m_output) 110 [] []) :
    ∀ (n : Nat) (m_position : Int32) (m_start : Int32) (m_token : Int32) (m_value : Int32) (m_letters : Int32) (m_code : Int32) (m_place : Int32) (m_parsed : Nat → Int32), f_X12_read_L89 m_inputLength m_input n m_position m_start m_token m_value m_letters m_code m_place m_parsed = some o → vW p l e { frames := 9, cells := 0, slots := 0, locals := 240 } s m args below meth c 2 D A F 0 0 Q (wX12 ad c9 m_undoable m_undoStart m_thrown m_inputLength m_position m_start m_token m_value m_letters m_code m_place m_outputLength m_s m_parsed m_tried m_remembered m_slots m_kept m_away m_input m_halfway m_output) 89 [(0, .ref (ad 0))] [] := by
  intro n
  induction n with
  | zero =>
    intro m_position m_start m_token m_value m_letters m_code m_place m_parsed hf
    rw [f_X12_read_L89] at hf
    cases hf
  | succ n ih =>
    intro m_position m_start m_token m_value m_letters m_code m_place m_parsed hf
    rw [f_X12_read_L89] at hf
    refine v_aload_n X dX12_read_89 0 rfl rfl 90 rfl ?_
    refine v_get X (C := RX12) (T := TX12) (N := 22) (ci := 11) (v := _) dX12_read_90 (lay_of laym_X12) 0 rfl rfl 17 (by decide) (mw wm_118) rfl rfl 93 rfl ?_
    refine v_if_ne X (tgt := 110) dX12_read_93 rfl 96 rfl hf (fun hf => ?_) (fun hf => ?_)
    · obtain rfl := Option.some.inj hf
      refine v_sub (lv' := []) [] rfl ?_
      exact K
    · refine v_aload_n X dX12_read_96 0 rfl rfl 97 rfl ?_
      refine v_get X (C := RX12) (T := TX12) (N := 22) (ci := 11) (v := _) dX12_read_97 (lay_of laym_X12) 0 rfl rfl 14 (by decide) (mw wm_131) rfl rfl 100 rfl ?_
      refine v_if_eq X (tgt := 110) dX12_read_100 rfl 103 rfl hf (fun hf => ?_) (fun hf => ?_)
      · obtain rfl := Option.some.inj hf
        refine v_sub (lv' := []) [] rfl ?_
        exact K
      · refine v_aload_n X dX12_read_103 0 rfl rfl 104 rfl ?_
        obtain ⟨o12, ho12, hf⟩ := bnd hf
        refine v_callVv X (ci := 11) (T := TX12) (C := RX12) (As := []) (rest := []) (ws' := (wX12 ad c9 m_undoable m_undoStart m_thrown m_inputLength o12.1 o12.2.1 o12.2.2.1 o12.2.2.2.1 o12.2.2.2.2.1 o12.2.2.2.2.2.1 o12.2.2.2.2.2.2.1 m_outputLength m_s o12.2.2.2.2.2.2.2 m_tried m_remembered m_slots m_kept m_away m_input m_halfway m_output)) (c_X12_readStatement l hG D c9 sk sv hGU ad m_undoable m_undoStart m_thrown m_inputLength m_position m_start m_token m_value m_letters m_code m_place m_outputLength m_s m_parsed m_tried m_remembered m_slots m_kept m_away m_input m_halfway m_output ho12) 0 (gV wm_298 wm_299 wm_300 wm_37 wm_301) rfl rfl rfl ⟨rfl, pd_X12_readStatement⟩ ⟨Nat.le_of_ble_eq_true rfl, Nat.le_of_ble_eq_true rfl⟩ 0 rfl rfl rfl rfl (Nat.le_of_ble_eq_true rfl) ⟨Nat.zero_le _, Nat.zero_le _⟩ [0, 1, 2, 3, 4, 5, 6, 7, 8, 9, 10] [] [0, 1, 2, 3, 4, 5, 6, 7, 8, 9, 10] rfl rfl rfl rfl dX12_read_104 107 rfl ?_
        refine v_goto X (tgt := 89) dX12_read_107 rfl ?_
        exact ih o12.1 o12.2.1 o12.2.2.1 o12.2.2.2.1 o12.2.2.2.2.1 o12.2.2.2.2.2.1 o12.2.2.2.2.2.2.1 o12.2.2.2.2.2.2.2 hf
set_option maxRecDepth 100000 in
set_option maxHeartbeats 4000000 in
theorem c_X12_read (l : Launch) {G : (Nat → Prop) → State → Heap → Prop} (hG : vG G) (D : va_G) (c9 : Nat → ClassId) (sk sv : Nat → Nat) (hGU : ∀ (A : Nat → Prop) (U : State) (H : Heap), G A U H → vU sk sv A U H) (ad : Nat → Nat) (m_undoable : Int32) (m_undoStart : Int32) (m_thrown : Int32) (m_inputLength : Int32) (m_position : Int32) (m_start : Int32) (m_token : Int32) (m_value : Int32) (m_letters : Int32) (m_code : Int32) (m_place : Int32) (m_outputLength : Int32) (m_s : Nat → Int32) (m_parsed : Nat → Int32) (m_tried : Nat → Int32) (m_remembered : Nat → Int32) (m_slots : Nat → Int32) (m_kept : Nat → Int32) (m_away : Nat → Int32) (m_input : Nat → Int32) (m_halfway : Nat → Int32) (m_output : Nat → Int32)  {o : Int32 × Int32 × Int32 × Int32 × Int32 × Int32 × Int32 × (Nat → Int32)} (hf : f_X12_read m_inputLength m_position m_start m_token m_value m_letters m_code m_place m_parsed m_input = some o) : mV l yX12_read (wq yX12_read cX12_read 2 none) { frames := 9, cells := 0, slots := 0, locals := 240 } G D (tyA c9) [.ref (ad 0)] (wX12 ad c9 m_undoable m_undoStart m_thrown m_inputLength m_position m_start m_token m_value m_letters m_code m_place m_outputLength m_s m_parsed m_tried m_remembered m_slots m_kept m_away m_input m_halfway m_output) [] 0 0 (wX12 ad c9 m_undoable m_undoStart m_thrown m_inputLength o.1 o.2.1 o.2.2.1 o.2.2.2.1 o.2.2.2.2.1 o.2.2.2.2.2.1 o.2.2.2.2.2.2.1 m_outputLength m_s o.2.2.2.2.2.2.2 m_tried m_remembered m_slots m_kept m_away m_input m_halfway m_output) := by
  refine mV_of hG (cc := cX12_read) (maxL := 2) (by decide) rfl (Nat.le_of_ble_eq_true rfl) ?_
  intro p e s m args below meth c A hnm X
  have X : vX p s m args meth c cX12_read 2 none RX12 (wq yX12_read cX12_read 2 none) D (tyA c9) G A := X
  refine v_eq (lv2 := [(0, .ref (ad 0))]) rfl rfl rfl rfl ?_
  rw [f_X12_read] at hf
  refine v_aload_n X dX12_read_0 0 rfl rfl 1 rfl ?_
  refine v_iconst X dX12_read_1 ic_0 2 rfl ?_
  refine v_put X (C := RX12) (T := TX12) (N := 22) (ci := 11) (ty := tyX12 17) (ws' := (wX12 ad c9 m_undoable m_undoStart m_thrown m_inputLength m_position m_start m_token m_value m_letters 0 m_place m_outputLength m_s m_parsed m_tried m_remembered m_slots m_kept m_away m_input m_halfway m_output)) dX12_read_2 (lay_of laym_X12) 0 rfl rfl 17 (by decide) tyX12 tyX12_ok nmX12 (mw wm_118) rfl rfl (tyX12_ok 17 (by decide)) rfl rfl (Nat.le_of_ble_eq_true rfl) rfl 5 rfl ?_
  refine v_aload_n X dX12_read_5 0 rfl rfl 6 rfl ?_
  refine v_iconst X dX12_read_6 ic_m1 7 rfl ?_
  refine v_put X (C := RX12) (T := TX12) (N := 22) (ci := 11) (ty := tyX12 18) (ws' := (wX12 ad c9 m_undoable m_undoStart m_thrown m_inputLength m_position m_start m_token m_value m_letters 0 (-1) m_outputLength m_s m_parsed m_tried m_remembered m_slots m_kept m_away m_input m_halfway m_output)) dX12_read_7 (lay_of laym_X12) 0 rfl rfl 18 (by decide) tyX12 tyX12_ok nmX12 (mw wm_119) rfl rfl (tyX12_ok 18 (by decide)) rfl rfl (Nat.le_of_ble_eq_true rfl) rfl 10 rfl ?_
  refine v_aload_n X dX12_read_10 0 rfl rfl 11 rfl ?_
  refine v_iconst X dX12_read_11 ic_0 12 rfl ?_
  refine v_put X (C := RX12) (T := TX12) (N := 22) (ci := 11) (ty := tyX12 12) (ws' := (wX12 ad c9 m_undoable m_undoStart m_thrown m_inputLength 0 m_start m_token m_value m_letters 0 (-1) m_outputLength m_s m_parsed m_tried m_remembered m_slots m_kept m_away m_input m_halfway m_output)) dX12_read_12 (lay_of laym_X12) 0 rfl rfl 12 (by decide) tyX12 tyX12_ok nmX12 (mw wm_120) rfl rfl (tyX12_ok 12 (by decide)) rfl rfl (Nat.le_of_ble_eq_true rfl) rfl 15 rfl ?_
  refine v_iconst X dX12_read_15 ic_0 16 rfl ?_
  refine v_istore_n X (lv' := [(1, .int 0), (0, .ref (ad 0))]) dX12_read_16 rfl (by decide) rfl 17 rfl ?_
  obtain ⟨o2, ho2, hf⟩ := bnd hf
  refine v_sub (lv' := [(0, .ref (ad 0)), (1, .int 0)]) [1, 0] rfl ?_
  refine l_X12_read_L17 l hG D c9 sk sv hGU ad m_undoable m_undoStart m_thrown m_inputLength 0 m_start m_token m_value m_letters 0 (-1) m_outputLength m_s m_tried m_remembered m_slots m_kept m_away m_input m_halfway m_output X o2 ?_ 5000 m_parsed 0 ho2
  refine v_aload_n X dX12_read_37 0 rfl rfl 38 rfl ?_
  obtain ⟨o3, ho3, hf⟩ := bnd hf
  refine v_callVv X (ci := 11) (T := TX12) (C := RX12) (As := []) (rest := []) (ws' := (wX12 ad c9 m_undoable m_undoStart m_thrown m_inputLength o3.1 o3.2.1 o3.2.2.1 o3.2.2.2.1 o3.2.2.2.2 0 (-1) m_outputLength m_s o2 m_tried m_remembered m_slots m_kept m_away m_input m_halfway m_output)) (c_X12_advance l hG D c9 ad m_undoable m_undoStart m_thrown m_inputLength 0 m_start m_token m_value m_letters 0 (-1) m_outputLength m_s o2 m_tried m_remembered m_slots m_kept m_away m_input m_halfway m_output ho3) 0 (gV wm_133 wm_134 wm_135 wm_37 wm_136) rfl rfl rfl ⟨rfl, pd_X12_advance⟩ ⟨Nat.le_of_ble_eq_true rfl, Nat.le_of_ble_eq_true rfl⟩ 0 rfl rfl rfl rfl (Nat.le_of_ble_eq_true rfl) ⟨Nat.zero_le _, Nat.zero_le _⟩ [0, 1, 2, 3, 4, 5, 6, 7, 8, 9, 10] [] [0, 1, 2, 3, 4, 5, 6, 7, 8, 9, 10] rfl rfl rfl rfl dX12_read_38 41 rfl ?_
  refine v_aload_n X dX12_read_41 0 rfl rfl 42 rfl ?_
  refine v_aload_n X dX12_read_42 0 rfl rfl 43 rfl ?_
  refine v_ldsw X hGU (i := 22) dX12_read_43 js_RX12_364 46 rfl ?_
  obtain ⟨o4, ho4, hf⟩ := bnd hf
  refine v_callVi X (ci := 11) (T := TX12) (C := RX12) (As := [.ref (sk 22)]) (rest := [.ref (ad 0)]) (ws' := (wX12 ad c9 m_undoable m_undoStart m_thrown m_inputLength o3.1 o3.2.1 o3.2.2.1 o3.2.2.2.1 o3.2.2.2.2 0 (-1) m_outputLength m_s o2 m_tried m_remembered m_slots m_kept m_away m_input m_halfway m_output)) (c_X12_is l hG D c9 sk sv hGU ad m_undoable m_undoStart m_thrown m_inputLength o3.1 o3.2.1 o3.2.2.1 o3.2.2.2.1 o3.2.2.2.2 0 (-1) m_outputLength m_s o2 m_tried m_remembered m_slots m_kept m_away m_input m_halfway m_output 22 (by decide) ho4) 1 (gV wm_177 wm_178 wm_179 wm_37 wm_180) rfl rfl rfl ⟨rfl, pd_X12_is⟩ ⟨Nat.le_of_ble_eq_true rfl, Nat.le_of_ble_eq_true rfl⟩ 0 rfl rfl rfl rfl (Nat.le_of_ble_eq_true rfl) ⟨Nat.zero_le _, Nat.zero_le _⟩ [0, 1, 2, 3, 4, 5, 6, 7, 8, 9, 10] [] [0, 1, 2, 3, 4, 5, 6, 7, 8, 9, 10] rfl rfl rfl rfl dX12_read_46 49 rfl ?_
  refine v_iconst X dX12_read_49 ic_1 50 rfl ?_
  obtain ⟨o5, ho5, hf⟩ := bnd hf
  refine v_callVi X (ci := 11) (T := TX12) (C := RX12) (As := [.int o4, .int 1]) (rest := []) (ws' := (wX12 ad c9 m_undoable m_undoStart m_thrown m_inputLength o3.1 o3.2.1 o3.2.2.1 o3.2.2.2.1 o3.2.2.2.2 o5.2.1 o5.2.2 m_outputLength m_s o2 m_tried m_remembered m_slots m_kept m_away m_input m_halfway m_output)) (c_X12_check l hG D c9 ad m_undoable m_undoStart m_thrown m_inputLength o3.1 o3.2.1 o3.2.2.1 o3.2.2.2.1 o3.2.2.2.2 0 (-1) m_outputLength m_s o2 m_tried m_remembered m_slots m_kept m_away m_input m_halfway m_output o4 1 ho5) 2 (gV wm_137 wm_138 wm_139 wm_37 wm_140) rfl rfl rfl ⟨rfl, pd_X12_check⟩ ⟨Nat.le_of_ble_eq_true rfl, Nat.le_of_ble_eq_true rfl⟩ 0 rfl rfl rfl rfl (Nat.le_of_ble_eq_true rfl) ⟨Nat.zero_le _, Nat.zero_le _⟩ [0, 1, 2, 3, 4, 5, 6, 7, 8, 9, 10] [] [0, 1, 2, 3, 4, 5, 6, 7, 8, 9, 10] rfl rfl rfl rfl dX12_read_50 53 rfl ?_
  refine v_pop X dX12_read_53 rfl 54 rfl ?_
  refine v_aload_n X dX12_read_54 0 rfl rfl 55 rfl ?_
  obtain ⟨o6, ho6, hf⟩ := bnd hf
  refine v_callVv X (ci := 11) (T := TX12) (C := RX12) (As := []) (rest := []) (ws' := (wX12 ad c9 m_undoable m_undoStart m_thrown m_inputLength o6.1 o6.2.1 o6.2.2.1 o6.2.2.2.1 o6.2.2.2.2 o5.2.1 o5.2.2 m_outputLength m_s o2 m_tried m_remembered m_slots m_kept m_away m_input m_halfway m_output)) (c_X12_next l hG D c9 ad m_undoable m_undoStart m_thrown m_inputLength o3.1 o3.2.1 o3.2.2.1 o3.2.2.2.1 o3.2.2.2.2 o5.2.1 o5.2.2 m_outputLength m_s o2 m_tried m_remembered m_slots m_kept m_away m_input m_halfway m_output ho6) 0 (gV wm_141 wm_142 wm_143 wm_37 wm_144) rfl rfl rfl ⟨rfl, pd_X12_next⟩ ⟨Nat.le_of_ble_eq_true rfl, Nat.le_of_ble_eq_true rfl⟩ 0 rfl rfl rfl rfl (Nat.le_of_ble_eq_true rfl) ⟨Nat.zero_le _, Nat.zero_le _⟩ [0, 1, 2, 3, 4, 5, 6, 7, 8, 9, 10] [] [0, 1, 2, 3, 4, 5, 6, 7, 8, 9, 10] rfl rfl rfl rfl dX12_read_55 58 rfl ?_
  refine v_aload_n X dX12_read_58 0 rfl rfl 59 rfl ?_
  refine v_get X (C := RX12) (T := TX12) (N := 22) (ci := 11) (v := _) dX12_read_59 (lay_of laym_X12) 0 rfl rfl 1 (by decide) (mw wm_162) rfl rfl 62 rfl ?_
  refine v_iconst X dX12_read_62 ic_1 63 rfl ?_
  refine v_aload_n X dX12_read_63 0 rfl rfl 64 rfl ?_
  refine v_iconst X dX12_read_64 ic_0 65 rfl ?_
  refine v_bipush X dX12_read_65 bp_9 67 rfl ?_
  obtain ⟨o7, ho7, hf⟩ := bnd hf
  refine v_callVi X (ci := 11) (T := TX12) (C := RX12) (As := [.int 0, .int 9]) (rest := [.int 1, .ref (ad 2)]) (ws' := (wX12 ad c9 m_undoable m_undoStart m_thrown m_inputLength o7.2.1 o7.2.2.1 o7.2.2.2.1 o7.2.2.2.2.1 o7.2.2.2.2.2.1 o7.2.2.2.2.2.2.1 o7.2.2.2.2.2.2.2 m_outputLength m_s o2 m_tried m_remembered m_slots m_kept m_away m_input m_halfway m_output)) (c_X12_number l hG D c9 ad m_undoable m_undoStart m_thrown m_inputLength o6.1 o6.2.1 o6.2.2.1 o6.2.2.2.1 o6.2.2.2.2 o5.2.1 o5.2.2 m_outputLength m_s o2 m_tried m_remembered m_slots m_kept m_away m_input m_halfway m_output 0 9 ho7) 2 (gV wm_181 wm_182 wm_183 wm_37 wm_184) rfl rfl rfl ⟨rfl, pd_X12_number⟩ ⟨Nat.le_of_ble_eq_true rfl, Nat.le_of_ble_eq_true rfl⟩ 0 rfl rfl rfl rfl (Nat.le_of_ble_eq_true rfl) ⟨Nat.zero_le _, Nat.zero_le _⟩ [0, 1, 2, 3, 4, 5, 6, 7, 8, 9, 10] [] [0, 1, 2, 3, 4, 5, 6, 7, 8, 9, 10] rfl rfl rfl rfl dX12_read_67 70 rfl ?_
  obtain ⟨g8, hg8, hf⟩ := bnd hf
  refine v_iast X (ws' := (wX12 ad c9 m_undoable m_undoStart m_thrown m_inputLength o7.2.1 o7.2.2.1 o7.2.2.2.1 o7.2.2.2.2.1 o7.2.2.2.2.2.1 o7.2.2.2.2.2.2.1 o7.2.2.2.2.2.2.2 m_outputLength m_s g8 m_tried m_remembered m_slots m_kept m_away m_input m_halfway m_output)) dX12_read_70 2 0 rfl rfl hg8 rfl 71 rfl ?_
  refine v_aload_n X dX12_read_71 0 rfl rfl 72 rfl ?_
  refine v_get X (C := RX12) (T := TX12) (N := 22) (ci := 11) (v := _) dX12_read_72 (lay_of laym_X12) 0 rfl rfl 1 (by decide) (mw wm_162) rfl rfl 75 rfl ?_
  refine v_iconst X dX12_read_75 ic_2 76 rfl ?_
  refine v_aload_n X dX12_read_76 0 rfl rfl 77 rfl ?_
  refine v_iconst X dX12_read_77 ic_0 78 rfl ?_
  refine v_sipush X dX12_read_78 sp_1023 81 rfl ?_
  obtain ⟨o9, ho9, hf⟩ := bnd hf
  refine v_callVi X (ci := 11) (T := TX12) (C := RX12) (As := [.int 0, .int 1023]) (rest := [.int 2, .ref (ad 2)]) (ws' := (wX12 ad c9 m_undoable m_undoStart m_thrown m_inputLength o9.2.1 o9.2.2.1 o9.2.2.2.1 o9.2.2.2.2.1 o9.2.2.2.2.2.1 o9.2.2.2.2.2.2.1 o9.2.2.2.2.2.2.2 m_outputLength m_s g8 m_tried m_remembered m_slots m_kept m_away m_input m_halfway m_output)) (c_X12_number l hG D c9 ad m_undoable m_undoStart m_thrown m_inputLength o7.2.1 o7.2.2.1 o7.2.2.2.1 o7.2.2.2.2.1 o7.2.2.2.2.2.1 o7.2.2.2.2.2.2.1 o7.2.2.2.2.2.2.2 m_outputLength m_s g8 m_tried m_remembered m_slots m_kept m_away m_input m_halfway m_output 0 1023 ho9) 2 (gV wm_181 wm_182 wm_183 wm_37 wm_184) rfl rfl rfl ⟨rfl, pd_X12_number⟩ ⟨Nat.le_of_ble_eq_true rfl, Nat.le_of_ble_eq_true rfl⟩ 0 rfl rfl rfl rfl (Nat.le_of_ble_eq_true rfl) ⟨Nat.zero_le _, Nat.zero_le _⟩ [0, 1, 2, 3, 4, 5, 6, 7, 8, 9, 10] [] [0, 1, 2, 3, 4, 5, 6, 7, 8, 9, 10] rfl rfl rfl rfl dX12_read_81 84 rfl ?_
  obtain ⟨g10, hg10, hf⟩ := bnd hf
  refine v_iast X (ws' := (wX12 ad c9 m_undoable m_undoStart m_thrown m_inputLength o9.2.1 o9.2.2.1 o9.2.2.2.1 o9.2.2.2.2.1 o9.2.2.2.2.2.1 o9.2.2.2.2.2.2.1 o9.2.2.2.2.2.2.2 m_outputLength m_s g10 m_tried m_remembered m_slots m_kept m_away m_input m_halfway m_output)) dX12_read_84 2 0 rfl rfl hg10 rfl 85 rfl ?_
  refine v_aload_n X dX12_read_85 0 rfl rfl 86 rfl ?_
  obtain ⟨o11, ho11, hf⟩ := bnd hf
  refine v_callVv X (ci := 11) (T := TX12) (C := RX12) (As := []) (rest := []) (ws' := (wX12 ad c9 m_undoable m_undoStart m_thrown m_inputLength o11.1 o11.2.1 o11.2.2.1 o11.2.2.2.1 o11.2.2.2.2.1 o11.2.2.2.2.2.1 o11.2.2.2.2.2.2 m_outputLength m_s g10 m_tried m_remembered m_slots m_kept m_away m_input m_halfway m_output)) (c_X12_finish l hG D c9 ad m_undoable m_undoStart m_thrown m_inputLength o9.2.1 o9.2.2.1 o9.2.2.2.1 o9.2.2.2.2.1 o9.2.2.2.2.2.1 o9.2.2.2.2.2.2.1 o9.2.2.2.2.2.2.2 m_outputLength m_s g10 m_tried m_remembered m_slots m_kept m_away m_input m_halfway m_output ho11) 0 (gV wm_193 wm_194 wm_195 wm_37 wm_196) rfl rfl rfl ⟨rfl, pd_X12_finish⟩ ⟨Nat.le_of_ble_eq_true rfl, Nat.le_of_ble_eq_true rfl⟩ 0 rfl rfl rfl rfl (Nat.le_of_ble_eq_true rfl) ⟨Nat.zero_le _, Nat.zero_le _⟩ [0, 1, 2, 3, 4, 5, 6, 7, 8, 9, 10] [] [0, 1, 2, 3, 4, 5, 6, 7, 8, 9, 10] rfl rfl rfl rfl dX12_read_86 89 rfl ?_
  obtain ⟨o13, ho13, hf⟩ := bnd hf
  refine l_X12_read_L89 l hG D c9 sk sv hGU ad m_undoable m_undoStart m_thrown m_inputLength m_outputLength m_s m_tried m_remembered m_slots m_kept m_away m_input m_halfway m_output X o13 ?_ 5000 o11.1 o11.2.1 o11.2.2.1 o11.2.2.2.1 o11.2.2.2.2.1 o11.2.2.2.2.2.1 o11.2.2.2.2.2.2 g10 ho13
  obtain rfl := Option.some.inj hf
  exact v_vret X (Nat.zero_le _) (Nat.zero_le _) dX12_read_110
theorem pd_X12_read : yX12_read.cls ≠ "java/lang/invoke/MethodHandle" ∧ yX12_read.cls ≠ "java/lang/invoke/VarHandle" ∧ (parseMethodDescriptor yX12_read.desc).map (fun d => d.parameters.length) = some 0 := by decide +kernel
