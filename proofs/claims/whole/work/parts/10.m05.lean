def f_X12_readTrust (m_inputLength : Int32) (m_position : Int32) (m_start : Int32) (m_token : Int32) (m_value : Int32) (m_letters : Int32) (m_code : Int32) (m_place : Int32) (m_parsed : Nat → Int32) (m_input : Nat → Int32) : Option (Int32 × Int32 × Int32 × Int32 × Int32 × Int32 × Int32 × (Nat → Int32)) :=
  (f_X12_next m_inputLength m_position m_start m_token m_value m_letters m_code m_input).bind fun o1 =>
  (f_X12_realmHere m_inputLength o1.1 o1.2.1 o1.2.2.1 o1.2.2.2.1 o1.2.2.2.2 m_code m_place m_parsed m_input).bind fun o2 =>
  (f_X12_nameHere o2.2.2.1 o2.2.2.2.1 o2.2.2.2.2.2.1 o2.2.2.2.2.2.2.1 o2.2.2.2.2.2.2.2 m_input).bind fun o3 =>
  (f_X12_realmNamed m_parsed o3.1).bind fun o4 =>
  Option.bind (if o3.2.1 = 0 then (
    if o4 = o2.1 then (
      some (0))
    else (
      some (1)))
  else (
    some (1)) : Option (Int32)) fun j5 =>
  (f_X12_check o2.2.2.1 o3.2.1 o3.2.2 j5 3).bind fun o6 =>
  (f_X12_exists m_inputLength o2.2.1 o2.2.2.1 o2.2.2.2.1 o2.2.2.2.2.1 o2.2.2.2.2.2.1 o6.2.1 o6.2.2 m_input o4).bind fun o7 =>
  Option.bind (if o7.2.2.2.2.2.2.1 = 0 then (
    (f_X12_trusted m_parsed o2.1 o7.1).bind fun o9 =>
    if o9 = 0 then (
      some (0))
    else (
      some (1)))
  else (
    some (0)) : Option (Int32)) fun j8 =>
  (f_X12_mayDo o7.2.2.1 o7.2.2.2.1 o7.2.2.2.2.2.2.1 o7.2.2.2.2.2.2.2 m_input j8).bind fun o10 =>
  if o10.1 = 0 then (
    (f_X12_next m_inputLength o7.2.1 o7.2.2.1 o7.2.2.2.1 o7.2.2.2.2.1 o7.2.2.2.2.2.1 o10.2.1 m_input).bind fun o11 =>
    some (o11.1, o11.2.1, o11.2.2.1, o11.2.2.2.1, o11.2.2.2.2, o10.2.1, o10.2.2, m_parsed))
  else (
    (wr m_parsed 463 ((30 + (5 * o2.1)) + o7.1) 1).bind fun g12 =>
    (f_X12_next m_inputLength o7.2.1 o7.2.2.1 o7.2.2.2.1 o7.2.2.2.2.1 o7.2.2.2.2.2.1 o10.2.1 m_input).bind fun o13 =>
    some (o13.1, o13.2.1, o13.2.2.1, o13.2.2.2.1, o13.2.2.2.2, o10.2.1, o10.2.2, g12))
set_option maxRecDepth 100000 in
set_option maxHeartbeats 4000000 in
theorem c_X12_readTrust (l : Launch) {G : (Nat → Prop) → State → Heap → Prop} (hG : vG G) (D : va_G) (c9 : Nat → ClassId) (ad : Nat → Nat) (m_undoable : Int32) (m_undoStart : Int32) (m_thrown : Int32) (m_inputLength : Int32) (m_position : Int32) (m_start : Int32) (m_token : Int32) (m_value : Int32) (m_letters : Int32) (m_code : Int32) (m_place : Int32) (m_outputLength : Int32) (m_s : Nat → Int32) (m_parsed : Nat → Int32) (m_tried : Nat → Int32) (m_remembered : Nat → Int32) (m_slots : Nat → Int32) (m_kept : Nat → Int32) (m_away : Nat → Int32) (m_input : Nat → Int32) (m_halfway : Nat → Int32) (m_output : Nat → Int32)  {o : Int32 × Int32 × Int32 × Int32 × Int32 × Int32 × Int32 × (Nat → Int32)} (hf : f_X12_readTrust m_inputLength m_position m_start m_token m_value m_letters m_code m_place m_parsed m_input = some o) : mV l yX12_readTrust (wq yX12_readTrust cX12_readTrust 3 none) { frames := 6, cells := 0, slots := 0, locals := 124 } G D (tyA c9) [.ref (ad 0)] (wX12 ad c9 m_undoable m_undoStart m_thrown m_inputLength m_position m_start m_token m_value m_letters m_code m_place m_outputLength m_s m_parsed m_tried m_remembered m_slots m_kept m_away m_input m_halfway m_output) [] 0 0 (wX12 ad c9 m_undoable m_undoStart m_thrown m_inputLength o.1 o.2.1 o.2.2.1 o.2.2.2.1 o.2.2.2.2.1 o.2.2.2.2.2.1 o.2.2.2.2.2.2.1 m_outputLength m_s o.2.2.2.2.2.2.2 m_tried m_remembered m_slots m_kept m_away m_input m_halfway m_output) := by
  refine mV_of hG (cc := cX12_readTrust) (maxL := 3) (by decide) rfl (Nat.le_of_ble_eq_true rfl) ?_
  intro p e s m args below meth c A hnm X
  have X : vX p s m args meth c cX12_readTrust 3 none RX12 (wq yX12_readTrust cX12_readTrust 3 none) D (tyA c9) G A := X
  refine v_eq (lv2 := [(0, .ref (ad 0))]) rfl rfl rfl rfl ?_
  rw [f_X12_readTrust] at hf
  refine v_aload_n X dX12_readTrust_0 0 rfl rfl 1 rfl ?_
  obtain ⟨o1, ho1, hf⟩ := bnd hf
  refine v_callVv X (ci := 11) (T := TX12) (C := RX12) (As := []) (rest := []) (ws' := (wX12 ad c9 m_undoable m_undoStart m_thrown m_inputLength o1.1 o1.2.1 o1.2.2.1 o1.2.2.2.1 o1.2.2.2.2 m_code m_place m_outputLength m_s m_parsed m_tried m_remembered m_slots m_kept m_away m_input m_halfway m_output)) (c_X12_next l hG D c9 ad m_undoable m_undoStart m_thrown m_inputLength m_position m_start m_token m_value m_letters m_code m_place m_outputLength m_s m_parsed m_tried m_remembered m_slots m_kept m_away m_input m_halfway m_output ho1) 0 (gV wm_141 wm_142 wm_143 wm_37 wm_144) rfl rfl rfl ⟨rfl, pd_X12_next⟩ ⟨Nat.le_of_ble_eq_true rfl, Nat.le_of_ble_eq_true rfl⟩ 0 rfl rfl rfl rfl (Nat.le_of_ble_eq_true rfl) ⟨Nat.zero_le _, Nat.zero_le _⟩ [0, 1, 2, 3, 4, 5, 6, 7, 8, 9, 10] [] [0, 1, 2, 3, 4, 5, 6, 7, 8, 9, 10] rfl rfl rfl rfl dX12_readTrust_1 4 rfl ?_
  refine v_aload_n X dX12_readTrust_4 0 rfl rfl 5 rfl ?_
  obtain ⟨o2, ho2, hf⟩ := bnd hf
  refine v_callVi X (ci := 11) (T := TX12) (C := RX12) (As := []) (rest := []) (ws' := (wX12 ad c9 m_undoable m_undoStart m_thrown m_inputLength o2.2.1 o2.2.2.1 o2.2.2.2.1 o2.2.2.2.2.1 o2.2.2.2.2.2.1 o2.2.2.2.2.2.2.1 o2.2.2.2.2.2.2.2 m_outputLength m_s m_parsed m_tried m_remembered m_slots m_kept m_away m_input m_halfway m_output)) (c_X12_realmHere l hG D c9 ad m_undoable m_undoStart m_thrown m_inputLength o1.1 o1.2.1 o1.2.2.1 o1.2.2.2.1 o1.2.2.2.2 m_code m_place m_outputLength m_s m_parsed m_tried m_remembered m_slots m_kept m_away m_input m_halfway m_output ho2) 0 (gV wm_197 wm_198 wm_199 wm_37 wm_200) rfl rfl rfl ⟨rfl, pd_X12_realmHere⟩ ⟨Nat.le_of_ble_eq_true rfl, Nat.le_of_ble_eq_true rfl⟩ 0 rfl rfl rfl rfl (Nat.le_of_ble_eq_true rfl) ⟨Nat.zero_le _, Nat.zero_le _⟩ [0, 1, 2, 3, 4, 5, 6, 7, 8, 9, 10] [] [0, 1, 2, 3, 4, 5, 6, 7, 8, 9, 10] rfl rfl rfl rfl dX12_readTrust_5 8 rfl ?_
  refine v_istore_n X (lv' := [(1, .int o2.1), (0, .ref (ad 0))]) dX12_readTrust_8 rfl (by decide) rfl 9 rfl ?_
  refine v_aload_n X dX12_readTrust_9 1 rfl rfl 10 rfl ?_
  refine v_get X (C := RX12) (T := TX12) (N := 22) (ci := 11) (v := _) dX12_readTrust_10 (lay_of laym_X12) 0 rfl rfl 1 (by decide) (mw wm_162) rfl rfl 13 rfl ?_
  refine v_aload_n X dX12_readTrust_13 1 rfl rfl 14 rfl ?_
  obtain ⟨o3, ho3, hf⟩ := bnd hf
  refine v_callVi X (ci := 11) (T := TX12) (C := RX12) (As := []) (rest := [.ref (ad 2)]) (ws' := (wX12 ad c9 m_undoable m_undoStart m_thrown m_inputLength o2.2.1 o2.2.2.1 o2.2.2.2.1 o2.2.2.2.2.1 o2.2.2.2.2.2.1 o3.2.1 o3.2.2 m_outputLength m_s m_parsed m_tried m_remembered m_slots m_kept m_away m_input m_halfway m_output)) (c_X12_nameHere l hG D c9 ad m_undoable m_undoStart m_thrown m_inputLength o2.2.1 o2.2.2.1 o2.2.2.2.1 o2.2.2.2.2.1 o2.2.2.2.2.2.1 o2.2.2.2.2.2.2.1 o2.2.2.2.2.2.2.2 m_outputLength m_s m_parsed m_tried m_remembered m_slots m_kept m_away m_input m_halfway m_output ho3) 0 (gV wm_166 wm_167 wm_168 wm_37 wm_169) rfl rfl rfl ⟨rfl, pd_X12_nameHere⟩ ⟨Nat.le_of_ble_eq_true rfl, Nat.le_of_ble_eq_true rfl⟩ 0 rfl rfl rfl rfl (Nat.le_of_ble_eq_true rfl) ⟨Nat.zero_le _, Nat.zero_le _⟩ [0, 1, 2, 3, 4, 5, 6, 7, 8, 9, 10] [] [0, 1, 2, 3, 4, 5, 6, 7, 8, 9, 10] rfl rfl rfl rfl dX12_readTrust_14 17 rfl ?_
  obtain ⟨o4, ho4, hf⟩ := bnd hf
  refine v_callSi X (As := [.ref (ad 2), .int o3.1]) (rest := []) (ws' := (wX12 ad c9 m_undoable m_undoStart m_thrown m_inputLength o2.2.1 o2.2.2.1 o2.2.2.2.1 o2.2.2.2.2.1 o2.2.2.2.2.2.1 o3.2.1 o3.2.2 m_outputLength m_s m_parsed m_tried m_remembered m_slots m_kept m_away m_input m_halfway m_output)) (c_X12_realmNamed l hG D c9 (ad 2) m_parsed o3.1 ho4) 2 (gS wm_149 wm_150 wm_37 wm_151) rfl rfl rfl pd_X12_realmNamed ⟨Nat.le_of_ble_eq_true rfl, Nat.le_of_ble_eq_true rfl⟩ rfl rfl (Nat.le_of_ble_eq_true rfl) ⟨Nat.zero_le _, Nat.zero_le _⟩ [2] [0, 1, 3, 4, 5, 6, 7, 8, 9, 10] [0, 1, 10, 2, 3, 4, 5, 6, 7, 8, 9] rfl rfl rfl rfl dX12_readTrust_17 20 rfl ?_
  refine v_istore_n X (lv' := [(2, .int o4), (1, .int o2.1), (0, .ref (ad 0))]) dX12_readTrust_20 rfl (by decide) rfl 21 rfl ?_
  refine v_aload_n X dX12_readTrust_21 2 rfl rfl 22 rfl ?_
  refine v_aload_n X dX12_readTrust_22 2 rfl rfl 23 rfl ?_
  refine v_get X (C := RX12) (T := TX12) (N := 22) (ci := 11) (v := _) dX12_readTrust_23 (lay_of laym_X12) 0 rfl rfl 17 (by decide) (mw wm_118) rfl rfl 26 rfl ?_
  obtain ⟨j5, hj5, hf⟩ := bnd hf
  have Jj5 : vW p l e { frames := 6, cells := 0, slots := 0, locals := 124 } s m args below meth c 3 D A [] 0 0 (MQ below (eV D (tyA c9) A ((wX12 ad c9 m_undoable m_undoStart m_thrown m_inputLength o.1 o.2.1 o.2.2.1 o.2.2.2.1 o.2.2.2.2.1 o.2.2.2.2.2.1 o.2.2.2.2.2.2.1 m_outputLength m_s o.2.2.2.2.2.2.2 m_tried m_remembered m_slots m_kept m_away m_input m_halfway m_output) ++ [])) args s 0 0 A) (wX12 ad c9 m_undoable m_undoStart m_thrown m_inputLength o2.2.1 o2.2.2.1 o2.2.2.2.1 o2.2.2.2.2.1 o2.2.2.2.2.2.1 o3.2.1 o3.2.2 m_outputLength m_s m_parsed m_tried m_remembered m_slots m_kept m_away m_input m_halfway m_output) 39 [(0, .ref (ad 0)), (1, .int o2.1), (2, .int o4)] [.int j5, .ref (ad 0)] := by
    refine v_iconst X dX12_readTrust_39 ic_3 40 rfl ?_
    obtain ⟨o6, ho6, hf⟩ := bnd hf
    refine v_callVi X (ci := 11) (T := TX12) (C := RX12) (As := [.int j5, .int 3]) (rest := []) (ws' := (wX12 ad c9 m_undoable m_undoStart m_thrown m_inputLength o2.2.1 o2.2.2.1 o2.2.2.2.1 o2.2.2.2.2.1 o2.2.2.2.2.2.1 o6.2.1 o6.2.2 m_outputLength m_s m_parsed m_tried m_remembered m_slots m_kept m_away m_input m_halfway m_output)) (c_X12_check l hG D c9 ad m_undoable m_undoStart m_thrown m_inputLength o2.2.1 o2.2.2.1 o2.2.2.2.1 o2.2.2.2.2.1 o2.2.2.2.2.2.1 o3.2.1 o3.2.2 m_outputLength m_s m_parsed m_tried m_remembered m_slots m_kept m_away m_input m_halfway m_output j5 3 ho6) 2 (gV wm_137 wm_138 wm_139 wm_37 wm_140) rfl rfl rfl ⟨rfl, pd_X12_check⟩ ⟨Nat.le_of_ble_eq_true rfl, Nat.le_of_ble_eq_true rfl⟩ 0 rfl rfl rfl rfl (Nat.le_of_ble_eq_true rfl) ⟨Nat.zero_le _, Nat.zero_le _⟩ [0, 1, 2, 3, 4, 5, 6, 7, 8, 9, 10] [] [0, 1, 2, 3, 4, 5, 6, 7, 8, 9, 10] rfl rfl rfl rfl dX12_readTrust_40 43 rfl ?_
    refine v_pop X dX12_readTrust_43 rfl 44 rfl ?_
    refine v_aload_n X dX12_readTrust_44 0 rfl rfl 45 rfl ?_
    refine v_iload_n X dX12_readTrust_45 2 rfl rfl 46 rfl ?_
    obtain ⟨o7, ho7, hf⟩ := bnd hf
    refine v_callVi X (ci := 11) (T := TX12) (C := RX12) (As := [.int o4]) (rest := []) (ws' := (wX12 ad c9 m_undoable m_undoStart m_thrown m_inputLength o7.2.1 o7.2.2.1 o7.2.2.2.1 o7.2.2.2.2.1 o7.2.2.2.2.2.1 o7.2.2.2.2.2.2.1 o7.2.2.2.2.2.2.2 m_outputLength m_s m_parsed m_tried m_remembered m_slots m_kept m_away m_input m_halfway m_output)) (c_X12_exists l hG D c9 ad m_undoable m_undoStart m_thrown m_inputLength o2.2.1 o2.2.2.1 o2.2.2.2.1 o2.2.2.2.2.1 o2.2.2.2.2.2.1 o6.2.1 o6.2.2 m_outputLength m_s m_parsed m_tried m_remembered m_slots m_kept m_away m_input m_halfway m_output o4 ho7) 1 (gV wm_170 wm_171 wm_172 wm_37 wm_173) rfl rfl rfl ⟨rfl, pd_X12_exists⟩ ⟨Nat.le_of_ble_eq_true rfl, Nat.le_of_ble_eq_true rfl⟩ 0 rfl rfl rfl rfl (Nat.le_of_ble_eq_true rfl) ⟨Nat.zero_le _, Nat.zero_le _⟩ [0, 1, 2, 3, 4, 5, 6, 7, 8, 9, 10] [] [0, 1, 2, 3, 4, 5, 6, 7, 8, 9, 10] rfl rfl rfl rfl dX12_readTrust_46 49 rfl ?_
    refine v_istore_n X (lv' := [(2, .int o7.1), (0, .ref (ad 0)), (1, .int o2.1)]) dX12_readTrust_49 rfl (by decide) rfl 50 rfl ?_
    refine v_aload_n X dX12_readTrust_50 1 rfl rfl 51 rfl ?_
    refine v_aload_n X dX12_readTrust_51 1 rfl rfl 52 rfl ?_
    refine v_get X (C := RX12) (T := TX12) (N := 22) (ci := 11) (v := _) dX12_readTrust_52 (lay_of laym_X12) 0 rfl rfl 17 (by decide) (mw wm_118) rfl rfl 55 rfl ?_
    obtain ⟨j8, hj8, hf⟩ := bnd hf
    have Jj8 : vW p l e { frames := 6, cells := 0, slots := 0, locals := 124 } s m args below meth c 3 D A [] 0 0 (MQ below (eV D (tyA c9) A ((wX12 ad c9 m_undoable m_undoStart m_thrown m_inputLength o.1 o.2.1 o.2.2.1 o.2.2.2.1 o.2.2.2.2.1 o.2.2.2.2.2.1 o.2.2.2.2.2.2.1 m_outputLength m_s o.2.2.2.2.2.2.2 m_tried m_remembered m_slots m_kept m_away m_input m_halfway m_output) ++ [])) args s 0 0 A) (wX12 ad c9 m_undoable m_undoStart m_thrown m_inputLength o7.2.1 o7.2.2.1 o7.2.2.2.1 o7.2.2.2.2.1 o7.2.2.2.2.2.1 o7.2.2.2.2.2.2.1 o7.2.2.2.2.2.2.2 m_outputLength m_s m_parsed m_tried m_remembered m_slots m_kept m_away m_input m_halfway m_output) 75 [(0, .ref (ad 0)), (1, .int o2.1), (2, .int o7.1)] [.int j8, .ref (ad 0)] := by
      obtain ⟨o10, ho10, hf⟩ := bnd hf
      refine v_callVi X (ci := 11) (T := TX12) (C := RX12) (As := [.int j8]) (rest := []) (ws' := (wX12 ad c9 m_undoable m_undoStart m_thrown m_inputLength o7.2.1 o7.2.2.1 o7.2.2.2.1 o7.2.2.2.2.1 o7.2.2.2.2.2.1 o10.2.1 o10.2.2 m_outputLength m_s m_parsed m_tried m_remembered m_slots m_kept m_away m_input m_halfway m_output)) (c_X12_mayDo l hG D c9 ad m_undoable m_undoStart m_thrown m_inputLength o7.2.1 o7.2.2.1 o7.2.2.2.1 o7.2.2.2.2.1 o7.2.2.2.2.2.1 o7.2.2.2.2.2.2.1 o7.2.2.2.2.2.2.2 m_outputLength m_s m_parsed m_tried m_remembered m_slots m_kept m_away m_input m_halfway m_output j8 ho10) 1 (gV wm_201 wm_202 wm_203 wm_37 wm_204) rfl rfl rfl ⟨rfl, pd_X12_mayDo⟩ ⟨Nat.le_of_ble_eq_true rfl, Nat.le_of_ble_eq_true rfl⟩ 0 rfl rfl rfl rfl (Nat.le_of_ble_eq_true rfl) ⟨Nat.zero_le _, Nat.zero_le _⟩ [0, 1, 2, 3, 4, 5, 6, 7, 8, 9, 10] [] [0, 1, 2, 3, 4, 5, 6, 7, 8, 9, 10] rfl rfl rfl rfl dX12_readTrust_75 78 rfl ?_
      refine v_if_eq X (tgt := 95) dX12_readTrust_78 rfl 81 rfl hf (fun hf => ?_) (fun hf => ?_)
      · refine v_aload_n X dX12_readTrust_95 0 rfl rfl 96 rfl ?_
        obtain ⟨o11, ho11, hf⟩ := bnd hf
        refine v_callVv X (ci := 11) (T := TX12) (C := RX12) (As := []) (rest := []) (ws' := (wX12 ad c9 m_undoable m_undoStart m_thrown m_inputLength o11.1 o11.2.1 o11.2.2.1 o11.2.2.2.1 o11.2.2.2.2 o10.2.1 o10.2.2 m_outputLength m_s m_parsed m_tried m_remembered m_slots m_kept m_away m_input m_halfway m_output)) (c_X12_next l hG D c9 ad m_undoable m_undoStart m_thrown m_inputLength o7.2.1 o7.2.2.1 o7.2.2.2.1 o7.2.2.2.2.1 o7.2.2.2.2.2.1 o10.2.1 o10.2.2 m_outputLength m_s m_parsed m_tried m_remembered m_slots m_kept m_away m_input m_halfway m_output ho11) 0 (gV wm_141 wm_142 wm_143 wm_37 wm_144) rfl rfl rfl ⟨rfl, pd_X12_next⟩ ⟨Nat.le_of_ble_eq_true rfl, Nat.le_of_ble_eq_true rfl⟩ 0 rfl rfl rfl rfl (Nat.le_of_ble_eq_true rfl) ⟨Nat.zero_le _, Nat.zero_le _⟩ [0, 1, 2, 3, 4, 5, 6, 7, 8, 9, 10] [] [0, 1, 2, 3, 4, 5, 6, 7, 8, 9, 10] rfl rfl rfl rfl dX12_readTrust_96 99 rfl ?_
        obtain rfl := Option.some.inj hf
        exact v_vret X (Nat.zero_le _) (Nat.zero_le _) dX12_readTrust_99
      · refine v_aload_n X dX12_readTrust_81 0 rfl rfl 82 rfl ?_
        refine v_get X (C := RX12) (T := TX12) (N := 22) (ci := 11) (v := _) dX12_readTrust_82 (lay_of laym_X12) 0 rfl rfl 1 (by decide) (mw wm_162) rfl rfl 85 rfl ?_
        refine v_bipush X dX12_readTrust_85 bp_30 87 rfl ?_
        refine v_iconst X dX12_readTrust_87 ic_5 88 rfl ?_
        refine v_iload_n X dX12_readTrust_88 1 rfl rfl 89 rfl ?_
        refine v_imul X dX12_readTrust_89 90 rfl ?_
        refine v_iadd X dX12_readTrust_90 91 rfl ?_
        refine v_iload_n X dX12_readTrust_91 2 rfl rfl 92 rfl ?_
        refine v_iadd X dX12_readTrust_92 93 rfl ?_
        refine v_iconst X dX12_readTrust_93 ic_1 94 rfl ?_
        obtain ⟨g12, hg12, hf⟩ := bnd hf
        refine v_iast X (ws' := (wX12 ad c9 m_undoable m_undoStart m_thrown m_inputLength o7.2.1 o7.2.2.1 o7.2.2.2.1 o7.2.2.2.2.1 o7.2.2.2.2.2.1 o10.2.1 o10.2.2 m_outputLength m_s g12 m_tried m_remembered m_slots m_kept m_away m_input m_halfway m_output)) dX12_readTrust_94 2 0 rfl rfl hg12 rfl 95 rfl ?_
        refine v_aload_n X dX12_readTrust_95 0 rfl rfl 96 rfl ?_
        obtain ⟨o13, ho13, hf⟩ := bnd hf
        refine v_callVv X (ci := 11) (T := TX12) (C := RX12) (As := []) (rest := []) (ws' := (wX12 ad c9 m_undoable m_undoStart m_thrown m_inputLength o13.1 o13.2.1 o13.2.2.1 o13.2.2.2.1 o13.2.2.2.2 o10.2.1 o10.2.2 m_outputLength m_s g12 m_tried m_remembered m_slots m_kept m_away m_input m_halfway m_output)) (c_X12_next l hG D c9 ad m_undoable m_undoStart m_thrown m_inputLength o7.2.1 o7.2.2.1 o7.2.2.2.1 o7.2.2.2.2.1 o7.2.2.2.2.2.1 o10.2.1 o10.2.2 m_outputLength m_s g12 m_tried m_remembered m_slots m_kept m_away m_input m_halfway m_output ho13) 0 (gV wm_141 wm_142 wm_143 wm_37 wm_144) rfl rfl rfl ⟨rfl, pd_X12_next⟩ ⟨Nat.le_of_ble_eq_true rfl, Nat.le_of_ble_eq_true rfl⟩ 0 rfl rfl rfl rfl (Nat.le_of_ble_eq_true rfl) ⟨Nat.zero_le _, Nat.zero_le _⟩ [0, 1, 2, 3, 4, 5, 6, 7, 8, 9, 10] [] [0, 1, 2, 3, 4, 5, 6, 7, 8, 9, 10] rfl rfl rfl rfl dX12_readTrust_96 99 rfl ?_
        obtain rfl := Option.some.inj hf
        exact v_vret X (Nat.zero_le _) (Nat.zero_le _) dX12_readTrust_99
    clear hf
    refine v_if_ne X (tgt := 74) dX12_readTrust_55 rfl 58 rfl hj8 (fun hf => ?_) (fun hf => ?_)
    · refine v_iconst X dX12_readTrust_74 ic_0 75 rfl ?_
      obtain rfl := Option.some.inj hf
      refine v_sub (lv' := [(0, .ref (ad 0)), (1, .int o2.1), (2, .int o7.1)]) [1, 2, 0] rfl ?_
      exact Jj8
    · refine v_aload_n X dX12_readTrust_58 1 rfl rfl 59 rfl ?_
      refine v_get X (C := RX12) (T := TX12) (N := 22) (ci := 11) (v := _) dX12_readTrust_59 (lay_of laym_X12) 0 rfl rfl 1 (by decide) (mw wm_162) rfl rfl 62 rfl ?_
      refine v_iload_n X dX12_readTrust_62 2 rfl rfl 63 rfl ?_
      refine v_iload_n X dX12_readTrust_63 0 rfl rfl 64 rfl ?_
      obtain ⟨o9, ho9, hf⟩ := bnd hf
      refine v_callSi X (As := [.ref (ad 2), .int o2.1, .int o7.1]) (rest := [.ref (ad 0)]) (ws' := (wX12 ad c9 m_undoable m_undoStart m_thrown m_inputLength o7.2.1 o7.2.2.1 o7.2.2.2.1 o7.2.2.2.2.1 o7.2.2.2.2.2.1 o7.2.2.2.2.2.2.1 o7.2.2.2.2.2.2.2 m_outputLength m_s m_parsed m_tried m_remembered m_slots m_kept m_away m_input m_halfway m_output)) (c_X12_trusted l hG D c9 (ad 2) m_parsed o2.1 o7.1 ho9) 3 (gS wm_35 wm_36 wm_37 wm_38) rfl rfl rfl pd_X12_trusted ⟨Nat.le_of_ble_eq_true rfl, Nat.le_of_ble_eq_true rfl⟩ rfl rfl (Nat.le_of_ble_eq_true rfl) ⟨Nat.zero_le _, Nat.zero_le _⟩ [2] [0, 1, 3, 4, 5, 6, 7, 8, 9, 10] [0, 1, 10, 2, 3, 4, 5, 6, 7, 8, 9] rfl rfl rfl rfl dX12_readTrust_64 67 rfl ?_
      refine v_if_eq X (tgt := 74) dX12_readTrust_67 rfl 70 rfl hf (fun hf => ?_) (fun hf => ?_)
      · refine v_iconst X dX12_readTrust_74 ic_0 75 rfl ?_
        obtain rfl := Option.some.inj hf
        refine v_sub (lv' := [(0, .ref (ad 0)), (1, .int o2.1), (2, .int o7.1)]) [1, 2, 0] rfl ?_
        exact Jj8
      · refine v_iconst X dX12_readTrust_70 ic_1 71 rfl ?_
        refine v_goto X (tgt := 75) dX12_readTrust_71 rfl ?_
        obtain rfl := Option.some.inj hf
        refine v_sub (lv' := [(0, .ref (ad 0)), (1, .int o2.1), (2, .int o7.1)]) [1, 2, 0] rfl ?_
        exact Jj8
  clear hf
  refine v_if_ne X (tgt := 34) dX12_readTrust_26 rfl 29 rfl hj5 (fun hf => ?_) (fun hf => ?_)
  · refine v_iconst X dX12_readTrust_34 ic_1 35 rfl ?_
    refine v_goto X (tgt := 39) dX12_readTrust_35 rfl ?_
    obtain rfl := Option.some.inj hf
    refine v_sub (lv' := [(0, .ref (ad 0)), (1, .int o2.1), (2, .int o4)]) [2, 1, 0] rfl ?_
    exact Jj5
  · refine v_iload_n X dX12_readTrust_29 0 rfl rfl 30 rfl ?_
    refine v_iload_n X dX12_readTrust_30 1 rfl rfl 31 rfl ?_
    refine v_icmp_eq X (tgt := 38) dX12_readTrust_31 rfl 34 rfl hf (fun hf => ?_) (fun hf => ?_)
    · refine v_iconst X dX12_readTrust_38 ic_0 39 rfl ?_
      obtain rfl := Option.some.inj hf
      refine v_sub (lv' := [(0, .ref (ad 0)), (1, .int o2.1), (2, .int o4)]) [2, 1, 0] rfl ?_
      exact Jj5
    · refine v_iconst X dX12_readTrust_34 ic_1 35 rfl ?_
      refine v_goto X (tgt := 39) dX12_readTrust_35 rfl ?_
      obtain rfl := Option.some.inj hf
      refine v_sub (lv' := [(0, .ref (ad 0)), (1, .int o2.1), (2, .int o4)]) [2, 1, 0] rfl ?_
      exact Jj5
theorem pd_X12_readTrust : yX12_readTrust.cls ≠ "java/lang/invoke/MethodHandle" ∧ yX12_readTrust.cls ≠ "java/lang/invoke/VarHandle" ∧ (parseMethodDescriptor yX12_readTrust.desc).map (fun d => d.parameters.length) = some 0 := by decide +kernel
def f_X12_readUser (m_inputLength : Int32) (m_position : Int32) (m_start : Int32) (m_token : Int32) (m_value : Int32) (m_letters : Int32) (m_code : Int32) (m_place : Int32) (m_parsed : Nat → Int32) (m_input : Nat → Int32) : Option (Int32 × Int32 × Int32 × Int32 × Int32 × Int32 × Int32 × (Nat → Int32)) :=
  (rd m_parsed 463 4).bind fun x1 =>
  Option.bind (if 6 ≤ x1 then (
    some (0))
  else (
    some (1)) : Option (Int32)) fun j2 =>
  (f_X12_check m_start m_code m_place j2 5).bind fun o3 =>
  (f_X12_next m_inputLength m_position m_start m_token m_value m_letters o3.2.1 m_input).bind fun o4 =>
  (f_X12_newName m_inputLength o4.1 o4.2.1 o4.2.2.1 o4.2.2.2.1 o4.2.2.2.2 o3.2.1 o3.2.2 m_parsed m_input).bind fun o5 =>
  (f_X12_realmHere m_inputLength o5.2.1 o5.2.2.1 o5.2.2.2.1 o5.2.2.2.2.1 o5.2.2.2.2.2.1 o5.2.2.2.2.2.2.1 o5.2.2.2.2.2.2.2 m_parsed m_input).bind fun o6 =>
  (f_X12_number m_inputLength o6.2.1 o6.2.2.1 o6.2.2.2.1 o6.2.2.2.2.1 o6.2.2.2.2.2.1 o6.2.2.2.2.2.2.1 o6.2.2.2.2.2.2.2 m_input 0 9999).bind fun o7 =>
  (f_X12_clockHere m_inputLength o7.2.1 o7.2.2.1 o7.2.2.2.1 o7.2.2.2.2.1 o7.2.2.2.2.2.1 o7.2.2.2.2.2.2.1 o7.2.2.2.2.2.2.2 m_input).bind fun o8 =>
  (f_X12_finish m_inputLength o8.2.1 o8.2.2.1 o8.2.2.2.1 o8.2.2.2.2.1 o8.2.2.2.2.2.1 o8.2.2.2.2.2.2.1 o8.2.2.2.2.2.2.2 m_input).bind fun o9 =>
  if o9.2.2.2.2.2.1 = 0 then (
    (rd m_parsed 463 4).bind fun x10 =>
    (f_X12_ofUser x10).bind fun o11 =>
    (wr m_parsed 463 (o11 + 0) o5.1).bind fun g12 =>
    (wr g12 463 (o11 + 1) o6.1).bind fun g13 =>
    (wr g13 463 (o11 + 2) o7.1).bind fun g14 =>
    (wr g14 463 (o11 + 3) o8.1).bind fun g15 =>
    (rd g15 463 4).bind fun x16 =>
    (wr g15 463 4 (x16 + 1)).bind fun g17 =>
    some (o9.1, o9.2.1, o9.2.2.1, o9.2.2.2.1, o9.2.2.2.2.1, o9.2.2.2.2.2.1, o9.2.2.2.2.2.2, g17))
  else (
    some (o9.1, o9.2.1, o9.2.2.1, o9.2.2.2.1, o9.2.2.2.2.1, o9.2.2.2.2.2.1, o9.2.2.2.2.2.2, m_parsed))
set_option maxRecDepth 100000 in
set_option maxHeartbeats 4000000 in
theorem c_X12_readUser (l : Launch) {G : (Nat → Prop) → State → Heap → Prop} (hG : vG G) (D : va_G) (c9 : Nat → ClassId) (sk sv : Nat → Nat) (hGU : ∀ (A : Nat → Prop) (U : State) (H : Heap), G A U H → vU sk sv A U H) (ad : Nat → Nat) (m_undoable : Int32) (m_undoStart : Int32) (m_thrown : Int32) (m_inputLength : Int32) (m_position : Int32) (m_start : Int32) (m_token : Int32) (m_value : Int32) (m_letters : Int32) (m_code : Int32) (m_place : Int32) (m_outputLength : Int32) (m_s : Nat → Int32) (m_parsed : Nat → Int32) (m_tried : Nat → Int32) (m_remembered : Nat → Int32) (m_slots : Nat → Int32) (m_kept : Nat → Int32) (m_away : Nat → Int32) (m_input : Nat → Int32) (m_halfway : Nat → Int32) (m_output : Nat → Int32)  {o : Int32 × Int32 × Int32 × Int32 × Int32 × Int32 × Int32 × (Nat → Int32)} (hf : f_X12_readUser m_inputLength m_position m_start m_token m_value m_letters m_code m_place m_parsed m_input = some o) : mV l yX12_readUser (wq yX12_readUser cX12_readUser 6 none) { frames := 7, cells := 0, slots := 0, locals := 195 } G D (tyA c9) [.ref (ad 0)] (wX12 ad c9 m_undoable m_undoStart m_thrown m_inputLength m_position m_start m_token m_value m_letters m_code m_place m_outputLength m_s m_parsed m_tried m_remembered m_slots m_kept m_away m_input m_halfway m_output) [] 0 0 (wX12 ad c9 m_undoable m_undoStart m_thrown m_inputLength o.1 o.2.1 o.2.2.1 o.2.2.2.1 o.2.2.2.2.1 o.2.2.2.2.2.1 o.2.2.2.2.2.2.1 m_outputLength m_s o.2.2.2.2.2.2.2 m_tried m_remembered m_slots m_kept m_away m_input m_halfway m_output) := by
  refine mV_of hG (cc := cX12_readUser) (maxL := 6) (by decide) rfl (Nat.le_of_ble_eq_true rfl) ?_
  intro p e s m args below meth c A hnm X
  have X : vX p s m args meth c cX12_readUser 6 none RX12 (wq yX12_readUser cX12_readUser 6 none) D (tyA c9) G A := X
  refine v_eq (lv2 := [(0, .ref (ad 0))]) rfl rfl rfl rfl ?_
  rw [f_X12_readUser] at hf
  refine v_aload_n X dX12_readUser_0 0 rfl rfl 1 rfl ?_
  refine v_aload_n X dX12_readUser_1 0 rfl rfl 2 rfl ?_
  refine v_get X (C := RX12) (T := TX12) (N := 22) (ci := 11) (v := _) dX12_readUser_2 (lay_of laym_X12) 0 rfl rfl 1 (by decide) (mw wm_162) rfl rfl 5 rfl ?_
  refine v_iconst X dX12_readUser_5 ic_4 6 rfl ?_
  obtain ⟨x1, hx1, hf⟩ := bnd hf
  refine v_iald X dX12_readUser_6 2 0 rfl rfl hx1 7 rfl ?_
  refine v_bipush X dX12_readUser_7 bp_6 9 rfl ?_
  obtain ⟨j2, hj2, hf⟩ := bnd hf
  have Jj2 : vW p l e { frames := 7, cells := 0, slots := 0, locals := 195 } s m args below meth c 6 D A [] 0 0 (MQ below (eV D (tyA c9) A ((wX12 ad c9 m_undoable m_undoStart m_thrown m_inputLength o.1 o.2.1 o.2.2.1 o.2.2.2.1 o.2.2.2.2.1 o.2.2.2.2.2.1 o.2.2.2.2.2.2.1 m_outputLength m_s o.2.2.2.2.2.2.2 m_tried m_remembered m_slots m_kept m_away m_input m_halfway m_output) ++ [])) args s 0 0 A) (wX12 ad c9 m_undoable m_undoStart m_thrown m_inputLength m_position m_start m_token m_value m_letters m_code m_place m_outputLength m_s m_parsed m_tried m_remembered m_slots m_kept m_away m_input m_halfway m_output) 17 [(0, .ref (ad 0))] [.int j2, .ref (ad 0)] := by
    refine v_iconst X dX12_readUser_17 ic_5 18 rfl ?_
    obtain ⟨o3, ho3, hf⟩ := bnd hf
    refine v_callVi X (ci := 11) (T := TX12) (C := RX12) (As := [.int j2, .int 5]) (rest := []) (ws' := (wX12 ad c9 m_undoable m_undoStart m_thrown m_inputLength m_position m_start m_token m_value m_letters o3.2.1 o3.2.2 m_outputLength m_s m_parsed m_tried m_remembered m_slots m_kept m_away m_input m_halfway m_output)) (c_X12_check l hG D c9 ad m_undoable m_undoStart m_thrown m_inputLength m_position m_start m_token m_value m_letters m_code m_place m_outputLength m_s m_parsed m_tried m_remembered m_slots m_kept m_away m_input m_halfway m_output j2 5 ho3) 2 (gV wm_137 wm_138 wm_139 wm_37 wm_140) rfl rfl rfl ⟨rfl, pd_X12_check⟩ ⟨Nat.le_of_ble_eq_true rfl, Nat.le_of_ble_eq_true rfl⟩ 0 rfl rfl rfl rfl (Nat.le_of_ble_eq_true rfl) ⟨Nat.zero_le _, Nat.zero_le _⟩ [0, 1, 2, 3, 4, 5, 6, 7, 8, 9, 10] [] [0, 1, 2, 3, 4, 5, 6, 7, 8, 9, 10] rfl rfl rfl rfl dX12_readUser_18 21 rfl ?_
    refine v_pop X dX12_readUser_21 rfl 22 rfl ?_
    refine v_aload_n X dX12_readUser_22 0 rfl rfl 23 rfl ?_
    obtain ⟨o4, ho4, hf⟩ := bnd hf
    refine v_callVv X (ci := 11) (T := TX12) (C := RX12) (As := []) (rest := []) (ws' := (wX12 ad c9 m_undoable m_undoStart m_thrown m_inputLength o4.1 o4.2.1 o4.2.2.1 o4.2.2.2.1 o4.2.2.2.2 o3.2.1 o3.2.2 m_outputLength m_s m_parsed m_tried m_remembered m_slots m_kept m_away m_input m_halfway m_output)) (c_X12_next l hG D c9 ad m_undoable m_undoStart m_thrown m_inputLength m_position m_start m_token m_value m_letters o3.2.1 o3.2.2 m_outputLength m_s m_parsed m_tried m_remembered m_slots m_kept m_away m_input m_halfway m_output ho4) 0 (gV wm_141 wm_142 wm_143 wm_37 wm_144) rfl rfl rfl ⟨rfl, pd_X12_next⟩ ⟨Nat.le_of_ble_eq_true rfl, Nat.le_of_ble_eq_true rfl⟩ 0 rfl rfl rfl rfl (Nat.le_of_ble_eq_true rfl) ⟨Nat.zero_le _, Nat.zero_le _⟩ [0, 1, 2, 3, 4, 5, 6, 7, 8, 9, 10] [] [0, 1, 2, 3, 4, 5, 6, 7, 8, 9, 10] rfl rfl rfl rfl dX12_readUser_23 26 rfl ?_
    refine v_aload_n X dX12_readUser_26 0 rfl rfl 27 rfl ?_
    obtain ⟨o5, ho5, hf⟩ := bnd hf
    refine v_callVi X (ci := 11) (T := TX12) (C := RX12) (As := []) (rest := []) (ws' := (wX12 ad c9 m_undoable m_undoStart m_thrown m_inputLength o5.2.1 o5.2.2.1 o5.2.2.2.1 o5.2.2.2.2.1 o5.2.2.2.2.2.1 o5.2.2.2.2.2.2.1 o5.2.2.2.2.2.2.2 m_outputLength m_s m_parsed m_tried m_remembered m_slots m_kept m_away m_input m_halfway m_output)) (c_X12_newName l hG D c9 ad m_undoable m_undoStart m_thrown m_inputLength o4.1 o4.2.1 o4.2.2.1 o4.2.2.2.1 o4.2.2.2.2 o3.2.1 o3.2.2 m_outputLength m_s m_parsed m_tried m_remembered m_slots m_kept m_away m_input m_halfway m_output ho5) 0 (gV wm_185 wm_186 wm_187 wm_37 wm_188) rfl rfl rfl ⟨rfl, pd_X12_newName⟩ ⟨Nat.le_of_ble_eq_true rfl, Nat.le_of_ble_eq_true rfl⟩ 0 rfl rfl rfl rfl (Nat.le_of_ble_eq_true rfl) ⟨Nat.zero_le _, Nat.zero_le _⟩ [0, 1, 2, 3, 4, 5, 6, 7, 8, 9, 10] [] [0, 1, 2, 3, 4, 5, 6, 7, 8, 9, 10] rfl rfl rfl rfl dX12_readUser_27 30 rfl ?_
    refine v_istore_n X (lv' := [(1, .int o5.1), (0, .ref (ad 0))]) dX12_readUser_30 rfl (by decide) rfl 31 rfl ?_
    refine v_aload_n X dX12_readUser_31 1 rfl rfl 32 rfl ?_
    obtain ⟨o6, ho6, hf⟩ := bnd hf
    refine v_callVi X (ci := 11) (T := TX12) (C := RX12) (As := []) (rest := []) (ws' := (wX12 ad c9 m_undoable m_undoStart m_thrown m_inputLength o6.2.1 o6.2.2.1 o6.2.2.2.1 o6.2.2.2.2.1 o6.2.2.2.2.2.1 o6.2.2.2.2.2.2.1 o6.2.2.2.2.2.2.2 m_outputLength m_s m_parsed m_tried m_remembered m_slots m_kept m_away m_input m_halfway m_output)) (c_X12_realmHere l hG D c9 ad m_undoable m_undoStart m_thrown m_inputLength o5.2.1 o5.2.2.1 o5.2.2.2.1 o5.2.2.2.2.1 o5.2.2.2.2.2.1 o5.2.2.2.2.2.2.1 o5.2.2.2.2.2.2.2 m_outputLength m_s m_parsed m_tried m_remembered m_slots m_kept m_away m_input m_halfway m_output ho6) 0 (gV wm_197 wm_198 wm_199 wm_37 wm_200) rfl rfl rfl ⟨rfl, pd_X12_realmHere⟩ ⟨Nat.le_of_ble_eq_true rfl, Nat.le_of_ble_eq_true rfl⟩ 0 rfl rfl rfl rfl (Nat.le_of_ble_eq_true rfl) ⟨Nat.zero_le _, Nat.zero_le _⟩ [0, 1, 2, 3, 4, 5, 6, 7, 8, 9, 10] [] [0, 1, 2, 3, 4, 5, 6, 7, 8, 9, 10] rfl rfl rfl rfl dX12_readUser_32 35 rfl ?_
    refine v_istore_n X (lv' := [(2, .int o6.1), (1, .int o5.1), (0, .ref (ad 0))]) dX12_readUser_35 rfl (by decide) rfl 36 rfl ?_
    refine v_aload_n X dX12_readUser_36 2 rfl rfl 37 rfl ?_
    refine v_iconst X dX12_readUser_37 ic_0 38 rfl ?_
    refine v_sipush X dX12_readUser_38 sp_9999 41 rfl ?_
    obtain ⟨o7, ho7, hf⟩ := bnd hf
    refine v_callVi X (ci := 11) (T := TX12) (C := RX12) (As := [.int 0, .int 9999]) (rest := []) (ws' := (wX12 ad c9 m_undoable m_undoStart m_thrown m_inputLength o7.2.1 o7.2.2.1 o7.2.2.2.1 o7.2.2.2.2.1 o7.2.2.2.2.2.1 o7.2.2.2.2.2.2.1 o7.2.2.2.2.2.2.2 m_outputLength m_s m_parsed m_tried m_remembered m_slots m_kept m_away m_input m_halfway m_output)) (c_X12_number l hG D c9 ad m_undoable m_undoStart m_thrown m_inputLength o6.2.1 o6.2.2.1 o6.2.2.2.1 o6.2.2.2.2.1 o6.2.2.2.2.2.1 o6.2.2.2.2.2.2.1 o6.2.2.2.2.2.2.2 m_outputLength m_s m_parsed m_tried m_remembered m_slots m_kept m_away m_input m_halfway m_output 0 9999 ho7) 2 (gV wm_181 wm_182 wm_183 wm_37 wm_184) rfl rfl rfl ⟨rfl, pd_X12_number⟩ ⟨Nat.le_of_ble_eq_true rfl, Nat.le_of_ble_eq_true rfl⟩ 0 rfl rfl rfl rfl (Nat.le_of_ble_eq_true rfl) ⟨Nat.zero_le _, Nat.zero_le _⟩ [0, 1, 2, 3, 4, 5, 6, 7, 8, 9, 10] [] [0, 1, 2, 3, 4, 5, 6, 7, 8, 9, 10] rfl rfl rfl rfl dX12_readUser_41 44 rfl ?_
    refine v_istore_n X (lv' := [(3, .int o7.1), (2, .int o6.1), (1, .int o5.1), (0, .ref (ad 0))]) dX12_readUser_44 rfl (by decide) rfl 45 rfl ?_
    refine v_aload_n X dX12_readUser_45 3 rfl rfl 46 rfl ?_
    obtain ⟨o8, ho8, hf⟩ := bnd hf
    refine v_callVi X (ci := 11) (T := TX12) (C := RX12) (As := []) (rest := []) (ws' := (wX12 ad c9 m_undoable m_undoStart m_thrown m_inputLength o8.2.1 o8.2.2.1 o8.2.2.2.1 o8.2.2.2.2.1 o8.2.2.2.2.2.1 o8.2.2.2.2.2.2.1 o8.2.2.2.2.2.2.2 m_outputLength m_s m_parsed m_tried m_remembered m_slots m_kept m_away m_input m_halfway m_output)) (c_X12_clockHere l hG D c9 sk sv hGU ad m_undoable m_undoStart m_thrown m_inputLength o7.2.1 o7.2.2.1 o7.2.2.2.1 o7.2.2.2.2.1 o7.2.2.2.2.2.1 o7.2.2.2.2.2.2.1 o7.2.2.2.2.2.2.2 m_outputLength m_s m_parsed m_tried m_remembered m_slots m_kept m_away m_input m_halfway m_output ho8) 0 (gV wm_189 wm_190 wm_191 wm_37 wm_192) rfl rfl rfl ⟨rfl, pd_X12_clockHere⟩ ⟨Nat.le_of_ble_eq_true rfl, Nat.le_of_ble_eq_true rfl⟩ 0 rfl rfl rfl rfl (Nat.le_of_ble_eq_true rfl) ⟨Nat.zero_le _, Nat.zero_le _⟩ [0, 1, 2, 3, 4, 5, 6, 7, 8, 9, 10] [] [0, 1, 2, 3, 4, 5, 6, 7, 8, 9, 10] rfl rfl rfl rfl dX12_readUser_46 49 rfl ?_
    refine v_istore X (lv' := [(4, .int o8.1), (3, .int o7.1), (2, .int o6.1), (1, .int o5.1), (0, .ref (ad 0))]) dX12_readUser_49 (by decide) rfl 51 rfl ?_
    refine v_aload_n X dX12_readUser_51 4 rfl rfl 52 rfl ?_
    obtain ⟨o9, ho9, hf⟩ := bnd hf
    refine v_callVv X (ci := 11) (T := TX12) (C := RX12) (As := []) (rest := []) (ws' := (wX12 ad c9 m_undoable m_undoStart m_thrown m_inputLength o9.1 o9.2.1 o9.2.2.1 o9.2.2.2.1 o9.2.2.2.2.1 o9.2.2.2.2.2.1 o9.2.2.2.2.2.2 m_outputLength m_s m_parsed m_tried m_remembered m_slots m_kept m_away m_input m_halfway m_output)) (c_X12_finish l hG D c9 ad m_undoable m_undoStart m_thrown m_inputLength o8.2.1 o8.2.2.1 o8.2.2.2.1 o8.2.2.2.2.1 o8.2.2.2.2.2.1 o8.2.2.2.2.2.2.1 o8.2.2.2.2.2.2.2 m_outputLength m_s m_parsed m_tried m_remembered m_slots m_kept m_away m_input m_halfway m_output ho9) 0 (gV wm_193 wm_194 wm_195 wm_37 wm_196) rfl rfl rfl ⟨rfl, pd_X12_finish⟩ ⟨Nat.le_of_ble_eq_true rfl, Nat.le_of_ble_eq_true rfl⟩ 0 rfl rfl rfl rfl (Nat.le_of_ble_eq_true rfl) ⟨Nat.zero_le _, Nat.zero_le _⟩ [0, 1, 2, 3, 4, 5, 6, 7, 8, 9, 10] [] [0, 1, 2, 3, 4, 5, 6, 7, 8, 9, 10] rfl rfl rfl rfl dX12_readUser_52 55 rfl ?_
    refine v_aload_n X dX12_readUser_55 4 rfl rfl 56 rfl ?_
    refine v_get X (C := RX12) (T := TX12) (N := 22) (ci := 11) (v := _) dX12_readUser_56 (lay_of laym_X12) 0 rfl rfl 17 (by decide) (mw wm_118) rfl rfl 59 rfl ?_
    refine v_if_ne X (tgt := 124) dX12_readUser_59 rfl 62 rfl hf (fun hf => ?_) (fun hf => ?_)
    · obtain rfl := Option.some.inj hf
      exact v_vret X (Nat.zero_le _) (Nat.zero_le _) dX12_readUser_124
    · refine v_aload_n X dX12_readUser_62 4 rfl rfl 63 rfl ?_
      refine v_get X (C := RX12) (T := TX12) (N := 22) (ci := 11) (v := _) dX12_readUser_63 (lay_of laym_X12) 0 rfl rfl 1 (by decide) (mw wm_162) rfl rfl 66 rfl ?_
      refine v_iconst X dX12_readUser_66 ic_4 67 rfl ?_
      obtain ⟨x10, hx10, hf⟩ := bnd hf
      refine v_iald X dX12_readUser_67 2 0 rfl rfl hx10 68 rfl ?_
      obtain ⟨o11, ho11, hf⟩ := bnd hf
      refine v_callSi X (As := [.int x10]) (rest := []) (ws' := (wX12 ad c9 m_undoable m_undoStart m_thrown m_inputLength o9.1 o9.2.1 o9.2.2.1 o9.2.2.2.1 o9.2.2.2.2.1 o9.2.2.2.2.2.1 o9.2.2.2.2.2.2 m_outputLength m_s m_parsed m_tried m_remembered m_slots m_kept m_away m_input m_halfway m_output)) (c_X12_ofUser l hG D c9 x10 ho11) 1 (gS wm_46 wm_47 wm_37 wm_48) rfl rfl rfl pd_X12_ofUser ⟨Nat.le_of_ble_eq_true rfl, Nat.le_of_ble_eq_true rfl⟩ rfl rfl (Nat.le_of_ble_eq_true rfl) ⟨Nat.zero_le _, Nat.zero_le _⟩ [] [0, 1, 2, 3, 4, 5, 6, 7, 8, 9, 10] [0, 1, 2, 3, 4, 5, 6, 7, 8, 9, 10] rfl rfl rfl rfl dX12_readUser_68 71 rfl ?_
      refine v_istore X (lv' := [(5, .int o11), (4, .int o8.1), (3, .int o7.1), (2, .int o6.1), (1, .int o5.1), (0, .ref (ad 0))]) dX12_readUser_71 (by decide) rfl 73 rfl ?_
      refine v_aload_n X dX12_readUser_73 5 rfl rfl 74 rfl ?_
      refine v_get X (C := RX12) (T := TX12) (N := 22) (ci := 11) (v := _) dX12_readUser_74 (lay_of laym_X12) 0 rfl rfl 1 (by decide) (mw wm_162) rfl rfl 77 rfl ?_
      refine v_iload X dX12_readUser_77 0 rfl 79 rfl ?_
      refine v_iconst X dX12_readUser_79 ic_0 80 rfl ?_
      refine v_iadd X dX12_readUser_80 81 rfl ?_
      refine v_iload_n X dX12_readUser_81 4 rfl rfl 82 rfl ?_
      obtain ⟨g12, hg12, hf⟩ := bnd hf
      refine v_iast X (ws' := (wX12 ad c9 m_undoable m_undoStart m_thrown m_inputLength o9.1 o9.2.1 o9.2.2.1 o9.2.2.2.1 o9.2.2.2.2.1 o9.2.2.2.2.2.1 o9.2.2.2.2.2.2 m_outputLength m_s g12 m_tried m_remembered m_slots m_kept m_away m_input m_halfway m_output)) dX12_readUser_82 2 0 rfl rfl hg12 rfl 83 rfl ?_
      refine v_aload_n X dX12_readUser_83 5 rfl rfl 84 rfl ?_
      refine v_get X (C := RX12) (T := TX12) (N := 22) (ci := 11) (v := _) dX12_readUser_84 (lay_of laym_X12) 0 rfl rfl 1 (by decide) (mw wm_162) rfl rfl 87 rfl ?_
      refine v_iload X dX12_readUser_87 0 rfl 89 rfl ?_
      refine v_iconst X dX12_readUser_89 ic_1 90 rfl ?_
      refine v_iadd X dX12_readUser_90 91 rfl ?_
      refine v_iload_n X dX12_readUser_91 3 rfl rfl 92 rfl ?_
      obtain ⟨g13, hg13, hf⟩ := bnd hf
      refine v_iast X (ws' := (wX12 ad c9 m_undoable m_undoStart m_thrown m_inputLength o9.1 o9.2.1 o9.2.2.1 o9.2.2.2.1 o9.2.2.2.2.1 o9.2.2.2.2.2.1 o9.2.2.2.2.2.2 m_outputLength m_s g13 m_tried m_remembered m_slots m_kept m_away m_input m_halfway m_output)) dX12_readUser_92 2 0 rfl rfl hg13 rfl 93 rfl ?_
      refine v_aload_n X dX12_readUser_93 5 rfl rfl 94 rfl ?_
      refine v_get X (C := RX12) (T := TX12) (N := 22) (ci := 11) (v := _) dX12_readUser_94 (lay_of laym_X12) 0 rfl rfl 1 (by decide) (mw wm_162) rfl rfl 97 rfl ?_
      refine v_iload X dX12_readUser_97 0 rfl 99 rfl ?_
      refine v_iconst X dX12_readUser_99 ic_2 100 rfl ?_
      refine v_iadd X dX12_readUser_100 101 rfl ?_
      refine v_iload_n X dX12_readUser_101 2 rfl rfl 102 rfl ?_
      obtain ⟨g14, hg14, hf⟩ := bnd hf
      refine v_iast X (ws' := (wX12 ad c9 m_undoable m_undoStart m_thrown m_inputLength o9.1 o9.2.1 o9.2.2.1 o9.2.2.2.1 o9.2.2.2.2.1 o9.2.2.2.2.2.1 o9.2.2.2.2.2.2 m_outputLength m_s g14 m_tried m_remembered m_slots m_kept m_away m_input m_halfway m_output)) dX12_readUser_102 2 0 rfl rfl hg14 rfl 103 rfl ?_
      refine v_aload_n X dX12_readUser_103 5 rfl rfl 104 rfl ?_
      refine v_get X (C := RX12) (T := TX12) (N := 22) (ci := 11) (v := _) dX12_readUser_104 (lay_of laym_X12) 0 rfl rfl 1 (by decide) (mw wm_162) rfl rfl 107 rfl ?_
      refine v_iload X dX12_readUser_107 0 rfl 109 rfl ?_
      refine v_iconst X dX12_readUser_109 ic_3 110 rfl ?_
      refine v_iadd X dX12_readUser_110 111 rfl ?_
      refine v_iload X dX12_readUser_111 1 rfl 113 rfl ?_
      obtain ⟨g15, hg15, hf⟩ := bnd hf
      refine v_iast X (ws' := (wX12 ad c9 m_undoable m_undoStart m_thrown m_inputLength o9.1 o9.2.1 o9.2.2.1 o9.2.2.2.1 o9.2.2.2.2.1 o9.2.2.2.2.2.1 o9.2.2.2.2.2.2 m_outputLength m_s g15 m_tried m_remembered m_slots m_kept m_away m_input m_halfway m_output)) dX12_readUser_113 2 0 rfl rfl hg15 rfl 114 rfl ?_
      refine v_aload_n X dX12_readUser_114 5 rfl rfl 115 rfl ?_
      refine v_get X (C := RX12) (T := TX12) (N := 22) (ci := 11) (v := _) dX12_readUser_115 (lay_of laym_X12) 0 rfl rfl 1 (by decide) (mw wm_162) rfl rfl 118 rfl ?_
      refine v_iconst X dX12_readUser_118 ic_4 119 rfl ?_
      refine v_dup2 X dX12_readUser_119 rfl rfl 120 rfl ?_
      obtain ⟨x16, hx16, hf⟩ := bnd hf
      refine v_iald X dX12_readUser_120 2 0 rfl rfl hx16 121 rfl ?_
      refine v_iconst X dX12_readUser_121 ic_1 122 rfl ?_
      refine v_iadd X dX12_readUser_122 123 rfl ?_
      obtain ⟨g17, hg17, hf⟩ := bnd hf
      refine v_iast X (ws' := (wX12 ad c9 m_undoable m_undoStart m_thrown m_inputLength o9.1 o9.2.1 o9.2.2.1 o9.2.2.2.1 o9.2.2.2.2.1 o9.2.2.2.2.2.1 o9.2.2.2.2.2.2 m_outputLength m_s g17 m_tried m_remembered m_slots m_kept m_away m_input m_halfway m_output)) dX12_readUser_123 2 0 rfl rfl hg17 rfl 124 rfl ?_
      obtain rfl := Option.some.inj hf
      exact v_vret X (Nat.zero_le _) (Nat.zero_le _) dX12_readUser_124
  clear hf
  refine v_icmp_ge X (tgt := 16) dX12_readUser_9 rfl 12 rfl hj2 (fun hf => ?_) (fun hf => ?_)
  · refine v_iconst X dX12_readUser_16 ic_0 17 rfl ?_
    obtain rfl := Option.some.inj hf
    exact Jj2
  · refine v_iconst X dX12_readUser_12 ic_1 13 rfl ?_
    refine v_goto X (tgt := 17) dX12_readUser_13 rfl ?_
    obtain rfl := Option.some.inj hf
    exact Jj2
theorem pd_X12_readUser : yX12_readUser.cls ≠ "java/lang/invoke/MethodHandle" ∧ yX12_readUser.cls ≠ "java/lang/invoke/VarHandle" ∧ (parseMethodDescriptor yX12_readUser.desc).map (fun d => d.parameters.length) = some 0 := by decide +kernel
def f_X12_readService (m_inputLength : Int32) (m_position : Int32) (m_start : Int32) (m_token : Int32) (m_value : Int32) (m_letters : Int32) (m_code : Int32) (m_place : Int32) (m_parsed : Nat → Int32) (m_input : Nat → Int32) : Option (Int32 × Int32 × Int32 × Int32 × Int32 × Int32 × Int32 × (Nat → Int32)) :=
  (rd m_parsed 463 5).bind fun x1 =>
  Option.bind (if 6 ≤ x1 then (
    some (0))
  else (
    some (1)) : Option (Int32)) fun j2 =>
  (f_X12_check m_start m_code m_place j2 5).bind fun o3 =>
  (f_X12_next m_inputLength m_position m_start m_token m_value m_letters o3.2.1 m_input).bind fun o4 =>
  (f_X12_newName m_inputLength o4.1 o4.2.1 o4.2.2.1 o4.2.2.2.1 o4.2.2.2.2 o3.2.1 o3.2.2 m_parsed m_input).bind fun o5 =>
  (f_X12_realmHere m_inputLength o5.2.1 o5.2.2.1 o5.2.2.2.1 o5.2.2.2.2.1 o5.2.2.2.2.2.1 o5.2.2.2.2.2.2.1 o5.2.2.2.2.2.2.2 m_parsed m_input).bind fun o6 =>
  (f_X12_number m_inputLength o6.2.1 o6.2.2.1 o6.2.2.2.1 o6.2.2.2.2.1 o6.2.2.2.2.2.1 o6.2.2.2.2.2.2.1 o6.2.2.2.2.2.2.2 m_input 0 99).bind fun o7 =>
  (f_X12_finish m_inputLength o7.2.1 o7.2.2.1 o7.2.2.2.1 o7.2.2.2.2.1 o7.2.2.2.2.2.1 o7.2.2.2.2.2.2.1 o7.2.2.2.2.2.2.2 m_input).bind fun o8 =>
  if o8.2.2.2.2.2.1 = 0 then (
    (rd m_parsed 463 5).bind fun x9 =>
    (f_X12_ofService x9).bind fun o10 =>
    (wr m_parsed 463 (o10 + 0) o5.1).bind fun g11 =>
    (wr g11 463 (o10 + 1) o6.1).bind fun g12 =>
    (wr g12 463 (o10 + 2) o7.1).bind fun g13 =>
    (rd g13 463 9).bind fun x14 =>
    (wr g13 463 9 (x14 + o7.1)).bind fun g15 =>
    (rd g15 463 5).bind fun x16 =>
    (wr g15 463 5 (x16 + 1)).bind fun g17 =>
    some (o8.1, o8.2.1, o8.2.2.1, o8.2.2.2.1, o8.2.2.2.2.1, o8.2.2.2.2.2.1, o8.2.2.2.2.2.2, g17))
  else (
    some (o8.1, o8.2.1, o8.2.2.1, o8.2.2.2.1, o8.2.2.2.2.1, o8.2.2.2.2.2.1, o8.2.2.2.2.2.2, m_parsed))
set_option maxRecDepth 100000 in
set_option maxHeartbeats 4000000 in
theorem c_X12_readService (l : Launch) {G : (Nat → Prop) → State → Heap → Prop} (hG : vG G) (D : va_G) (c9 : Nat → ClassId) (ad : Nat → Nat) (m_undoable : Int32) (m_undoStart : Int32) (m_thrown : Int32) (m_inputLength : Int32) (m_position : Int32) (m_start : Int32) (m_token : Int32) (m_value : Int32) (m_letters : Int32) (m_code : Int32) (m_place : Int32) (m_outputLength : Int32) (m_s : Nat → Int32) (m_parsed : Nat → Int32) (m_tried : Nat → Int32) (m_remembered : Nat → Int32) (m_slots : Nat → Int32) (m_kept : Nat → Int32) (m_away : Nat → Int32) (m_input : Nat → Int32) (m_halfway : Nat → Int32) (m_output : Nat → Int32)  {o : Int32 × Int32 × Int32 × Int32 × Int32 × Int32 × Int32 × (Nat → Int32)} (hf : f_X12_readService m_inputLength m_position m_start m_token m_value m_letters m_code m_place m_parsed m_input = some o) : mV l yX12_readService (wq yX12_readService cX12_readService 5 none) { frames := 6, cells := 0, slots := 0, locals := 124 } G D (tyA c9) [.ref (ad 0)] (wX12 ad c9 m_undoable m_undoStart m_thrown m_inputLength m_position m_start m_token m_value m_letters m_code m_place m_outputLength m_s m_parsed m_tried m_remembered m_slots m_kept m_away m_input m_halfway m_output) [] 0 0 (wX12 ad c9 m_undoable m_undoStart m_thrown m_inputLength o.1 o.2.1 o.2.2.1 o.2.2.2.1 o.2.2.2.2.1 o.2.2.2.2.2.1 o.2.2.2.2.2.2.1 m_outputLength m_s o.2.2.2.2.2.2.2 m_tried m_remembered m_slots m_kept m_away m_input m_halfway m_output) := by
  refine mV_of hG (cc := cX12_readService) (maxL := 5) (by decide) rfl (Nat.le_of_ble_eq_true rfl) ?_
  intro p e s m args below meth c A hnm X
  have X : vX p s m args meth c cX12_readService 5 none RX12 (wq yX12_readService cX12_readService 5 none) D (tyA c9) G A := X
  refine v_eq (lv2 := [(0, .ref (ad 0))]) rfl rfl rfl rfl ?_
  rw [f_X12_readService] at hf
  refine v_aload_n X dX12_readService_0 0 rfl rfl 1 rfl ?_
  refine v_aload_n X dX12_readService_1 0 rfl rfl 2 rfl ?_
  refine v_get X (C := RX12) (T := TX12) (N := 22) (ci := 11) (v := _) dX12_readService_2 (lay_of laym_X12) 0 rfl rfl 1 (by decide) (mw wm_162) rfl rfl 5 rfl ?_
  refine v_iconst X dX12_readService_5 ic_5 6 rfl ?_
  obtain ⟨x1, hx1, hf⟩ := bnd hf
  refine v_iald X dX12_readService_6 2 0 rfl rfl hx1 7 rfl ?_
  refine v_bipush X dX12_readService_7 bp_6 9 rfl ?_
  obtain ⟨j2, hj2, hf⟩ := bnd hf
  have Jj2 : vW p l e { frames := 6, cells := 0, slots := 0, locals := 124 } s m args below meth c 5 D A [] 0 0 (MQ below (eV D (tyA c9) A ((wX12 ad c9 m_undoable m_undoStart m_thrown m_inputLength o.1 o.2.1 o.2.2.1 o.2.2.2.1 o.2.2.2.2.1 o.2.2.2.2.2.1 o.2.2.2.2.2.2.1 m_outputLength m_s o.2.2.2.2.2.2.2 m_tried m_remembered m_slots m_kept m_away m_input m_halfway m_output) ++ [])) args s 0 0 A) (wX12 ad c9 m_undoable m_undoStart m_thrown m_inputLength m_position m_start m_token m_value m_letters m_code m_place m_outputLength m_s m_parsed m_tried m_remembered m_slots m_kept m_away m_input m_halfway m_output) 17 [(0, .ref (ad 0))] [.int j2, .ref (ad 0)] := by
    refine v_iconst X dX12_readService_17 ic_5 18 rfl ?_
    obtain ⟨o3, ho3, hf⟩ := bnd hf
    refine v_callVi X (ci := 11) (T := TX12) (C := RX12) (As := [.int j2, .int 5]) (rest := []) (ws' := (wX12 ad c9 m_undoable m_undoStart m_thrown m_inputLength m_position m_start m_token m_value m_letters o3.2.1 o3.2.2 m_outputLength m_s m_parsed m_tried m_remembered m_slots m_kept m_away m_input m_halfway m_output)) (c_X12_check l hG D c9 ad m_undoable m_undoStart m_thrown m_inputLength m_position m_start m_token m_value m_letters m_code m_place m_outputLength m_s m_parsed m_tried m_remembered m_slots m_kept m_away m_input m_halfway m_output j2 5 ho3) 2 (gV wm_137 wm_138 wm_139 wm_37 wm_140) rfl rfl rfl ⟨rfl, pd_X12_check⟩ ⟨Nat.le_of_ble_eq_true rfl, Nat.le_of_ble_eq_true rfl⟩ 0 rfl rfl rfl rfl (Nat.le_of_ble_eq_true rfl) ⟨Nat.zero_le _, Nat.zero_le _⟩ [0, 1, 2, 3, 4, 5, 6, 7, 8, 9, 10] [] [0, 1, 2, 3, 4, 5, 6, 7, 8, 9, 10] rfl rfl rfl rfl dX12_readService_18 21 rfl ?_
    refine v_pop X dX12_readService_21 rfl 22 rfl ?_
    refine v_aload_n X dX12_readService_22 0 rfl rfl 23 rfl ?_
    obtain ⟨o4, ho4, hf⟩ := bnd hf
    refine v_callVv X (ci := 11) (T := TX12) (C := RX12) (As := []) (rest := []) (ws' := (wX12 ad c9 m_undoable m_undoStart m_thrown m_inputLength o4.1 o4.2.1 o4.2.2.1 o4.2.2.2.1 o4.2.2.2.2 o3.2.1 o3.2.2 m_outputLength m_s m_parsed m_tried m_remembered m_slots m_kept m_away m_input m_halfway m_output)) (c_X12_next l hG D c9 ad m_undoable m_undoStart m_thrown m_inputLength m_position m_start m_token m_value m_letters o3.2.1 o3.2.2 m_outputLength m_s m_parsed m_tried m_remembered m_slots m_kept m_away m_input m_halfway m_output ho4) 0 (gV wm_141 wm_142 wm_143 wm_37 wm_144) rfl rfl rfl ⟨rfl, pd_X12_next⟩ ⟨Nat.le_of_ble_eq_true rfl, Nat.le_of_ble_eq_true rfl⟩ 0 rfl rfl rfl rfl (Nat.le_of_ble_eq_true rfl) ⟨Nat.zero_le _, Nat.zero_le _⟩ [0, 1, 2, 3, 4, 5, 6, 7, 8, 9, 10] [] [0, 1, 2, 3, 4, 5, 6, 7, 8, 9, 10] rfl rfl rfl rfl dX12_readService_23 26 rfl ?_
    refine v_aload_n X dX12_readService_26 0 rfl rfl 27 rfl ?_
    obtain ⟨o5, ho5, hf⟩ := bnd hf
    refine v_callVi X (ci := 11) (T := TX12) (C := RX12) (As := []) (rest := []) (ws' := (wX12 ad c9 m_undoable m_undoStart m_thrown m_inputLength o5.2.1 o5.2.2.1 o5.2.2.2.1 o5.2.2.2.2.1 o5.2.2.2.2.2.1 o5.2.2.2.2.2.2.1 o5.2.2.2.2.2.2.2 m_outputLength m_s m_parsed m_tried m_remembered m_slots m_kept m_away m_input m_halfway m_output)) (c_X12_newName l hG D c9 ad m_undoable m_undoStart m_thrown m_inputLength o4.1 o4.2.1 o4.2.2.1 o4.2.2.2.1 o4.2.2.2.2 o3.2.1 o3.2.2 m_outputLength m_s m_parsed m_tried m_remembered m_slots m_kept m_away m_input m_halfway m_output ho5) 0 (gV wm_185 wm_186 wm_187 wm_37 wm_188) rfl rfl rfl ⟨rfl, pd_X12_newName⟩ ⟨Nat.le_of_ble_eq_true rfl, Nat.le_of_ble_eq_true rfl⟩ 0 rfl rfl rfl rfl (Nat.le_of_ble_eq_true rfl) ⟨Nat.zero_le _, Nat.zero_le _⟩ [0, 1, 2, 3, 4, 5, 6, 7, 8, 9, 10] [] [0, 1, 2, 3, 4, 5, 6, 7, 8, 9, 10] rfl rfl rfl rfl dX12_readService_27 30 rfl ?_
    refine v_istore_n X (lv' := [(1, .int o5.1), (0, .ref (ad 0))]) dX12_readService_30 rfl (by decide) rfl 31 rfl ?_
    refine v_aload_n X dX12_readService_31 1 rfl rfl 32 rfl ?_
    obtain ⟨o6, ho6, hf⟩ := bnd hf
    refine v_callVi X (ci := 11) (T := TX12) (C := RX12) (As := []) (rest := []) (ws' := (wX12 ad c9 m_undoable m_undoStart m_thrown m_inputLength o6.2.1 o6.2.2.1 o6.2.2.2.1 o6.2.2.2.2.1 o6.2.2.2.2.2.1 o6.2.2.2.2.2.2.1 o6.2.2.2.2.2.2.2 m_outputLength m_s m_parsed m_tried m_remembered m_slots m_kept m_away m_input m_halfway m_output)) (c_X12_realmHere l hG D c9 ad m_undoable m_undoStart m_thrown m_inputLength o5.2.1 o5.2.2.1 o5.2.2.2.1 o5.2.2.2.2.1 o5.2.2.2.2.2.1 o5.2.2.2.2.2.2.1 o5.2.2.2.2.2.2.2 m_outputLength m_s m_parsed m_tried m_remembered m_slots m_kept m_away m_input m_halfway m_output ho6) 0 (gV wm_197 wm_198 wm_199 wm_37 wm_200) rfl rfl rfl ⟨rfl, pd_X12_realmHere⟩ ⟨Nat.le_of_ble_eq_true rfl, Nat.le_of_ble_eq_true rfl⟩ 0 rfl rfl rfl rfl (Nat.le_of_ble_eq_true rfl) ⟨Nat.zero_le _, Nat.zero_le _⟩ [0, 1, 2, 3, 4, 5, 6, 7, 8, 9, 10] [] [0, 1, 2, 3, 4, 5, 6, 7, 8, 9, 10] rfl rfl rfl rfl dX12_readService_32 35 rfl ?_
    refine v_istore_n X (lv' := [(2, .int o6.1), (1, .int o5.1), (0, .ref (ad 0))]) dX12_readService_35 rfl (by decide) rfl 36 rfl ?_
    refine v_aload_n X dX12_readService_36 2 rfl rfl 37 rfl ?_
    refine v_iconst X dX12_readService_37 ic_0 38 rfl ?_
    refine v_bipush X dX12_readService_38 bp_99 40 rfl ?_
    obtain ⟨o7, ho7, hf⟩ := bnd hf
    refine v_callVi X (ci := 11) (T := TX12) (C := RX12) (As := [.int 0, .int 99]) (rest := []) (ws' := (wX12 ad c9 m_undoable m_undoStart m_thrown m_inputLength o7.2.1 o7.2.2.1 o7.2.2.2.1 o7.2.2.2.2.1 o7.2.2.2.2.2.1 o7.2.2.2.2.2.2.1 o7.2.2.2.2.2.2.2 m_outputLength m_s m_parsed m_tried m_remembered m_slots m_kept m_away m_input m_halfway m_output)) (c_X12_number l hG D c9 ad m_undoable m_undoStart m_thrown m_inputLength o6.2.1 o6.2.2.1 o6.2.2.2.1 o6.2.2.2.2.1 o6.2.2.2.2.2.1 o6.2.2.2.2.2.2.1 o6.2.2.2.2.2.2.2 m_outputLength m_s m_parsed m_tried m_remembered m_slots m_kept m_away m_input m_halfway m_output 0 99 ho7) 2 (gV wm_181 wm_182 wm_183 wm_37 wm_184) rfl rfl rfl ⟨rfl, pd_X12_number⟩ ⟨Nat.le_of_ble_eq_true rfl, Nat.le_of_ble_eq_true rfl⟩ 0 rfl rfl rfl rfl (Nat.le_of_ble_eq_true rfl) ⟨Nat.zero_le _, Nat.zero_le _⟩ [0, 1, 2, 3, 4, 5, 6, 7, 8, 9, 10] [] [0, 1, 2, 3, 4, 5, 6, 7, 8, 9, 10] rfl rfl rfl rfl dX12_readService_40 43 rfl ?_
    refine v_istore_n X (lv' := [(3, .int o7.1), (2, .int o6.1), (1, .int o5.1), (0, .ref (ad 0))]) dX12_readService_43 rfl (by decide) rfl 44 rfl ?_
    refine v_aload_n X dX12_readService_44 3 rfl rfl 45 rfl ?_
    obtain ⟨o8, ho8, hf⟩ := bnd hf
    refine v_callVv X (ci := 11) (T := TX12) (C := RX12) (As := []) (rest := []) (ws' := (wX12 ad c9 m_undoable m_undoStart m_thrown m_inputLength o8.1 o8.2.1 o8.2.2.1 o8.2.2.2.1 o8.2.2.2.2.1 o8.2.2.2.2.2.1 o8.2.2.2.2.2.2 m_outputLength m_s m_parsed m_tried m_remembered m_slots m_kept m_away m_input m_halfway m_output)) (c_X12_finish l hG D c9 ad m_undoable m_undoStart m_thrown m_inputLength o7.2.1 o7.2.2.1 o7.2.2.2.1 o7.2.2.2.2.1 o7.2.2.2.2.2.1 o7.2.2.2.2.2.2.1 o7.2.2.2.2.2.2.2 m_outputLength m_s m_parsed m_tried m_remembered m_slots m_kept m_away m_input m_halfway m_output ho8) 0 (gV wm_193 wm_194 wm_195 wm_37 wm_196) rfl rfl rfl ⟨rfl, pd_X12_finish⟩ ⟨Nat.le_of_ble_eq_true rfl, Nat.le_of_ble_eq_true rfl⟩ 0 rfl rfl rfl rfl (Nat.le_of_ble_eq_true rfl) ⟨Nat.zero_le _, Nat.zero_le _⟩ [0, 1, 2, 3, 4, 5, 6, 7, 8, 9, 10] [] [0, 1, 2, 3, 4, 5, 6, 7, 8, 9, 10] rfl rfl rfl rfl dX12_readService_45 48 rfl ?_
    refine v_aload_n X dX12_readService_48 3 rfl rfl 49 rfl ?_
    refine v_get X (C := RX12) (T := TX12) (N := 22) (ci := 11) (v := _) dX12_readService_49 (lay_of laym_X12) 0 rfl rfl 17 (by decide) (mw wm_118) rfl rfl 52 rfl ?_
    refine v_if_ne X (tgt := 117) dX12_readService_52 rfl 55 rfl hf (fun hf => ?_) (fun hf => ?_)
    · obtain rfl := Option.some.inj hf
      exact v_vret X (Nat.zero_le _) (Nat.zero_le _) dX12_readService_117
    · refine v_aload_n X dX12_readService_55 3 rfl rfl 56 rfl ?_
      refine v_get X (C := RX12) (T := TX12) (N := 22) (ci := 11) (v := _) dX12_readService_56 (lay_of laym_X12) 0 rfl rfl 1 (by decide) (mw wm_162) rfl rfl 59 rfl ?_
      refine v_iconst X dX12_readService_59 ic_5 60 rfl ?_
      obtain ⟨x9, hx9, hf⟩ := bnd hf
      refine v_iald X dX12_readService_60 2 0 rfl rfl hx9 61 rfl ?_
      obtain ⟨o10, ho10, hf⟩ := bnd hf
      refine v_callSi X (As := [.int x9]) (rest := []) (ws' := (wX12 ad c9 m_undoable m_undoStart m_thrown m_inputLength o8.1 o8.2.1 o8.2.2.1 o8.2.2.2.1 o8.2.2.2.2.1 o8.2.2.2.2.2.1 o8.2.2.2.2.2.2 m_outputLength m_s m_parsed m_tried m_remembered m_slots m_kept m_away m_input m_halfway m_output)) (c_X12_ofService l hG D c9 x9 ho10) 1 (gS wm_76 wm_77 wm_37 wm_78) rfl rfl rfl pd_X12_ofService ⟨Nat.le_of_ble_eq_true rfl, Nat.le_of_ble_eq_true rfl⟩ rfl rfl (Nat.le_of_ble_eq_true rfl) ⟨Nat.zero_le _, Nat.zero_le _⟩ [] [0, 1, 2, 3, 4, 5, 6, 7, 8, 9, 10] [0, 1, 2, 3, 4, 5, 6, 7, 8, 9, 10] rfl rfl rfl rfl dX12_readService_61 64 rfl ?_
      refine v_istore X (lv' := [(4, .int o10), (3, .int o7.1), (2, .int o6.1), (1, .int o5.1), (0, .ref (ad 0))]) dX12_readService_64 (by decide) rfl 66 rfl ?_
      refine v_aload_n X dX12_readService_66 4 rfl rfl 67 rfl ?_
      refine v_get X (C := RX12) (T := TX12) (N := 22) (ci := 11) (v := _) dX12_readService_67 (lay_of laym_X12) 0 rfl rfl 1 (by decide) (mw wm_162) rfl rfl 70 rfl ?_
      refine v_iload X dX12_readService_70 0 rfl 72 rfl ?_
      refine v_iconst X dX12_readService_72 ic_0 73 rfl ?_
      refine v_iadd X dX12_readService_73 74 rfl ?_
      refine v_iload_n X dX12_readService_74 3 rfl rfl 75 rfl ?_
      obtain ⟨g11, hg11, hf⟩ := bnd hf
      refine v_iast X (ws' := (wX12 ad c9 m_undoable m_undoStart m_thrown m_inputLength o8.1 o8.2.1 o8.2.2.1 o8.2.2.2.1 o8.2.2.2.2.1 o8.2.2.2.2.2.1 o8.2.2.2.2.2.2 m_outputLength m_s g11 m_tried m_remembered m_slots m_kept m_away m_input m_halfway m_output)) dX12_readService_75 2 0 rfl rfl hg11 rfl 76 rfl ?_
      refine v_aload_n X dX12_readService_76 4 rfl rfl 77 rfl ?_
      refine v_get X (C := RX12) (T := TX12) (N := 22) (ci := 11) (v := _) dX12_readService_77 (lay_of laym_X12) 0 rfl rfl 1 (by decide) (mw wm_162) rfl rfl 80 rfl ?_
      refine v_iload X dX12_readService_80 0 rfl 82 rfl ?_
      refine v_iconst X dX12_readService_82 ic_1 83 rfl ?_
      refine v_iadd X dX12_readService_83 84 rfl ?_
      refine v_iload_n X dX12_readService_84 2 rfl rfl 85 rfl ?_
      obtain ⟨g12, hg12, hf⟩ := bnd hf
      refine v_iast X (ws' := (wX12 ad c9 m_undoable m_undoStart m_thrown m_inputLength o8.1 o8.2.1 o8.2.2.1 o8.2.2.2.1 o8.2.2.2.2.1 o8.2.2.2.2.2.1 o8.2.2.2.2.2.2 m_outputLength m_s g12 m_tried m_remembered m_slots m_kept m_away m_input m_halfway m_output)) dX12_readService_85 2 0 rfl rfl hg12 rfl 86 rfl ?_
      refine v_aload_n X dX12_readService_86 4 rfl rfl 87 rfl ?_
      refine v_get X (C := RX12) (T := TX12) (N := 22) (ci := 11) (v := _) dX12_readService_87 (lay_of laym_X12) 0 rfl rfl 1 (by decide) (mw wm_162) rfl rfl 90 rfl ?_
      refine v_iload X dX12_readService_90 0 rfl 92 rfl ?_
      refine v_iconst X dX12_readService_92 ic_2 93 rfl ?_
      refine v_iadd X dX12_readService_93 94 rfl ?_
      refine v_iload_n X dX12_readService_94 1 rfl rfl 95 rfl ?_
      obtain ⟨g13, hg13, hf⟩ := bnd hf
      refine v_iast X (ws' := (wX12 ad c9 m_undoable m_undoStart m_thrown m_inputLength o8.1 o8.2.1 o8.2.2.1 o8.2.2.2.1 o8.2.2.2.2.1 o8.2.2.2.2.2.1 o8.2.2.2.2.2.2 m_outputLength m_s g13 m_tried m_remembered m_slots m_kept m_away m_input m_halfway m_output)) dX12_readService_95 2 0 rfl rfl hg13 rfl 96 rfl ?_
      refine v_aload_n X dX12_readService_96 4 rfl rfl 97 rfl ?_
      refine v_get X (C := RX12) (T := TX12) (N := 22) (ci := 11) (v := _) dX12_readService_97 (lay_of laym_X12) 0 rfl rfl 1 (by decide) (mw wm_162) rfl rfl 100 rfl ?_
      refine v_bipush X dX12_readService_100 bp_9 102 rfl ?_
      refine v_dup2 X dX12_readService_102 rfl rfl 103 rfl ?_
      obtain ⟨x14, hx14, hf⟩ := bnd hf
      refine v_iald X dX12_readService_103 2 0 rfl rfl hx14 104 rfl ?_
      refine v_iload_n X dX12_readService_104 1 rfl rfl 105 rfl ?_
      refine v_iadd X dX12_readService_105 106 rfl ?_
      obtain ⟨g15, hg15, hf⟩ := bnd hf
      refine v_iast X (ws' := (wX12 ad c9 m_undoable m_undoStart m_thrown m_inputLength o8.1 o8.2.1 o8.2.2.1 o8.2.2.2.1 o8.2.2.2.2.1 o8.2.2.2.2.2.1 o8.2.2.2.2.2.2 m_outputLength m_s g15 m_tried m_remembered m_slots m_kept m_away m_input m_halfway m_output)) dX12_readService_106 2 0 rfl rfl hg15 rfl 107 rfl ?_
      refine v_aload_n X dX12_readService_107 4 rfl rfl 108 rfl ?_
      refine v_get X (C := RX12) (T := TX12) (N := 22) (ci := 11) (v := _) dX12_readService_108 (lay_of laym_X12) 0 rfl rfl 1 (by decide) (mw wm_162) rfl rfl 111 rfl ?_
      refine v_iconst X dX12_readService_111 ic_5 112 rfl ?_
      refine v_dup2 X dX12_readService_112 rfl rfl 113 rfl ?_
      obtain ⟨x16, hx16, hf⟩ := bnd hf
      refine v_iald X dX12_readService_113 2 0 rfl rfl hx16 114 rfl ?_
      refine v_iconst X dX12_readService_114 ic_1 115 rfl ?_
      refine v_iadd X dX12_readService_115 116 rfl ?_
      obtain ⟨g17, hg17, hf⟩ := bnd hf
      refine v_iast X (ws' := (wX12 ad c9 m_undoable m_undoStart m_thrown m_inputLength o8.1 o8.2.1 o8.2.2.1 o8.2.2.2.1 o8.2.2.2.2.1 o8.2.2.2.2.2.1 o8.2.2.2.2.2.2 m_outputLength m_s g17 m_tried m_remembered m_slots m_kept m_away m_input m_halfway m_output)) dX12_readService_116 2 0 rfl rfl hg17 rfl 117 rfl ?_
      obtain rfl := Option.some.inj hf
      exact v_vret X (Nat.zero_le _) (Nat.zero_le _) dX12_readService_117
  clear hf
  refine v_icmp_ge X (tgt := 16) dX12_readService_9 rfl 12 rfl hj2 (fun hf => ?_) (fun hf => ?_)
  · refine v_iconst X dX12_readService_16 ic_0 17 rfl ?_
    obtain rfl := Option.some.inj hf
    exact Jj2
  · refine v_iconst X dX12_readService_12 ic_1 13 rfl ?_
    refine v_goto X (tgt := 17) dX12_readService_13 rfl ?_
    obtain rfl := Option.some.inj hf
    exact Jj2
theorem pd_X12_readService : yX12_readService.cls ≠ "java/lang/invoke/MethodHandle" ∧ yX12_readService.cls ≠ "java/lang/invoke/VarHandle" ∧ (parseMethodDescriptor yX12_readService.desc).map (fun d => d.parameters.length) = some 0 := by decide +kernel
def f_X12_readLogin (m_inputLength : Int32) (m_position : Int32) (m_start : Int32) (m_token : Int32) (m_value : Int32) (m_letters : Int32) (m_code : Int32) (m_place : Int32) (m_parsed : Nat → Int32) (m_input : Nat → Int32) : Option (Int32 × Int32 × Int32 × Int32 × Int32 × Int32 × Int32 × (Nat → Int32)) :=
  (f_X12_next m_inputLength m_position m_start m_token m_value m_letters m_code m_input).bind fun o1 =>
  (f_X12_userHere m_inputLength o1.1 o1.2.1 o1.2.2.1 o1.2.2.2.1 o1.2.2.2.2 m_code m_place m_parsed m_input).bind fun o2 =>
  (f_X12_number m_inputLength o2.2.1 o2.2.2.1 o2.2.2.2.1 o2.2.2.2.2.1 o2.2.2.2.2.2.1 o2.2.2.2.2.2.2.1 o2.2.2.2.2.2.2.2 m_input 0 9999).bind fun o3 =>
  Option.bind (if o3.2.2.2.2.2.2.1 = 0 then (
    (f_X12_is o3.2.2.1 o3.2.2.2.1 o3.2.2.2.2.2.1 m_input 9).bind fun o5 =>
    if o5 = 0 then (
      some (0))
    else (
      some (1)))
  else (
    some (0)) : Option (Int32)) fun j4 =>
  Option.bind (if j4 = 0 then (
    some (o3.2.1, o3.2.2.1, o3.2.2.2.1, o3.2.2.2.2.1, o3.2.2.2.2.2.1))
  else (
    (f_X12_next m_inputLength o3.2.1 o3.2.2.1 o3.2.2.2.1 o3.2.2.2.2.1 o3.2.2.2.2.2.1 o3.2.2.2.2.2.2.1 m_input).bind fun o7 =>
    some (o7.1, o7.2.1, o7.2.2.1, o7.2.2.2.1, o7.2.2.2.2)) : Option (Int32 × Int32 × Int32 × Int32 × Int32)) fun j6 =>
  Option.bind (if o3.2.2.2.2.2.2.1 = 0 then (
    (f_X12_whyNotLogin m_parsed o2.1 o3.1).bind fun o9 =>
    if o9 = 0 then (
      some (0))
    else (
      some (1)))
  else (
    some (0)) : Option (Int32)) fun j8 =>
  (f_X12_mayDo j6.2.1 j6.2.2.1 o3.2.2.2.2.2.2.1 o3.2.2.2.2.2.2.2 m_input j8).bind fun o10 =>
  if o10.1 = 0 then (
    (f_X12_next m_inputLength j6.1 j6.2.1 j6.2.2.1 j6.2.2.2.1 j6.2.2.2.2 o10.2.1 m_input).bind fun o11 =>
    some (o11.1, o11.2.1, o11.2.2.1, o11.2.2.2.1, o11.2.2.2.2, o10.2.1, o10.2.2, m_parsed))
  else (
    (f_X12_enters m_parsed o2.1 j4).bind fun o12 =>
    if 0 ≤ o12.1 then (
      (f_X12_next m_inputLength j6.1 j6.2.1 j6.2.2.1 j6.2.2.2.1 j6.2.2.2.2 o10.2.1 m_input).bind fun o13 =>
      some (o13.1, o13.2.1, o13.2.2.1, o13.2.2.2.1, o13.2.2.2.2, o10.2.1, o10.2.2, o12.2))
    else (
      (f_X12_next m_inputLength j6.1 j6.2.1 j6.2.2.1 j6.2.2.2.1 j6.2.2.2.2 1 m_input).bind fun o14 =>
      some (o14.1, o14.2.1, o14.2.2.1, o14.2.2.2.1, o14.2.2.2.2, 1, o10.2.2, o12.2)))
set_option maxRecDepth 100000 in
set_option maxHeartbeats 4000000 in
theorem c_X12_readLogin (l : Launch) {G : (Nat → Prop) → State → Heap → Prop} (hG : vG G) (D : va_G) (c9 : Nat → ClassId) (sk sv : Nat → Nat) (hGU : ∀ (A : Nat → Prop) (U : State) (H : Heap), G A U H → vU sk sv A U H) (ad : Nat → Nat) (m_undoable : Int32) (m_undoStart : Int32) (m_thrown : Int32) (m_inputLength : Int32) (m_position : Int32) (m_start : Int32) (m_token : Int32) (m_value : Int32) (m_letters : Int32) (m_code : Int32) (m_place : Int32) (m_outputLength : Int32) (m_s : Nat → Int32) (m_parsed : Nat → Int32) (m_tried : Nat → Int32) (m_remembered : Nat → Int32) (m_slots : Nat → Int32) (m_kept : Nat → Int32) (m_away : Nat → Int32) (m_input : Nat → Int32) (m_halfway : Nat → Int32) (m_output : Nat → Int32)  {o : Int32 × Int32 × Int32 × Int32 × Int32 × Int32 × Int32 × (Nat → Int32)} (hf : f_X12_readLogin m_inputLength m_position m_start m_token m_value m_letters m_code m_place m_parsed m_input = some o) : mV l yX12_readLogin (wq yX12_readLogin cX12_readLogin 4 none) { frames := 6, cells := 0, slots := 0, locals := 172 } G D (tyA c9) [.ref (ad 0)] (wX12 ad c9 m_undoable m_undoStart m_thrown m_inputLength m_position m_start m_token m_value m_letters m_code m_place m_outputLength m_s m_parsed m_tried m_remembered m_slots m_kept m_away m_input m_halfway m_output) [] 0 0 (wX12 ad c9 m_undoable m_undoStart m_thrown m_inputLength o.1 o.2.1 o.2.2.1 o.2.2.2.1 o.2.2.2.2.1 o.2.2.2.2.2.1 o.2.2.2.2.2.2.1 m_outputLength m_s o.2.2.2.2.2.2.2 m_tried m_remembered m_slots m_kept m_away m_input m_halfway m_output) := by
  refine mV_of hG (cc := cX12_readLogin) (maxL := 4) (by decide) rfl (Nat.le_of_ble_eq_true rfl) ?_
  intro p e s m args below meth c A hnm X
  have X : vX p s m args meth c cX12_readLogin 4 none RX12 (wq yX12_readLogin cX12_readLogin 4 none) D (tyA c9) G A := X
  refine v_eq (lv2 := [(0, .ref (ad 0))]) rfl rfl rfl rfl ?_
  rw [f_X12_readLogin] at hf
  refine v_aload_n X dX12_readLogin_0 0 rfl rfl 1 rfl ?_
  obtain ⟨o1, ho1, hf⟩ := bnd hf
  refine v_callVv X (ci := 11) (T := TX12) (C := RX12) (As := []) (rest := []) (ws' := (wX12 ad c9 m_undoable m_undoStart m_thrown m_inputLength o1.1 o1.2.1 o1.2.2.1 o1.2.2.2.1 o1.2.2.2.2 m_code m_place m_outputLength m_s m_parsed m_tried m_remembered m_slots m_kept m_away m_input m_halfway m_output)) (c_X12_next l hG D c9 ad m_undoable m_undoStart m_thrown m_inputLength m_position m_start m_token m_value m_letters m_code m_place m_outputLength m_s m_parsed m_tried m_remembered m_slots m_kept m_away m_input m_halfway m_output ho1) 0 (gV wm_141 wm_142 wm_143 wm_37 wm_144) rfl rfl rfl ⟨rfl, pd_X12_next⟩ ⟨Nat.le_of_ble_eq_true rfl, Nat.le_of_ble_eq_true rfl⟩ 0 rfl rfl rfl rfl (Nat.le_of_ble_eq_true rfl) ⟨Nat.zero_le _, Nat.zero_le _⟩ [0, 1, 2, 3, 4, 5, 6, 7, 8, 9, 10] [] [0, 1, 2, 3, 4, 5, 6, 7, 8, 9, 10] rfl rfl rfl rfl dX12_readLogin_1 4 rfl ?_
  refine v_aload_n X dX12_readLogin_4 0 rfl rfl 5 rfl ?_
  obtain ⟨o2, ho2, hf⟩ := bnd hf
  refine v_callVi X (ci := 11) (T := TX12) (C := RX12) (As := []) (rest := []) (ws' := (wX12 ad c9 m_undoable m_undoStart m_thrown m_inputLength o2.2.1 o2.2.2.1 o2.2.2.2.1 o2.2.2.2.2.1 o2.2.2.2.2.2.1 o2.2.2.2.2.2.2.1 o2.2.2.2.2.2.2.2 m_outputLength m_s m_parsed m_tried m_remembered m_slots m_kept m_away m_input m_halfway m_output)) (c_X12_userHere l hG D c9 ad m_undoable m_undoStart m_thrown m_inputLength o1.1 o1.2.1 o1.2.2.1 o1.2.2.2.1 o1.2.2.2.2 m_code m_place m_outputLength m_s m_parsed m_tried m_remembered m_slots m_kept m_away m_input m_halfway m_output ho2) 0 (gV wm_205 wm_206 wm_207 wm_37 wm_208) rfl rfl rfl ⟨rfl, pd_X12_userHere⟩ ⟨Nat.le_of_ble_eq_true rfl, Nat.le_of_ble_eq_true rfl⟩ 0 rfl rfl rfl rfl (Nat.le_of_ble_eq_true rfl) ⟨Nat.zero_le _, Nat.zero_le _⟩ [0, 1, 2, 3, 4, 5, 6, 7, 8, 9, 10] [] [0, 1, 2, 3, 4, 5, 6, 7, 8, 9, 10] rfl rfl rfl rfl dX12_readLogin_5 8 rfl ?_
  refine v_istore_n X (lv' := [(1, .int o2.1), (0, .ref (ad 0))]) dX12_readLogin_8 rfl (by decide) rfl 9 rfl ?_
  refine v_aload_n X dX12_readLogin_9 1 rfl rfl 10 rfl ?_
  refine v_iconst X dX12_readLogin_10 ic_0 11 rfl ?_
  refine v_sipush X dX12_readLogin_11 sp_9999 14 rfl ?_
  obtain ⟨o3, ho3, hf⟩ := bnd hf
  refine v_callVi X (ci := 11) (T := TX12) (C := RX12) (As := [.int 0, .int 9999]) (rest := []) (ws' := (wX12 ad c9 m_undoable m_undoStart m_thrown m_inputLength o3.2.1 o3.2.2.1 o3.2.2.2.1 o3.2.2.2.2.1 o3.2.2.2.2.2.1 o3.2.2.2.2.2.2.1 o3.2.2.2.2.2.2.2 m_outputLength m_s m_parsed m_tried m_remembered m_slots m_kept m_away m_input m_halfway m_output)) (c_X12_number l hG D c9 ad m_undoable m_undoStart m_thrown m_inputLength o2.2.1 o2.2.2.1 o2.2.2.2.1 o2.2.2.2.2.1 o2.2.2.2.2.2.1 o2.2.2.2.2.2.2.1 o2.2.2.2.2.2.2.2 m_outputLength m_s m_parsed m_tried m_remembered m_slots m_kept m_away m_input m_halfway m_output 0 9999 ho3) 2 (gV wm_181 wm_182 wm_183 wm_37 wm_184) rfl rfl rfl ⟨rfl, pd_X12_number⟩ ⟨Nat.le_of_ble_eq_true rfl, Nat.le_of_ble_eq_true rfl⟩ 0 rfl rfl rfl rfl (Nat.le_of_ble_eq_true rfl) ⟨Nat.zero_le _, Nat.zero_le _⟩ [0, 1, 2, 3, 4, 5, 6, 7, 8, 9, 10] [] [0, 1, 2, 3, 4, 5, 6, 7, 8, 9, 10] rfl rfl rfl rfl dX12_readLogin_14 17 rfl ?_
  refine v_istore_n X (lv' := [(2, .int o3.1), (1, .int o2.1), (0, .ref (ad 0))]) dX12_readLogin_17 rfl (by decide) rfl 18 rfl ?_
  refine v_aload_n X dX12_readLogin_18 2 rfl rfl 19 rfl ?_
  refine v_get X (C := RX12) (T := TX12) (N := 22) (ci := 11) (v := _) dX12_readLogin_19 (lay_of laym_X12) 0 rfl rfl 17 (by decide) (mw wm_118) rfl rfl 22 rfl ?_
  obtain ⟨j4, hj4, hf⟩ := bnd hf
  have Jj4 : vW p l e { frames := 6, cells := 0, slots := 0, locals := 172 } s m args below meth c 4 D A [] 0 0 (MQ below (eV D (tyA c9) A ((wX12 ad c9 m_undoable m_undoStart m_thrown m_inputLength o.1 o.2.1 o.2.2.1 o.2.2.2.1 o.2.2.2.2.1 o.2.2.2.2.2.1 o.2.2.2.2.2.2.1 m_outputLength m_s o.2.2.2.2.2.2.2 m_tried m_remembered m_slots m_kept m_away m_input m_halfway m_output) ++ [])) args s 0 0 A) (wX12 ad c9 m_undoable m_undoStart m_thrown m_inputLength o3.2.1 o3.2.2.1 o3.2.2.2.1 o3.2.2.2.2.1 o3.2.2.2.2.2.1 o3.2.2.2.2.2.2.1 o3.2.2.2.2.2.2.2 m_outputLength m_s m_parsed m_tried m_remembered m_slots m_kept m_away m_input m_halfway m_output) 40 [(0, .ref (ad 0)), (1, .int o2.1), (2, .int o3.1)] [.int j4] := by
    refine v_istore_n X (lv' := [(3, .int j4), (0, .ref (ad 0)), (1, .int o2.1), (2, .int o3.1)]) dX12_readLogin_40 rfl (by decide) rfl 41 rfl ?_
    refine v_iload_n X dX12_readLogin_41 0 rfl rfl 42 rfl ?_
    obtain ⟨j6, hj6, hf⟩ := bnd hf
    have Jj6 : vW p l e { frames := 6, cells := 0, slots := 0, locals := 172 } s m args below meth c 4 D A [] 0 0 (MQ below (eV D (tyA c9) A ((wX12 ad c9 m_undoable m_undoStart m_thrown m_inputLength o.1 o.2.1 o.2.2.1 o.2.2.2.1 o.2.2.2.2.1 o.2.2.2.2.2.1 o.2.2.2.2.2.2.1 m_outputLength m_s o.2.2.2.2.2.2.2 m_tried m_remembered m_slots m_kept m_away m_input m_halfway m_output) ++ [])) args s 0 0 A) (wX12 ad c9 m_undoable m_undoStart m_thrown m_inputLength j6.1 j6.2.1 j6.2.2.1 j6.2.2.2.1 j6.2.2.2.2 o3.2.2.2.2.2.2.1 o3.2.2.2.2.2.2.2 m_outputLength m_s m_parsed m_tried m_remembered m_slots m_kept m_away m_input m_halfway m_output) 49 [(0, .ref (ad 0)), (1, .int o2.1), (2, .int o3.1), (3, .int j4)] [] := by
      refine v_aload_n X dX12_readLogin_49 0 rfl rfl 50 rfl ?_
      refine v_aload_n X dX12_readLogin_50 0 rfl rfl 51 rfl ?_
      refine v_get X (C := RX12) (T := TX12) (N := 22) (ci := 11) (v := _) dX12_readLogin_51 (lay_of laym_X12) 0 rfl rfl 17 (by decide) (mw wm_118) rfl rfl 54 rfl ?_
      obtain ⟨j8, hj8, hf⟩ := bnd hf
      have Jj8 : vW p l e { frames := 6, cells := 0, slots := 0, locals := 172 } s m args below meth c 4 D A [] 0 0 (MQ below (eV D (tyA c9) A ((wX12 ad c9 m_undoable m_undoStart m_thrown m_inputLength o.1 o.2.1 o.2.2.1 o.2.2.2.1 o.2.2.2.2.1 o.2.2.2.2.2.1 o.2.2.2.2.2.2.1 m_outputLength m_s o.2.2.2.2.2.2.2 m_tried m_remembered m_slots m_kept m_away m_input m_halfway m_output) ++ [])) args s 0 0 A) (wX12 ad c9 m_undoable m_undoStart m_thrown m_inputLength j6.1 j6.2.1 j6.2.2.1 j6.2.2.2.1 j6.2.2.2.2 o3.2.2.2.2.2.2.1 o3.2.2.2.2.2.2.2 m_outputLength m_s m_parsed m_tried m_remembered m_slots m_kept m_away m_input m_halfway m_output) 74 [(0, .ref (ad 0)), (1, .int o2.1), (3, .int j4)] [.int j8, .ref (ad 0)] := by
        obtain ⟨o10, ho10, hf⟩ := bnd hf
        refine v_callVi X (ci := 11) (T := TX12) (C := RX12) (As := [.int j8]) (rest := []) (ws' := (wX12 ad c9 m_undoable m_undoStart m_thrown m_inputLength j6.1 j6.2.1 j6.2.2.1 j6.2.2.2.1 j6.2.2.2.2 o10.2.1 o10.2.2 m_outputLength m_s m_parsed m_tried m_remembered m_slots m_kept m_away m_input m_halfway m_output)) (c_X12_mayDo l hG D c9 ad m_undoable m_undoStart m_thrown m_inputLength j6.1 j6.2.1 j6.2.2.1 j6.2.2.2.1 j6.2.2.2.2 o3.2.2.2.2.2.2.1 o3.2.2.2.2.2.2.2 m_outputLength m_s m_parsed m_tried m_remembered m_slots m_kept m_away m_input m_halfway m_output j8 ho10) 1 (gV wm_201 wm_202 wm_203 wm_37 wm_204) rfl rfl rfl ⟨rfl, pd_X12_mayDo⟩ ⟨Nat.le_of_ble_eq_true rfl, Nat.le_of_ble_eq_true rfl⟩ 0 rfl rfl rfl rfl (Nat.le_of_ble_eq_true rfl) ⟨Nat.zero_le _, Nat.zero_le _⟩ [0, 1, 2, 3, 4, 5, 6, 7, 8, 9, 10] [] [0, 1, 2, 3, 4, 5, 6, 7, 8, 9, 10] rfl rfl rfl rfl dX12_readLogin_74 77 rfl ?_
        refine v_if_eq X (tgt := 97) dX12_readLogin_77 rfl 80 rfl hf (fun hf => ?_) (fun hf => ?_)
        · refine v_aload_n X dX12_readLogin_97 0 rfl rfl 98 rfl ?_
          obtain ⟨o11, ho11, hf⟩ := bnd hf
          refine v_callVv X (ci := 11) (T := TX12) (C := RX12) (As := []) (rest := []) (ws' := (wX12 ad c9 m_undoable m_undoStart m_thrown m_inputLength o11.1 o11.2.1 o11.2.2.1 o11.2.2.2.1 o11.2.2.2.2 o10.2.1 o10.2.2 m_outputLength m_s m_parsed m_tried m_remembered m_slots m_kept m_away m_input m_halfway m_output)) (c_X12_next l hG D c9 ad m_undoable m_undoStart m_thrown m_inputLength j6.1 j6.2.1 j6.2.2.1 j6.2.2.2.1 j6.2.2.2.2 o10.2.1 o10.2.2 m_outputLength m_s m_parsed m_tried m_remembered m_slots m_kept m_away m_input m_halfway m_output ho11) 0 (gV wm_141 wm_142 wm_143 wm_37 wm_144) rfl rfl rfl ⟨rfl, pd_X12_next⟩ ⟨Nat.le_of_ble_eq_true rfl, Nat.le_of_ble_eq_true rfl⟩ 0 rfl rfl rfl rfl (Nat.le_of_ble_eq_true rfl) ⟨Nat.zero_le _, Nat.zero_le _⟩ [0, 1, 2, 3, 4, 5, 6, 7, 8, 9, 10] [] [0, 1, 2, 3, 4, 5, 6, 7, 8, 9, 10] rfl rfl rfl rfl dX12_readLogin_98 101 rfl ?_
          obtain rfl := Option.some.inj hf
          exact v_vret X (Nat.zero_le _) (Nat.zero_le _) dX12_readLogin_101
        · refine v_aload_n X dX12_readLogin_80 0 rfl rfl 81 rfl ?_
          refine v_get X (C := RX12) (T := TX12) (N := 22) (ci := 11) (v := _) dX12_readLogin_81 (lay_of laym_X12) 0 rfl rfl 1 (by decide) (mw wm_162) rfl rfl 84 rfl ?_
          refine v_iload_n X dX12_readLogin_84 1 rfl rfl 85 rfl ?_
          refine v_iload_n X dX12_readLogin_85 2 rfl rfl 86 rfl ?_
          obtain ⟨o12, ho12, hf⟩ := bnd hf
          refine v_callSi X (As := [.ref (ad 2), .int o2.1, .int j4]) (rest := []) (ws' := (wX12 ad c9 m_undoable m_undoStart m_thrown m_inputLength j6.1 j6.2.1 j6.2.2.1 j6.2.2.2.1 j6.2.2.2.2 o10.2.1 o10.2.2 m_outputLength m_s o12.2 m_tried m_remembered m_slots m_kept m_away m_input m_halfway m_output)) (c_X12_enters l hG D c9 (ad 2) m_parsed o2.1 j4 ho12) 3 (gS wm_212 wm_213 wm_37 wm_214) rfl rfl rfl pd_X12_enters ⟨Nat.le_of_ble_eq_true rfl, Nat.le_of_ble_eq_true rfl⟩ rfl rfl (Nat.le_of_ble_eq_true rfl) ⟨Nat.zero_le _, Nat.zero_le _⟩ [2] [0, 1, 3, 4, 5, 6, 7, 8, 9, 10] [0, 1, 10, 2, 3, 4, 5, 6, 7, 8, 9] rfl rfl rfl rfl dX12_readLogin_86 89 rfl ?_
          refine v_if_ge X (tgt := 97) dX12_readLogin_89 rfl 92 rfl hf (fun hf => ?_) (fun hf => ?_)
          · refine v_aload_n X dX12_readLogin_97 0 rfl rfl 98 rfl ?_
            obtain ⟨o13, ho13, hf⟩ := bnd hf
            refine v_callVv X (ci := 11) (T := TX12) (C := RX12) (As := []) (rest := []) (ws' := (wX12 ad c9 m_undoable m_undoStart m_thrown m_inputLength o13.1 o13.2.1 o13.2.2.1 o13.2.2.2.1 o13.2.2.2.2 o10.2.1 o10.2.2 m_outputLength m_s o12.2 m_tried m_remembered m_slots m_kept m_away m_input m_halfway m_output)) (c_X12_next l hG D c9 ad m_undoable m_undoStart m_thrown m_inputLength j6.1 j6.2.1 j6.2.2.1 j6.2.2.2.1 j6.2.2.2.2 o10.2.1 o10.2.2 m_outputLength m_s o12.2 m_tried m_remembered m_slots m_kept m_away m_input m_halfway m_output ho13) 0 (gV wm_141 wm_142 wm_143 wm_37 wm_144) rfl rfl rfl ⟨rfl, pd_X12_next⟩ ⟨Nat.le_of_ble_eq_true rfl, Nat.le_of_ble_eq_true rfl⟩ 0 rfl rfl rfl rfl (Nat.le_of_ble_eq_true rfl) ⟨Nat.zero_le _, Nat.zero_le _⟩ [0, 1, 2, 3, 4, 5, 6, 7, 8, 9, 10] [] [0, 1, 2, 3, 4, 5, 6, 7, 8, 9, 10] rfl rfl rfl rfl dX12_readLogin_98 101 rfl ?_
            obtain rfl := Option.some.inj hf
            exact v_vret X (Nat.zero_le _) (Nat.zero_le _) dX12_readLogin_101
          · refine v_aload_n X dX12_readLogin_92 0 rfl rfl 93 rfl ?_
            refine v_iconst X dX12_readLogin_93 ic_1 94 rfl ?_
            refine v_put X (C := RX12) (T := TX12) (N := 22) (ci := 11) (ty := tyX12 17) (ws' := (wX12 ad c9 m_undoable m_undoStart m_thrown m_inputLength j6.1 j6.2.1 j6.2.2.1 j6.2.2.2.1 j6.2.2.2.2 1 o10.2.2 m_outputLength m_s o12.2 m_tried m_remembered m_slots m_kept m_away m_input m_halfway m_output)) dX12_readLogin_94 (lay_of laym_X12) 0 rfl rfl 17 (by decide) tyX12 tyX12_ok nmX12 (mw wm_118) rfl rfl (tyX12_ok 17 (by decide)) rfl rfl (Nat.le_of_ble_eq_true rfl) rfl 97 rfl ?_
            refine v_aload_n X dX12_readLogin_97 0 rfl rfl 98 rfl ?_
            obtain ⟨o14, ho14, hf⟩ := bnd hf
            refine v_callVv X (ci := 11) (T := TX12) (C := RX12) (As := []) (rest := []) (ws' := (wX12 ad c9 m_undoable m_undoStart m_thrown m_inputLength o14.1 o14.2.1 o14.2.2.1 o14.2.2.2.1 o14.2.2.2.2 1 o10.2.2 m_outputLength m_s o12.2 m_tried m_remembered m_slots m_kept m_away m_input m_halfway m_output)) (c_X12_next l hG D c9 ad m_undoable m_undoStart m_thrown m_inputLength j6.1 j6.2.1 j6.2.2.1 j6.2.2.2.1 j6.2.2.2.2 1 o10.2.2 m_outputLength m_s o12.2 m_tried m_remembered m_slots m_kept m_away m_input m_halfway m_output ho14) 0 (gV wm_141 wm_142 wm_143 wm_37 wm_144) rfl rfl rfl ⟨rfl, pd_X12_next⟩ ⟨Nat.le_of_ble_eq_true rfl, Nat.le_of_ble_eq_true rfl⟩ 0 rfl rfl rfl rfl (Nat.le_of_ble_eq_true rfl) ⟨Nat.zero_le _, Nat.zero_le _⟩ [0, 1, 2, 3, 4, 5, 6, 7, 8, 9, 10] [] [0, 1, 2, 3, 4, 5, 6, 7, 8, 9, 10] rfl rfl rfl rfl dX12_readLogin_98 101 rfl ?_
            obtain rfl := Option.some.inj hf
            exact v_vret X (Nat.zero_le _) (Nat.zero_le _) dX12_readLogin_101
      clear hf
      refine v_if_ne X (tgt := 73) dX12_readLogin_54 rfl 57 rfl hj8 (fun hf => ?_) (fun hf => ?_)
      · refine v_iconst X dX12_readLogin_73 ic_0 74 rfl ?_
        obtain rfl := Option.some.inj hf
        refine v_sub (lv' := [(0, .ref (ad 0)), (1, .int o2.1), (3, .int j4)]) [0, 1, 3] rfl ?_
        exact Jj8
      · refine v_aload_n X dX12_readLogin_57 0 rfl rfl 58 rfl ?_
        refine v_get X (C := RX12) (T := TX12) (N := 22) (ci := 11) (v := _) dX12_readLogin_58 (lay_of laym_X12) 0 rfl rfl 1 (by decide) (mw wm_162) rfl rfl 61 rfl ?_
        refine v_iload_n X dX12_readLogin_61 1 rfl rfl 62 rfl ?_
        refine v_iload_n X dX12_readLogin_62 2 rfl rfl 63 rfl ?_
        obtain ⟨o9, ho9, hf⟩ := bnd hf
        refine v_callSi X (As := [.ref (ad 2), .int o2.1, .int o3.1]) (rest := [.ref (ad 0)]) (ws' := (wX12 ad c9 m_undoable m_undoStart m_thrown m_inputLength j6.1 j6.2.1 j6.2.2.1 j6.2.2.2.1 j6.2.2.2.2 o3.2.2.2.2.2.2.1 o3.2.2.2.2.2.2.2 m_outputLength m_s m_parsed m_tried m_remembered m_slots m_kept m_away m_input m_halfway m_output)) (c_X12_whyNotLogin l hG D c9 (ad 2) m_parsed o2.1 o3.1 ho9) 3 (gS wm_209 wm_210 wm_37 wm_211) rfl rfl rfl pd_X12_whyNotLogin ⟨Nat.le_of_ble_eq_true rfl, Nat.le_of_ble_eq_true rfl⟩ rfl rfl (Nat.le_of_ble_eq_true rfl) ⟨Nat.zero_le _, Nat.zero_le _⟩ [2] [0, 1, 3, 4, 5, 6, 7, 8, 9, 10] [0, 1, 10, 2, 3, 4, 5, 6, 7, 8, 9] rfl rfl rfl rfl dX12_readLogin_63 66 rfl ?_
        refine v_if_eq X (tgt := 73) dX12_readLogin_66 rfl 69 rfl hf (fun hf => ?_) (fun hf => ?_)
        · refine v_iconst X dX12_readLogin_73 ic_0 74 rfl ?_
          obtain rfl := Option.some.inj hf
          refine v_sub (lv' := [(0, .ref (ad 0)), (1, .int o2.1), (3, .int j4)]) [0, 1, 3] rfl ?_
          exact Jj8
        · refine v_iconst X dX12_readLogin_69 ic_1 70 rfl ?_
          refine v_goto X (tgt := 74) dX12_readLogin_70 rfl ?_
          obtain rfl := Option.some.inj hf
          refine v_sub (lv' := [(0, .ref (ad 0)), (1, .int o2.1), (3, .int j4)]) [0, 1, 3] rfl ?_
          exact Jj8
    clear hf
    refine v_if_eq X (tgt := 49) dX12_readLogin_42 rfl 45 rfl hj6 (fun hf => ?_) (fun hf => ?_)
    · obtain rfl := Option.some.inj hf
      refine v_sub (lv' := [(0, .ref (ad 0)), (1, .int o2.1), (2, .int o3.1), (3, .int j4)]) [1, 2, 3, 0] rfl ?_
      exact Jj6
    · refine v_aload_n X dX12_readLogin_45 1 rfl rfl 46 rfl ?_
      obtain ⟨o7, ho7, hf⟩ := bnd hf
      refine v_callVv X (ci := 11) (T := TX12) (C := RX12) (As := []) (rest := []) (ws' := (wX12 ad c9 m_undoable m_undoStart m_thrown m_inputLength o7.1 o7.2.1 o7.2.2.1 o7.2.2.2.1 o7.2.2.2.2 o3.2.2.2.2.2.2.1 o3.2.2.2.2.2.2.2 m_outputLength m_s m_parsed m_tried m_remembered m_slots m_kept m_away m_input m_halfway m_output)) (c_X12_next l hG D c9 ad m_undoable m_undoStart m_thrown m_inputLength o3.2.1 o3.2.2.1 o3.2.2.2.1 o3.2.2.2.2.1 o3.2.2.2.2.2.1 o3.2.2.2.2.2.2.1 o3.2.2.2.2.2.2.2 m_outputLength m_s m_parsed m_tried m_remembered m_slots m_kept m_away m_input m_halfway m_output ho7) 0 (gV wm_141 wm_142 wm_143 wm_37 wm_144) rfl rfl rfl ⟨rfl, pd_X12_next⟩ ⟨Nat.le_of_ble_eq_true rfl, Nat.le_of_ble_eq_true rfl⟩ 0 rfl rfl rfl rfl (Nat.le_of_ble_eq_true rfl) ⟨Nat.zero_le _, Nat.zero_le _⟩ [0, 1, 2, 3, 4, 5, 6, 7, 8, 9, 10] [] [0, 1, 2, 3, 4, 5, 6, 7, 8, 9, 10] rfl rfl rfl rfl dX12_readLogin_46 49 rfl ?_
      obtain rfl := Option.some.inj hf
      refine v_sub (lv' := [(0, .ref (ad 0)), (1, .int o2.1), (2, .int o3.1), (3, .int j4)]) [1, 2, 3, 0] rfl ?_
      exact Jj6
  clear hf
  refine v_if_ne X (tgt := 39) dX12_readLogin_22 rfl 25 rfl hj4 (fun hf => ?_) (fun hf => ?_)
  · refine v_iconst X dX12_readLogin_39 ic_0 40 rfl ?_
    obtain rfl := Option.some.inj hf
    refine v_sub (lv' := [(0, .ref (ad 0)), (1, .int o2.1), (2, .int o3.1)]) [2, 1, 0] rfl ?_
    exact Jj4
  · refine v_aload_n X dX12_readLogin_25 2 rfl rfl 26 rfl ?_
    refine v_ldsw X hGU (i := 9) dX12_readLogin_26 js_RX12_261 29 rfl ?_
    obtain ⟨o5, ho5, hf⟩ := bnd hf
    refine v_callVi X (ci := 11) (T := TX12) (C := RX12) (As := [.ref (sk 9)]) (rest := []) (ws' := (wX12 ad c9 m_undoable m_undoStart m_thrown m_inputLength o3.2.1 o3.2.2.1 o3.2.2.2.1 o3.2.2.2.2.1 o3.2.2.2.2.2.1 o3.2.2.2.2.2.2.1 o3.2.2.2.2.2.2.2 m_outputLength m_s m_parsed m_tried m_remembered m_slots m_kept m_away m_input m_halfway m_output)) (c_X12_is l hG D c9 sk sv hGU ad m_undoable m_undoStart m_thrown m_inputLength o3.2.1 o3.2.2.1 o3.2.2.2.1 o3.2.2.2.2.1 o3.2.2.2.2.2.1 o3.2.2.2.2.2.2.1 o3.2.2.2.2.2.2.2 m_outputLength m_s m_parsed m_tried m_remembered m_slots m_kept m_away m_input m_halfway m_output 9 (by decide) ho5) 1 (gV wm_177 wm_178 wm_179 wm_37 wm_180) rfl rfl rfl ⟨rfl, pd_X12_is⟩ ⟨Nat.le_of_ble_eq_true rfl, Nat.le_of_ble_eq_true rfl⟩ 0 rfl rfl rfl rfl (Nat.le_of_ble_eq_true rfl) ⟨Nat.zero_le _, Nat.zero_le _⟩ [0, 1, 2, 3, 4, 5, 6, 7, 8, 9, 10] [] [0, 1, 2, 3, 4, 5, 6, 7, 8, 9, 10] rfl rfl rfl rfl dX12_readLogin_29 32 rfl ?_
    refine v_if_eq X (tgt := 39) dX12_readLogin_32 rfl 35 rfl hf (fun hf => ?_) (fun hf => ?_)
    · refine v_iconst X dX12_readLogin_39 ic_0 40 rfl ?_
      obtain rfl := Option.some.inj hf
      refine v_sub (lv' := [(0, .ref (ad 0)), (1, .int o2.1), (2, .int o3.1)]) [2, 1, 0] rfl ?_
      exact Jj4
    · refine v_iconst X dX12_readLogin_35 ic_1 36 rfl ?_
      refine v_goto X (tgt := 40) dX12_readLogin_36 rfl ?_
      obtain rfl := Option.some.inj hf
      refine v_sub (lv' := [(0, .ref (ad 0)), (1, .int o2.1), (2, .int o3.1)]) [2, 1, 0] rfl ?_
      exact Jj4
theorem pd_X12_readLogin : yX12_readLogin.cls ≠ "java/lang/invoke/MethodHandle" ∧ yX12_readLogin.cls ≠ "java/lang/invoke/VarHandle" ∧ (parseMethodDescriptor yX12_readLogin.desc).map (fun d => d.parameters.length) = some 0 := by decide +kernel
def f_X12_readRefer (m_inputLength : Int32) (m_position : Int32) (m_start : Int32) (m_token : Int32) (m_value : Int32) (m_letters : Int32) (m_code : Int32) (m_place : Int32) (m_parsed : Nat → Int32) (m_input : Nat → Int32) : Option (Int32 × Int32 × Int32 × Int32 × Int32 × Int32 × Int32 × (Nat → Int32)) :=
  (f_X12_next m_inputLength m_position m_start m_token m_value m_letters m_code m_input).bind fun o1 =>
  (f_X12_ticketHere m_inputLength o1.1 o1.2.1 o1.2.2.1 o1.2.2.2.1 o1.2.2.2.2 m_code m_place m_parsed m_input).bind fun o2 =>
  (f_X12_realmHere m_inputLength o2.2.1 o2.2.2.1 o2.2.2.2.1 o2.2.2.2.2.1 o2.2.2.2.2.2.1 o2.2.2.2.2.2.2.1 o2.2.2.2.2.2.2.2 m_parsed m_input).bind fun o3 =>
  Option.bind (if o3.2.2.2.2.2.2.1 = 0 then (
    (f_X12_whyNotRefer m_parsed o2.1 o3.1).bind fun o5 =>
    if o5 = 0 then (
      some (0))
    else (
      some (1)))
  else (
    some (0)) : Option (Int32)) fun j4 =>
  (f_X12_mayDo o3.2.2.1 o3.2.2.2.1 o3.2.2.2.2.2.2.1 o3.2.2.2.2.2.2.2 m_input j4).bind fun o6 =>
  if o6.1 = 0 then (
    (f_X12_next m_inputLength o3.2.1 o3.2.2.1 o3.2.2.2.1 o3.2.2.2.2.1 o3.2.2.2.2.2.1 o6.2.1 m_input).bind fun o7 =>
    some (o7.1, o7.2.1, o7.2.2.1, o7.2.2.2.1, o7.2.2.2.2, o6.2.1, o6.2.2, m_parsed))
  else (
    (f_X12_derive m_parsed o2.1 o3.1 (-1)).bind fun o8 =>
    if 0 ≤ o8.1 then (
      (f_X12_next m_inputLength o3.2.1 o3.2.2.1 o3.2.2.2.1 o3.2.2.2.2.1 o3.2.2.2.2.2.1 o6.2.1 m_input).bind fun o9 =>
      some (o9.1, o9.2.1, o9.2.2.1, o9.2.2.2.1, o9.2.2.2.2, o6.2.1, o6.2.2, o8.2))
    else (
      (f_X12_next m_inputLength o3.2.1 o3.2.2.1 o3.2.2.2.1 o3.2.2.2.2.1 o3.2.2.2.2.2.1 1 m_input).bind fun o10 =>
      some (o10.1, o10.2.1, o10.2.2.1, o10.2.2.2.1, o10.2.2.2.2, 1, o6.2.2, o8.2)))
set_option maxRecDepth 100000 in
set_option maxHeartbeats 4000000 in
theorem c_X12_readRefer (l : Launch) {G : (Nat → Prop) → State → Heap → Prop} (hG : vG G) (D : va_G) (c9 : Nat → ClassId) (ad : Nat → Nat) (m_undoable : Int32) (m_undoStart : Int32) (m_thrown : Int32) (m_inputLength : Int32) (m_position : Int32) (m_start : Int32) (m_token : Int32) (m_value : Int32) (m_letters : Int32) (m_code : Int32) (m_place : Int32) (m_outputLength : Int32) (m_s : Nat → Int32) (m_parsed : Nat → Int32) (m_tried : Nat → Int32) (m_remembered : Nat → Int32) (m_slots : Nat → Int32) (m_kept : Nat → Int32) (m_away : Nat → Int32) (m_input : Nat → Int32) (m_halfway : Nat → Int32) (m_output : Nat → Int32)  {o : Int32 × Int32 × Int32 × Int32 × Int32 × Int32 × Int32 × (Nat → Int32)} (hf : f_X12_readRefer m_inputLength m_position m_start m_token m_value m_letters m_code m_place m_parsed m_input = some o) : mV l yX12_readRefer (wq yX12_readRefer cX12_readRefer 3 none) { frames := 6, cells := 0, slots := 0, locals := 124 } G D (tyA c9) [.ref (ad 0)] (wX12 ad c9 m_undoable m_undoStart m_thrown m_inputLength m_position m_start m_token m_value m_letters m_code m_place m_outputLength m_s m_parsed m_tried m_remembered m_slots m_kept m_away m_input m_halfway m_output) [] 0 0 (wX12 ad c9 m_undoable m_undoStart m_thrown m_inputLength o.1 o.2.1 o.2.2.1 o.2.2.2.1 o.2.2.2.2.1 o.2.2.2.2.2.1 o.2.2.2.2.2.2.1 m_outputLength m_s o.2.2.2.2.2.2.2 m_tried m_remembered m_slots m_kept m_away m_input m_halfway m_output) := by
  refine mV_of hG (cc := cX12_readRefer) (maxL := 3) (by decide) rfl (Nat.le_of_ble_eq_true rfl) ?_
  intro p e s m args below meth c A hnm X
  have X : vX p s m args meth c cX12_readRefer 3 none RX12 (wq yX12_readRefer cX12_readRefer 3 none) D (tyA c9) G A := X
  refine v_eq (lv2 := [(0, .ref (ad 0))]) rfl rfl rfl rfl ?_
  rw [f_X12_readRefer] at hf
  refine v_aload_n X dX12_readRefer_0 0 rfl rfl 1 rfl ?_
  obtain ⟨o1, ho1, hf⟩ := bnd hf
  refine v_callVv X (ci := 11) (T := TX12) (C := RX12) (As := []) (rest := []) (ws' := (wX12 ad c9 m_undoable m_undoStart m_thrown m_inputLength o1.1 o1.2.1 o1.2.2.1 o1.2.2.2.1 o1.2.2.2.2 m_code m_place m_outputLength m_s m_parsed m_tried m_remembered m_slots m_kept m_away m_input m_halfway m_output)) (c_X12_next l hG D c9 ad m_undoable m_undoStart m_thrown m_inputLength m_position m_start m_token m_value m_letters m_code m_place m_outputLength m_s m_parsed m_tried m_remembered m_slots m_kept m_away m_input m_halfway m_output ho1) 0 (gV wm_141 wm_142 wm_143 wm_37 wm_144) rfl rfl rfl ⟨rfl, pd_X12_next⟩ ⟨Nat.le_of_ble_eq_true rfl, Nat.le_of_ble_eq_true rfl⟩ 0 rfl rfl rfl rfl (Nat.le_of_ble_eq_true rfl) ⟨Nat.zero_le _, Nat.zero_le _⟩ [0, 1, 2, 3, 4, 5, 6, 7, 8, 9, 10] [] [0, 1, 2, 3, 4, 5, 6, 7, 8, 9, 10] rfl rfl rfl rfl dX12_readRefer_1 4 rfl ?_
  refine v_aload_n X dX12_readRefer_4 0 rfl rfl 5 rfl ?_
  obtain ⟨o2, ho2, hf⟩ := bnd hf
  refine v_callVi X (ci := 11) (T := TX12) (C := RX12) (As := []) (rest := []) (ws' := (wX12 ad c9 m_undoable m_undoStart m_thrown m_inputLength o2.2.1 o2.2.2.1 o2.2.2.2.1 o2.2.2.2.2.1 o2.2.2.2.2.2.1 o2.2.2.2.2.2.2.1 o2.2.2.2.2.2.2.2 m_outputLength m_s m_parsed m_tried m_remembered m_slots m_kept m_away m_input m_halfway m_output)) (c_X12_ticketHere l hG D c9 ad m_undoable m_undoStart m_thrown m_inputLength o1.1 o1.2.1 o1.2.2.1 o1.2.2.2.1 o1.2.2.2.2 m_code m_place m_outputLength m_s m_parsed m_tried m_remembered m_slots m_kept m_away m_input m_halfway m_output ho2) 0 (gV wm_215 wm_216 wm_217 wm_37 wm_218) rfl rfl rfl ⟨rfl, pd_X12_ticketHere⟩ ⟨Nat.le_of_ble_eq_true rfl, Nat.le_of_ble_eq_true rfl⟩ 0 rfl rfl rfl rfl (Nat.le_of_ble_eq_true rfl) ⟨Nat.zero_le _, Nat.zero_le _⟩ [0, 1, 2, 3, 4, 5, 6, 7, 8, 9, 10] [] [0, 1, 2, 3, 4, 5, 6, 7, 8, 9, 10] rfl rfl rfl rfl dX12_readRefer_5 8 rfl ?_
  refine v_istore_n X (lv' := [(1, .int o2.1), (0, .ref (ad 0))]) dX12_readRefer_8 rfl (by decide) rfl 9 rfl ?_
  refine v_aload_n X dX12_readRefer_9 1 rfl rfl 10 rfl ?_
  obtain ⟨o3, ho3, hf⟩ := bnd hf
  refine v_callVi X (ci := 11) (T := TX12) (C := RX12) (As := []) (rest := []) (ws' := (wX12 ad c9 m_undoable m_undoStart m_thrown m_inputLength o3.2.1 o3.2.2.1 o3.2.2.2.1 o3.2.2.2.2.1 o3.2.2.2.2.2.1 o3.2.2.2.2.2.2.1 o3.2.2.2.2.2.2.2 m_outputLength m_s m_parsed m_tried m_remembered m_slots m_kept m_away m_input m_halfway m_output)) (c_X12_realmHere l hG D c9 ad m_undoable m_undoStart m_thrown m_inputLength o2.2.1 o2.2.2.1 o2.2.2.2.1 o2.2.2.2.2.1 o2.2.2.2.2.2.1 o2.2.2.2.2.2.2.1 o2.2.2.2.2.2.2.2 m_outputLength m_s m_parsed m_tried m_remembered m_slots m_kept m_away m_input m_halfway m_output ho3) 0 (gV wm_197 wm_198 wm_199 wm_37 wm_200) rfl rfl rfl ⟨rfl, pd_X12_realmHere⟩ ⟨Nat.le_of_ble_eq_true rfl, Nat.le_of_ble_eq_true rfl⟩ 0 rfl rfl rfl rfl (Nat.le_of_ble_eq_true rfl) ⟨Nat.zero_le _, Nat.zero_le _⟩ [0, 1, 2, 3, 4, 5, 6, 7, 8, 9, 10] [] [0, 1, 2, 3, 4, 5, 6, 7, 8, 9, 10] rfl rfl rfl rfl dX12_readRefer_10 13 rfl ?_
  refine v_istore_n X (lv' := [(2, .int o3.1), (1, .int o2.1), (0, .ref (ad 0))]) dX12_readRefer_13 rfl (by decide) rfl 14 rfl ?_
  refine v_aload_n X dX12_readRefer_14 2 rfl rfl 15 rfl ?_
  refine v_aload_n X dX12_readRefer_15 2 rfl rfl 16 rfl ?_
  refine v_get X (C := RX12) (T := TX12) (N := 22) (ci := 11) (v := _) dX12_readRefer_16 (lay_of laym_X12) 0 rfl rfl 17 (by decide) (mw wm_118) rfl rfl 19 rfl ?_
  obtain ⟨j4, hj4, hf⟩ := bnd hf
  have Jj4 : vW p l e { frames := 6, cells := 0, slots := 0, locals := 124 } s m args below meth c 3 D A [] 0 0 (MQ below (eV D (tyA c9) A ((wX12 ad c9 m_undoable m_undoStart m_thrown m_inputLength o.1 o.2.1 o.2.2.1 o.2.2.2.1 o.2.2.2.2.1 o.2.2.2.2.2.1 o.2.2.2.2.2.2.1 m_outputLength m_s o.2.2.2.2.2.2.2 m_tried m_remembered m_slots m_kept m_away m_input m_halfway m_output) ++ [])) args s 0 0 A) (wX12 ad c9 m_undoable m_undoStart m_thrown m_inputLength o3.2.1 o3.2.2.1 o3.2.2.2.1 o3.2.2.2.2.1 o3.2.2.2.2.2.1 o3.2.2.2.2.2.2.1 o3.2.2.2.2.2.2.2 m_outputLength m_s m_parsed m_tried m_remembered m_slots m_kept m_away m_input m_halfway m_output) 39 [(0, .ref (ad 0)), (1, .int o2.1), (2, .int o3.1)] [.int j4, .ref (ad 0)] := by
    obtain ⟨o6, ho6, hf⟩ := bnd hf
    refine v_callVi X (ci := 11) (T := TX12) (C := RX12) (As := [.int j4]) (rest := []) (ws' := (wX12 ad c9 m_undoable m_undoStart m_thrown m_inputLength o3.2.1 o3.2.2.1 o3.2.2.2.1 o3.2.2.2.2.1 o3.2.2.2.2.2.1 o6.2.1 o6.2.2 m_outputLength m_s m_parsed m_tried m_remembered m_slots m_kept m_away m_input m_halfway m_output)) (c_X12_mayDo l hG D c9 ad m_undoable m_undoStart m_thrown m_inputLength o3.2.1 o3.2.2.1 o3.2.2.2.1 o3.2.2.2.2.1 o3.2.2.2.2.2.1 o3.2.2.2.2.2.2.1 o3.2.2.2.2.2.2.2 m_outputLength m_s m_parsed m_tried m_remembered m_slots m_kept m_away m_input m_halfway m_output j4 ho6) 1 (gV wm_201 wm_202 wm_203 wm_37 wm_204) rfl rfl rfl ⟨rfl, pd_X12_mayDo⟩ ⟨Nat.le_of_ble_eq_true rfl, Nat.le_of_ble_eq_true rfl⟩ 0 rfl rfl rfl rfl (Nat.le_of_ble_eq_true rfl) ⟨Nat.zero_le _, Nat.zero_le _⟩ [0, 1, 2, 3, 4, 5, 6, 7, 8, 9, 10] [] [0, 1, 2, 3, 4, 5, 6, 7, 8, 9, 10] rfl rfl rfl rfl dX12_readRefer_39 42 rfl ?_
    refine v_if_eq X (tgt := 63) dX12_readRefer_42 rfl 45 rfl hf (fun hf => ?_) (fun hf => ?_)
    · refine v_aload_n X dX12_readRefer_63 0 rfl rfl 64 rfl ?_
      obtain ⟨o7, ho7, hf⟩ := bnd hf
      refine v_callVv X (ci := 11) (T := TX12) (C := RX12) (As := []) (rest := []) (ws' := (wX12 ad c9 m_undoable m_undoStart m_thrown m_inputLength o7.1 o7.2.1 o7.2.2.1 o7.2.2.2.1 o7.2.2.2.2 o6.2.1 o6.2.2 m_outputLength m_s m_parsed m_tried m_remembered m_slots m_kept m_away m_input m_halfway m_output)) (c_X12_next l hG D c9 ad m_undoable m_undoStart m_thrown m_inputLength o3.2.1 o3.2.2.1 o3.2.2.2.1 o3.2.2.2.2.1 o3.2.2.2.2.2.1 o6.2.1 o6.2.2 m_outputLength m_s m_parsed m_tried m_remembered m_slots m_kept m_away m_input m_halfway m_output ho7) 0 (gV wm_141 wm_142 wm_143 wm_37 wm_144) rfl rfl rfl ⟨rfl, pd_X12_next⟩ ⟨Nat.le_of_ble_eq_true rfl, Nat.le_of_ble_eq_true rfl⟩ 0 rfl rfl rfl rfl (Nat.le_of_ble_eq_true rfl) ⟨Nat.zero_le _, Nat.zero_le _⟩ [0, 1, 2, 3, 4, 5, 6, 7, 8, 9, 10] [] [0, 1, 2, 3, 4, 5, 6, 7, 8, 9, 10] rfl rfl rfl rfl dX12_readRefer_64 67 rfl ?_
      obtain rfl := Option.some.inj hf
      exact v_vret X (Nat.zero_le _) (Nat.zero_le _) dX12_readRefer_67
    · refine v_aload_n X dX12_readRefer_45 0 rfl rfl 46 rfl ?_
      refine v_get X (C := RX12) (T := TX12) (N := 22) (ci := 11) (v := _) dX12_readRefer_46 (lay_of laym_X12) 0 rfl rfl 1 (by decide) (mw wm_162) rfl rfl 49 rfl ?_
      refine v_iload_n X dX12_readRefer_49 1 rfl rfl 50 rfl ?_
      refine v_iload_n X dX12_readRefer_50 2 rfl rfl 51 rfl ?_
      refine v_iconst X dX12_readRefer_51 ic_m1 52 rfl ?_
      obtain ⟨o8, ho8, hf⟩ := bnd hf
      refine v_callSi X (As := [.ref (ad 2), .int o2.1, .int o3.1, .int (-1)]) (rest := []) (ws' := (wX12 ad c9 m_undoable m_undoStart m_thrown m_inputLength o3.2.1 o3.2.2.1 o3.2.2.2.1 o3.2.2.2.2.1 o3.2.2.2.2.2.1 o6.2.1 o6.2.2 m_outputLength m_s o8.2 m_tried m_remembered m_slots m_kept m_away m_input m_halfway m_output)) (c_X12_derive l hG D c9 (ad 2) m_parsed o2.1 o3.1 (-1) ho8) 4 (gS wm_222 wm_223 wm_37 wm_224) rfl rfl rfl pd_X12_derive ⟨Nat.le_of_ble_eq_true rfl, Nat.le_of_ble_eq_true rfl⟩ rfl rfl (Nat.le_of_ble_eq_true rfl) ⟨Nat.zero_le _, Nat.zero_le _⟩ [2] [0, 1, 3, 4, 5, 6, 7, 8, 9, 10] [0, 1, 10, 2, 3, 4, 5, 6, 7, 8, 9] rfl rfl rfl rfl dX12_readRefer_52 55 rfl ?_
      refine v_if_ge X (tgt := 63) dX12_readRefer_55 rfl 58 rfl hf (fun hf => ?_) (fun hf => ?_)
      · refine v_aload_n X dX12_readRefer_63 0 rfl rfl 64 rfl ?_
        obtain ⟨o9, ho9, hf⟩ := bnd hf
        refine v_callVv X (ci := 11) (T := TX12) (C := RX12) (As := []) (rest := []) (ws' := (wX12 ad c9 m_undoable m_undoStart m_thrown m_inputLength o9.1 o9.2.1 o9.2.2.1 o9.2.2.2.1 o9.2.2.2.2 o6.2.1 o6.2.2 m_outputLength m_s o8.2 m_tried m_remembered m_slots m_kept m_away m_input m_halfway m_output)) (c_X12_next l hG D c9 ad m_undoable m_undoStart m_thrown m_inputLength o3.2.1 o3.2.2.1 o3.2.2.2.1 o3.2.2.2.2.1 o3.2.2.2.2.2.1 o6.2.1 o6.2.2 m_outputLength m_s o8.2 m_tried m_remembered m_slots m_kept m_away m_input m_halfway m_output ho9) 0 (gV wm_141 wm_142 wm_143 wm_37 wm_144) rfl rfl rfl ⟨rfl, pd_X12_next⟩ ⟨Nat.le_of_ble_eq_true rfl, Nat.le_of_ble_eq_true rfl⟩ 0 rfl rfl rfl rfl (Nat.le_of_ble_eq_true rfl) ⟨Nat.zero_le _, Nat.zero_le _⟩ [0, 1, 2, 3, 4, 5, 6, 7, 8, 9, 10] [] [0, 1, 2, 3, 4, 5, 6, 7, 8, 9, 10] rfl rfl rfl rfl dX12_readRefer_64 67 rfl ?_
        obtain rfl := Option.some.inj hf
        exact v_vret X (Nat.zero_le _) (Nat.zero_le _) dX12_readRefer_67
      · refine v_aload_n X dX12_readRefer_58 0 rfl rfl 59 rfl ?_
        refine v_iconst X dX12_readRefer_59 ic_1 60 rfl ?_
        refine v_put X (C := RX12) (T := TX12) (N := 22) (ci := 11) (ty := tyX12 17) (ws' := (wX12 ad c9 m_undoable m_undoStart m_thrown m_inputLength o3.2.1 o3.2.2.1 o3.2.2.2.1 o3.2.2.2.2.1 o3.2.2.2.2.2.1 1 o6.2.2 m_outputLength m_s o8.2 m_tried m_remembered m_slots m_kept m_away m_input m_halfway m_output)) dX12_readRefer_60 (lay_of laym_X12) 0 rfl rfl 17 (by decide) tyX12 tyX12_ok nmX12 (mw wm_118) rfl rfl (tyX12_ok 17 (by decide)) rfl rfl (Nat.le_of_ble_eq_true rfl) rfl 63 rfl ?_
        refine v_aload_n X dX12_readRefer_63 0 rfl rfl 64 rfl ?_
        obtain ⟨o10, ho10, hf⟩ := bnd hf
        refine v_callVv X (ci := 11) (T := TX12) (C := RX12) (As := []) (rest := []) (ws' := (wX12 ad c9 m_undoable m_undoStart m_thrown m_inputLength o10.1 o10.2.1 o10.2.2.1 o10.2.2.2.1 o10.2.2.2.2 1 o6.2.2 m_outputLength m_s o8.2 m_tried m_remembered m_slots m_kept m_away m_input m_halfway m_output)) (c_X12_next l hG D c9 ad m_undoable m_undoStart m_thrown m_inputLength o3.2.1 o3.2.2.1 o3.2.2.2.1 o3.2.2.2.2.1 o3.2.2.2.2.2.1 1 o6.2.2 m_outputLength m_s o8.2 m_tried m_remembered m_slots m_kept m_away m_input m_halfway m_output ho10) 0 (gV wm_141 wm_142 wm_143 wm_37 wm_144) rfl rfl rfl ⟨rfl, pd_X12_next⟩ ⟨Nat.le_of_ble_eq_true rfl, Nat.le_of_ble_eq_true rfl⟩ 0 rfl rfl rfl rfl (Nat.le_of_ble_eq_true rfl) ⟨Nat.zero_le _, Nat.zero_le _⟩ [0, 1, 2, 3, 4, 5, 6, 7, 8, 9, 10] [] [0, 1, 2, 3, 4, 5, 6, 7, 8, 9, 10] rfl rfl rfl rfl dX12_readRefer_64 67 rfl ?_
        obtain rfl := Option.some.inj hf
        exact v_vret X (Nat.zero_le _) (Nat.zero_le _) dX12_readRefer_67
  clear hf
  refine v_if_ne X (tgt := 38) dX12_readRefer_19 rfl 22 rfl hj4 (fun hf => ?_) (fun hf => ?_)
  · refine v_iconst X dX12_readRefer_38 ic_0 39 rfl ?_
    obtain rfl := Option.some.inj hf
    refine v_sub (lv' := [(0, .ref (ad 0)), (1, .int o2.1), (2, .int o3.1)]) [2, 1, 0] rfl ?_
    exact Jj4
  · refine v_aload_n X dX12_readRefer_22 2 rfl rfl 23 rfl ?_
    refine v_get X (C := RX12) (T := TX12) (N := 22) (ci := 11) (v := _) dX12_readRefer_23 (lay_of laym_X12) 0 rfl rfl 1 (by decide) (mw wm_162) rfl rfl 26 rfl ?_
    refine v_iload_n X dX12_readRefer_26 1 rfl rfl 27 rfl ?_
    refine v_iload_n X dX12_readRefer_27 0 rfl rfl 28 rfl ?_
    obtain ⟨o5, ho5, hf⟩ := bnd hf
    refine v_callSi X (As := [.ref (ad 2), .int o2.1, .int o3.1]) (rest := [.ref (ad 0)]) (ws' := (wX12 ad c9 m_undoable m_undoStart m_thrown m_inputLength o3.2.1 o3.2.2.1 o3.2.2.2.1 o3.2.2.2.2.1 o3.2.2.2.2.2.1 o3.2.2.2.2.2.2.1 o3.2.2.2.2.2.2.2 m_outputLength m_s m_parsed m_tried m_remembered m_slots m_kept m_away m_input m_halfway m_output)) (c_X12_whyNotRefer l hG D c9 (ad 2) m_parsed o2.1 o3.1 ho5) 3 (gS wm_219 wm_220 wm_37 wm_221) rfl rfl rfl pd_X12_whyNotRefer ⟨Nat.le_of_ble_eq_true rfl, Nat.le_of_ble_eq_true rfl⟩ rfl rfl (Nat.le_of_ble_eq_true rfl) ⟨Nat.zero_le _, Nat.zero_le _⟩ [2] [0, 1, 3, 4, 5, 6, 7, 8, 9, 10] [0, 1, 10, 2, 3, 4, 5, 6, 7, 8, 9] rfl rfl rfl rfl dX12_readRefer_28 31 rfl ?_
    refine v_if_eq X (tgt := 38) dX12_readRefer_31 rfl 34 rfl hf (fun hf => ?_) (fun hf => ?_)
    · refine v_iconst X dX12_readRefer_38 ic_0 39 rfl ?_
      obtain rfl := Option.some.inj hf
      refine v_sub (lv' := [(0, .ref (ad 0)), (1, .int o2.1), (2, .int o3.1)]) [2, 1, 0] rfl ?_
      exact Jj4
    · refine v_iconst X dX12_readRefer_34 ic_1 35 rfl ?_
      refine v_goto X (tgt := 39) dX12_readRefer_35 rfl ?_
      obtain rfl := Option.some.inj hf
      refine v_sub (lv' := [(0, .ref (ad 0)), (1, .int o2.1), (2, .int o3.1)]) [2, 1, 0] rfl ?_
      exact Jj4
theorem pd_X12_readRefer : yX12_readRefer.cls ≠ "java/lang/invoke/MethodHandle" ∧ yX12_readRefer.cls ≠ "java/lang/invoke/VarHandle" ∧ (parseMethodDescriptor yX12_readRefer.desc).map (fun d => d.parameters.length) = some 0 := by decide +kernel
def f_X12_readRequest (m_inputLength : Int32) (m_position : Int32) (m_start : Int32) (m_token : Int32) (m_value : Int32) (m_letters : Int32) (m_code : Int32) (m_place : Int32) (m_parsed : Nat → Int32) (m_input : Nat → Int32) : Option (Int32 × Int32 × Int32 × Int32 × Int32 × Int32 × Int32 × (Nat → Int32)) :=
  (f_X12_next m_inputLength m_position m_start m_token m_value m_letters m_code m_input).bind fun o1 =>
  (f_X12_ticketHere m_inputLength o1.1 o1.2.1 o1.2.2.1 o1.2.2.2.1 o1.2.2.2.2 m_code m_place m_parsed m_input).bind fun o2 =>
  (f_X12_serviceHere m_inputLength o2.2.1 o2.2.2.1 o2.2.2.2.1 o2.2.2.2.2.1 o2.2.2.2.2.2.1 o2.2.2.2.2.2.2.1 o2.2.2.2.2.2.2.2 m_parsed m_input).bind fun o3 =>
  Option.bind (if o3.2.2.2.2.2.2.1 = 0 then (
    (f_X12_whyNotRequest m_parsed o2.1 o3.1).bind fun o5 =>
    if o5 = 0 then (
      some (0))
    else (
      some (1)))
  else (
    some (0)) : Option (Int32)) fun j4 =>
  (f_X12_mayDo o3.2.2.1 o3.2.2.2.1 o3.2.2.2.2.2.2.1 o3.2.2.2.2.2.2.2 m_input j4).bind fun o6 =>
  if o6.1 = 0 then (
    (f_X12_next m_inputLength o3.2.1 o3.2.2.1 o3.2.2.2.1 o3.2.2.2.2.1 o3.2.2.2.2.2.1 o6.2.1 m_input).bind fun o7 =>
    some (o7.1, o7.2.1, o7.2.2.1, o7.2.2.2.1, o7.2.2.2.2, o6.2.1, o6.2.2, m_parsed))
  else (
    (f_X12_ofService o3.1).bind fun o8 =>
    (rd m_parsed 463 (o8 + 1)).bind fun x9 =>
    (f_X12_derive m_parsed o2.1 x9 o3.1).bind fun o10 =>
    if 0 ≤ o10.1 then (
      (f_X12_next m_inputLength o3.2.1 o3.2.2.1 o3.2.2.2.1 o3.2.2.2.2.1 o3.2.2.2.2.2.1 o6.2.1 m_input).bind fun o11 =>
      some (o11.1, o11.2.1, o11.2.2.1, o11.2.2.2.1, o11.2.2.2.2, o6.2.1, o6.2.2, o10.2))
    else (
      (f_X12_next m_inputLength o3.2.1 o3.2.2.1 o3.2.2.2.1 o3.2.2.2.2.1 o3.2.2.2.2.2.1 1 m_input).bind fun o12 =>
      some (o12.1, o12.2.1, o12.2.2.1, o12.2.2.2.1, o12.2.2.2.2, 1, o6.2.2, o10.2)))
set_option maxRecDepth 100000 in
set_option maxHeartbeats 4000000 in
theorem c_X12_readRequest (l : Launch) {G : (Nat → Prop) → State → Heap → Prop} (hG : vG G) (D : va_G) (c9 : Nat → ClassId) (ad : Nat → Nat) (m_undoable : Int32) (m_undoStart : Int32) (m_thrown : Int32) (m_inputLength : Int32) (m_position : Int32) (m_start : Int32) (m_token : Int32) (m_value : Int32) (m_letters : Int32) (m_code : Int32) (m_place : Int32) (m_outputLength : Int32) (m_s : Nat → Int32) (m_parsed : Nat → Int32) (m_tried : Nat → Int32) (m_remembered : Nat → Int32) (m_slots : Nat → Int32) (m_kept : Nat → Int32) (m_away : Nat → Int32) (m_input : Nat → Int32) (m_halfway : Nat → Int32) (m_output : Nat → Int32)  {o : Int32 × Int32 × Int32 × Int32 × Int32 × Int32 × Int32 × (Nat → Int32)} (hf : f_X12_readRequest m_inputLength m_position m_start m_token m_value m_letters m_code m_place m_parsed m_input = some o) : mV l yX12_readRequest (wq yX12_readRequest cX12_readRequest 3 none) { frames := 6, cells := 0, slots := 0, locals := 124 } G D (tyA c9) [.ref (ad 0)] (wX12 ad c9 m_undoable m_undoStart m_thrown m_inputLength m_position m_start m_token m_value m_letters m_code m_place m_outputLength m_s m_parsed m_tried m_remembered m_slots m_kept m_away m_input m_halfway m_output) [] 0 0 (wX12 ad c9 m_undoable m_undoStart m_thrown m_inputLength o.1 o.2.1 o.2.2.1 o.2.2.2.1 o.2.2.2.2.1 o.2.2.2.2.2.1 o.2.2.2.2.2.2.1 m_outputLength m_s o.2.2.2.2.2.2.2 m_tried m_remembered m_slots m_kept m_away m_input m_halfway m_output) := by
  refine mV_of hG (cc := cX12_readRequest) (maxL := 3) (by decide) rfl (Nat.le_of_ble_eq_true rfl) ?_
  intro p e s m args below meth c A hnm X
  have X : vX p s m args meth c cX12_readRequest 3 none RX12 (wq yX12_readRequest cX12_readRequest 3 none) D (tyA c9) G A := X
  refine v_eq (lv2 := [(0, .ref (ad 0))]) rfl rfl rfl rfl ?_
  rw [f_X12_readRequest] at hf
  refine v_aload_n X dX12_readRequest_0 0 rfl rfl 1 rfl ?_
  obtain ⟨o1, ho1, hf⟩ := bnd hf
  refine v_callVv X (ci := 11) (T := TX12) (C := RX12) (As := []) (rest := []) (ws' := (wX12 ad c9 m_undoable m_undoStart m_thrown m_inputLength o1.1 o1.2.1 o1.2.2.1 o1.2.2.2.1 o1.2.2.2.2 m_code m_place m_outputLength m_s m_parsed m_tried m_remembered m_slots m_kept m_away m_input m_halfway m_output)) (c_X12_next l hG D c9 ad m_undoable m_undoStart m_thrown m_inputLength m_position m_start m_token m_value m_letters m_code m_place m_outputLength m_s m_parsed m_tried m_remembered m_slots m_kept m_away m_input m_halfway m_output ho1) 0 (gV wm_141 wm_142 wm_143 wm_37 wm_144) rfl rfl rfl ⟨rfl, pd_X12_next⟩ ⟨Nat.le_of_ble_eq_true rfl, Nat.le_of_ble_eq_true rfl⟩ 0 rfl rfl rfl rfl (Nat.le_of_ble_eq_true rfl) ⟨Nat.zero_le _, Nat.zero_le _⟩ [0, 1, 2, 3, 4, 5, 6, 7, 8, 9, 10] [] [0, 1, 2, 3, 4, 5, 6, 7, 8, 9, 10] rfl rfl rfl rfl dX12_readRequest_1 4 rfl ?_
  refine v_aload_n X dX12_readRequest_4 0 rfl rfl 5 rfl ?_
  obtain ⟨o2, ho2, hf⟩ := bnd hf
  refine v_callVi X (ci := 11) (T := TX12) (C := RX12) (As := []) (rest := []) (ws' := (wX12 ad c9 m_undoable m_undoStart m_thrown m_inputLength o2.2.1 o2.2.2.1 o2.2.2.2.1 o2.2.2.2.2.1 o2.2.2.2.2.2.1 o2.2.2.2.2.2.2.1 o2.2.2.2.2.2.2.2 m_outputLength m_s m_parsed m_tried m_remembered m_slots m_kept m_away m_input m_halfway m_output)) (c_X12_ticketHere l hG D c9 ad m_undoable m_undoStart m_thrown m_inputLength o1.1 o1.2.1 o1.2.2.1 o1.2.2.2.1 o1.2.2.2.2 m_code m_place m_outputLength m_s m_parsed m_tried m_remembered m_slots m_kept m_away m_input m_halfway m_output ho2) 0 (gV wm_215 wm_216 wm_217 wm_37 wm_218) rfl rfl rfl ⟨rfl, pd_X12_ticketHere⟩ ⟨Nat.le_of_ble_eq_true rfl, Nat.le_of_ble_eq_true rfl⟩ 0 rfl rfl rfl rfl (Nat.le_of_ble_eq_true rfl) ⟨Nat.zero_le _, Nat.zero_le _⟩ [0, 1, 2, 3, 4, 5, 6, 7, 8, 9, 10] [] [0, 1, 2, 3, 4, 5, 6, 7, 8, 9, 10] rfl rfl rfl rfl dX12_readRequest_5 8 rfl ?_
  refine v_istore_n X (lv' := [(1, .int o2.1), (0, .ref (ad 0))]) dX12_readRequest_8 rfl (by decide) rfl 9 rfl ?_
  refine v_aload_n X dX12_readRequest_9 1 rfl rfl 10 rfl ?_
  obtain ⟨o3, ho3, hf⟩ := bnd hf
  refine v_callVi X (ci := 11) (T := TX12) (C := RX12) (As := []) (rest := []) (ws' := (wX12 ad c9 m_undoable m_undoStart m_thrown m_inputLength o3.2.1 o3.2.2.1 o3.2.2.2.1 o3.2.2.2.2.1 o3.2.2.2.2.2.1 o3.2.2.2.2.2.2.1 o3.2.2.2.2.2.2.2 m_outputLength m_s m_parsed m_tried m_remembered m_slots m_kept m_away m_input m_halfway m_output)) (c_X12_serviceHere l hG D c9 ad m_undoable m_undoStart m_thrown m_inputLength o2.2.1 o2.2.2.1 o2.2.2.2.1 o2.2.2.2.2.1 o2.2.2.2.2.2.1 o2.2.2.2.2.2.2.1 o2.2.2.2.2.2.2.2 m_outputLength m_s m_parsed m_tried m_remembered m_slots m_kept m_away m_input m_halfway m_output ho3) 0 (gV wm_225 wm_226 wm_227 wm_37 wm_228) rfl rfl rfl ⟨rfl, pd_X12_serviceHere⟩ ⟨Nat.le_of_ble_eq_true rfl, Nat.le_of_ble_eq_true rfl⟩ 0 rfl rfl rfl rfl (Nat.le_of_ble_eq_true rfl) ⟨Nat.zero_le _, Nat.zero_le _⟩ [0, 1, 2, 3, 4, 5, 6, 7, 8, 9, 10] [] [0, 1, 2, 3, 4, 5, 6, 7, 8, 9, 10] rfl rfl rfl rfl dX12_readRequest_10 13 rfl ?_
  refine v_istore_n X (lv' := [(2, .int o3.1), (1, .int o2.1), (0, .ref (ad 0))]) dX12_readRequest_13 rfl (by decide) rfl 14 rfl ?_
  refine v_aload_n X dX12_readRequest_14 2 rfl rfl 15 rfl ?_
  refine v_aload_n X dX12_readRequest_15 2 rfl rfl 16 rfl ?_
  refine v_get X (C := RX12) (T := TX12) (N := 22) (ci := 11) (v := _) dX12_readRequest_16 (lay_of laym_X12) 0 rfl rfl 17 (by decide) (mw wm_118) rfl rfl 19 rfl ?_
  obtain ⟨j4, hj4, hf⟩ := bnd hf
  have Jj4 : vW p l e { frames := 6, cells := 0, slots := 0, locals := 124 } s m args below meth c 3 D A [] 0 0 (MQ below (eV D (tyA c9) A ((wX12 ad c9 m_undoable m_undoStart m_thrown m_inputLength o.1 o.2.1 o.2.2.1 o.2.2.2.1 o.2.2.2.2.1 o.2.2.2.2.2.1 o.2.2.2.2.2.2.1 m_outputLength m_s o.2.2.2.2.2.2.2 m_tried m_remembered m_slots m_kept m_away m_input m_halfway m_output) ++ [])) args s 0 0 A) (wX12 ad c9 m_undoable m_undoStart m_thrown m_inputLength o3.2.1 o3.2.2.1 o3.2.2.2.1 o3.2.2.2.2.1 o3.2.2.2.2.2.1 o3.2.2.2.2.2.2.1 o3.2.2.2.2.2.2.2 m_outputLength m_s m_parsed m_tried m_remembered m_slots m_kept m_away m_input m_halfway m_output) 39 [(0, .ref (ad 0)), (1, .int o2.1), (2, .int o3.1)] [.int j4, .ref (ad 0)] := by
    obtain ⟨o6, ho6, hf⟩ := bnd hf
    refine v_callVi X (ci := 11) (T := TX12) (C := RX12) (As := [.int j4]) (rest := []) (ws' := (wX12 ad c9 m_undoable m_undoStart m_thrown m_inputLength o3.2.1 o3.2.2.1 o3.2.2.2.1 o3.2.2.2.2.1 o3.2.2.2.2.2.1 o6.2.1 o6.2.2 m_outputLength m_s m_parsed m_tried m_remembered m_slots m_kept m_away m_input m_halfway m_output)) (c_X12_mayDo l hG D c9 ad m_undoable m_undoStart m_thrown m_inputLength o3.2.1 o3.2.2.1 o3.2.2.2.1 o3.2.2.2.2.1 o3.2.2.2.2.2.1 o3.2.2.2.2.2.2.1 o3.2.2.2.2.2.2.2 m_outputLength m_s m_parsed m_tried m_remembered m_slots m_kept m_away m_input m_halfway m_output j4 ho6) 1 (gV wm_201 wm_202 wm_203 wm_37 wm_204) rfl rfl rfl ⟨rfl, pd_X12_mayDo⟩ ⟨Nat.le_of_ble_eq_true rfl, Nat.le_of_ble_eq_true rfl⟩ 0 rfl rfl rfl rfl (Nat.le_of_ble_eq_true rfl) ⟨Nat.zero_le _, Nat.zero_le _⟩ [0, 1, 2, 3, 4, 5, 6, 7, 8, 9, 10] [] [0, 1, 2, 3, 4, 5, 6, 7, 8, 9, 10] rfl rfl rfl rfl dX12_readRequest_39 42 rfl ?_
    refine v_if_eq X (tgt := 73) dX12_readRequest_42 rfl 45 rfl hf (fun hf => ?_) (fun hf => ?_)
    · refine v_aload_n X dX12_readRequest_73 0 rfl rfl 74 rfl ?_
      obtain ⟨o7, ho7, hf⟩ := bnd hf
      refine v_callVv X (ci := 11) (T := TX12) (C := RX12) (As := []) (rest := []) (ws' := (wX12 ad c9 m_undoable m_undoStart m_thrown m_inputLength o7.1 o7.2.1 o7.2.2.1 o7.2.2.2.1 o7.2.2.2.2 o6.2.1 o6.2.2 m_outputLength m_s m_parsed m_tried m_remembered m_slots m_kept m_away m_input m_halfway m_output)) (c_X12_next l hG D c9 ad m_undoable m_undoStart m_thrown m_inputLength o3.2.1 o3.2.2.1 o3.2.2.2.1 o3.2.2.2.2.1 o3.2.2.2.2.2.1 o6.2.1 o6.2.2 m_outputLength m_s m_parsed m_tried m_remembered m_slots m_kept m_away m_input m_halfway m_output ho7) 0 (gV wm_141 wm_142 wm_143 wm_37 wm_144) rfl rfl rfl ⟨rfl, pd_X12_next⟩ ⟨Nat.le_of_ble_eq_true rfl, Nat.le_of_ble_eq_true rfl⟩ 0 rfl rfl rfl rfl (Nat.le_of_ble_eq_true rfl) ⟨Nat.zero_le _, Nat.zero_le _⟩ [0, 1, 2, 3, 4, 5, 6, 7, 8, 9, 10] [] [0, 1, 2, 3, 4, 5, 6, 7, 8, 9, 10] rfl rfl rfl rfl dX12_readRequest_74 77 rfl ?_
      obtain rfl := Option.some.inj hf
      exact v_vret X (Nat.zero_le _) (Nat.zero_le _) dX12_readRequest_77
    · refine v_aload_n X dX12_readRequest_45 0 rfl rfl 46 rfl ?_
      refine v_get X (C := RX12) (T := TX12) (N := 22) (ci := 11) (v := _) dX12_readRequest_46 (lay_of laym_X12) 0 rfl rfl 1 (by decide) (mw wm_162) rfl rfl 49 rfl ?_
      refine v_iload_n X dX12_readRequest_49 1 rfl rfl 50 rfl ?_
      refine v_aload_n X dX12_readRequest_50 0 rfl rfl 51 rfl ?_
      refine v_get X (C := RX12) (T := TX12) (N := 22) (ci := 11) (v := _) dX12_readRequest_51 (lay_of laym_X12) 0 rfl rfl 1 (by decide) (mw wm_162) rfl rfl 54 rfl ?_
      refine v_iload_n X dX12_readRequest_54 2 rfl rfl 55 rfl ?_
      obtain ⟨o8, ho8, hf⟩ := bnd hf
      refine v_callSi X (As := [.int o3.1]) (rest := [.ref (ad 2), .int o2.1, .ref (ad 2)]) (ws' := (wX12 ad c9 m_undoable m_undoStart m_thrown m_inputLength o3.2.1 o3.2.2.1 o3.2.2.2.1 o3.2.2.2.2.1 o3.2.2.2.2.2.1 o6.2.1 o6.2.2 m_outputLength m_s m_parsed m_tried m_remembered m_slots m_kept m_away m_input m_halfway m_output)) (c_X12_ofService l hG D c9 o3.1 ho8) 1 (gS wm_76 wm_77 wm_37 wm_78) rfl rfl rfl pd_X12_ofService ⟨Nat.le_of_ble_eq_true rfl, Nat.le_of_ble_eq_true rfl⟩ rfl rfl (Nat.le_of_ble_eq_true rfl) ⟨Nat.zero_le _, Nat.zero_le _⟩ [] [0, 1, 2, 3, 4, 5, 6, 7, 8, 9, 10] [0, 1, 2, 3, 4, 5, 6, 7, 8, 9, 10] rfl rfl rfl rfl dX12_readRequest_55 58 rfl ?_
      refine v_iconst X dX12_readRequest_58 ic_1 59 rfl ?_
      refine v_iadd X dX12_readRequest_59 60 rfl ?_
      obtain ⟨x9, hx9, hf⟩ := bnd hf
      refine v_iald X dX12_readRequest_60 2 0 rfl rfl hx9 61 rfl ?_
      refine v_iload_n X dX12_readRequest_61 2 rfl rfl 62 rfl ?_
      obtain ⟨o10, ho10, hf⟩ := bnd hf
      refine v_callSi X (As := [.ref (ad 2), .int o2.1, .int x9, .int o3.1]) (rest := []) (ws' := (wX12 ad c9 m_undoable m_undoStart m_thrown m_inputLength o3.2.1 o3.2.2.1 o3.2.2.2.1 o3.2.2.2.2.1 o3.2.2.2.2.2.1 o6.2.1 o6.2.2 m_outputLength m_s o10.2 m_tried m_remembered m_slots m_kept m_away m_input m_halfway m_output)) (c_X12_derive l hG D c9 (ad 2) m_parsed o2.1 x9 o3.1 ho10) 4 (gS wm_222 wm_223 wm_37 wm_224) rfl rfl rfl pd_X12_derive ⟨Nat.le_of_ble_eq_true rfl, Nat.le_of_ble_eq_true rfl⟩ rfl rfl (Nat.le_of_ble_eq_true rfl) ⟨Nat.zero_le _, Nat.zero_le _⟩ [2] [0, 1, 3, 4, 5, 6, 7, 8, 9, 10] [0, 1, 10, 2, 3, 4, 5, 6, 7, 8, 9] rfl rfl rfl rfl dX12_readRequest_62 65 rfl ?_
      refine v_if_ge X (tgt := 73) dX12_readRequest_65 rfl 68 rfl hf (fun hf => ?_) (fun hf => ?_)
      · refine v_aload_n X dX12_readRequest_73 0 rfl rfl 74 rfl ?_
        obtain ⟨o11, ho11, hf⟩ := bnd hf
        refine v_callVv X (ci := 11) (T := TX12) (C := RX12) (As := []) (rest := []) (ws' := (wX12 ad c9 m_undoable m_undoStart m_thrown m_inputLength o11.1 o11.2.1 o11.2.2.1 o11.2.2.2.1 o11.2.2.2.2 o6.2.1 o6.2.2 m_outputLength m_s o10.2 m_tried m_remembered m_slots m_kept m_away m_input m_halfway m_output)) (c_X12_next l hG D c9 ad m_undoable m_undoStart m_thrown m_inputLength o3.2.1 o3.2.2.1 o3.2.2.2.1 o3.2.2.2.2.1 o3.2.2.2.2.2.1 o6.2.1 o6.2.2 m_outputLength m_s o10.2 m_tried m_remembered m_slots m_kept m_away m_input m_halfway m_output ho11) 0 (gV wm_141 wm_142 wm_143 wm_37 wm_144) rfl rfl rfl ⟨rfl, pd_X12_next⟩ ⟨Nat.le_of_ble_eq_true rfl, Nat.le_of_ble_eq_true rfl⟩ 0 rfl rfl rfl rfl (Nat.le_of_ble_eq_true rfl) ⟨Nat.zero_le _, Nat.zero_le _⟩ [0, 1, 2, 3, 4, 5, 6, 7, 8, 9, 10] [] [0, 1, 2, 3, 4, 5, 6, 7, 8, 9, 10] rfl rfl rfl rfl dX12_readRequest_74 77 rfl ?_
        obtain rfl := Option.some.inj hf
        exact v_vret X (Nat.zero_le _) (Nat.zero_le _) dX12_readRequest_77
      · refine v_aload_n X dX12_readRequest_68 0 rfl rfl 69 rfl ?_
        refine v_iconst X dX12_readRequest_69 ic_1 70 rfl ?_
        refine v_put X (C := RX12) (T := TX12) (N := 22) (ci := 11) (ty := tyX12 17) (ws' := (wX12 ad c9 m_undoable m_undoStart m_thrown m_inputLength o3.2.1 o3.2.2.1 o3.2.2.2.1 o3.2.2.2.2.1 o3.2.2.2.2.2.1 1 o6.2.2 m_outputLength m_s o10.2 m_tried m_remembered m_slots m_kept m_away m_input m_halfway m_output)) dX12_readRequest_70 (lay_of laym_X12) 0 rfl rfl 17 (by decide) tyX12 tyX12_ok nmX12 (mw wm_118) rfl rfl (tyX12_ok 17 (by decide)) rfl rfl (Nat.le_of_ble_eq_true rfl) rfl 73 rfl ?_
        refine v_aload_n X dX12_readRequest_73 0 rfl rfl 74 rfl ?_
        obtain ⟨o12, ho12, hf⟩ := bnd hf
        refine v_callVv X (ci := 11) (T := TX12) (C := RX12) (As := []) (rest := []) (ws' := (wX12 ad c9 m_undoable m_undoStart m_thrown m_inputLength o12.1 o12.2.1 o12.2.2.1 o12.2.2.2.1 o12.2.2.2.2 1 o6.2.2 m_outputLength m_s o10.2 m_tried m_remembered m_slots m_kept m_away m_input m_halfway m_output)) (c_X12_next l hG D c9 ad m_undoable m_undoStart m_thrown m_inputLength o3.2.1 o3.2.2.1 o3.2.2.2.1 o3.2.2.2.2.1 o3.2.2.2.2.2.1 1 o6.2.2 m_outputLength m_s o10.2 m_tried m_remembered m_slots m_kept m_away m_input m_halfway m_output ho12) 0 (gV wm_141 wm_142 wm_143 wm_37 wm_144) rfl rfl rfl ⟨rfl, pd_X12_next⟩ ⟨Nat.le_of_ble_eq_true rfl, Nat.le_of_ble_eq_true rfl⟩ 0 rfl rfl rfl rfl (Nat.le_of_ble_eq_true rfl) ⟨Nat.zero_le _, Nat.zero_le _⟩ [0, 1, 2, 3, 4, 5, 6, 7, 8, 9, 10] [] [0, 1, 2, 3, 4, 5, 6, 7, 8, 9, 10] rfl rfl rfl rfl dX12_readRequest_74 77 rfl ?_
        obtain rfl := Option.some.inj hf
        exact v_vret X (Nat.zero_le _) (Nat.zero_le _) dX12_readRequest_77
  clear hf
  refine v_if_ne X (tgt := 38) dX12_readRequest_19 rfl 22 rfl hj4 (fun hf => ?_) (fun hf => ?_)
  · refine v_iconst X dX12_readRequest_38 ic_0 39 rfl ?_
    obtain rfl := Option.some.inj hf
    refine v_sub (lv' := [(0, .ref (ad 0)), (1, .int o2.1), (2, .int o3.1)]) [2, 1, 0] rfl ?_
    exact Jj4
  · refine v_aload_n X dX12_readRequest_22 2 rfl rfl 23 rfl ?_
    refine v_get X (C := RX12) (T := TX12) (N := 22) (ci := 11) (v := _) dX12_readRequest_23 (lay_of laym_X12) 0 rfl rfl 1 (by decide) (mw wm_162) rfl rfl 26 rfl ?_
    refine v_iload_n X dX12_readRequest_26 1 rfl rfl 27 rfl ?_
    refine v_iload_n X dX12_readRequest_27 0 rfl rfl 28 rfl ?_
    obtain ⟨o5, ho5, hf⟩ := bnd hf
    refine v_callSi X (As := [.ref (ad 2), .int o2.1, .int o3.1]) (rest := [.ref (ad 0)]) (ws' := (wX12 ad c9 m_undoable m_undoStart m_thrown m_inputLength o3.2.1 o3.2.2.1 o3.2.2.2.1 o3.2.2.2.2.1 o3.2.2.2.2.2.1 o3.2.2.2.2.2.2.1 o3.2.2.2.2.2.2.2 m_outputLength m_s m_parsed m_tried m_remembered m_slots m_kept m_away m_input m_halfway m_output)) (c_X12_whyNotRequest l hG D c9 (ad 2) m_parsed o2.1 o3.1 ho5) 3 (gS wm_229 wm_230 wm_37 wm_231) rfl rfl rfl pd_X12_whyNotRequest ⟨Nat.le_of_ble_eq_true rfl, Nat.le_of_ble_eq_true rfl⟩ rfl rfl (Nat.le_of_ble_eq_true rfl) ⟨Nat.zero_le _, Nat.zero_le _⟩ [2] [0, 1, 3, 4, 5, 6, 7, 8, 9, 10] [0, 1, 10, 2, 3, 4, 5, 6, 7, 8, 9] rfl rfl rfl rfl dX12_readRequest_28 31 rfl ?_
    refine v_if_eq X (tgt := 38) dX12_readRequest_31 rfl 34 rfl hf (fun hf => ?_) (fun hf => ?_)
    · refine v_iconst X dX12_readRequest_38 ic_0 39 rfl ?_
      obtain rfl := Option.some.inj hf
      refine v_sub (lv' := [(0, .ref (ad 0)), (1, .int o2.1), (2, .int o3.1)]) [2, 1, 0] rfl ?_
      exact Jj4
    · refine v_iconst X dX12_readRequest_34 ic_1 35 rfl ?_
      refine v_goto X (tgt := 39) dX12_readRequest_35 rfl ?_
      obtain rfl := Option.some.inj hf
      refine v_sub (lv' := [(0, .ref (ad 0)), (1, .int o2.1), (2, .int o3.1)]) [2, 1, 0] rfl ?_
      exact Jj4
theorem pd_X12_readRequest : yX12_readRequest.cls ≠ "java/lang/invoke/MethodHandle" ∧ yX12_readRequest.cls ≠ "java/lang/invoke/VarHandle" ∧ (parseMethodDescriptor yX12_readRequest.desc).map (fun d => d.parameters.length) = some 0 := by decide +kernel
