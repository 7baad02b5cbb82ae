theorem k_X12_readRequest_w12 : ∀ w ∈ u_ws RX12 TX12 22, w ∈ wsX12_readRequest := in_r _ [114, 115, 116, 117, 118, 119, 120, 121, 122, 123, 124, 125, 126, 127, 128, 129, 130, 131, 132, 133, 134, 135] rfl
theorem k_X12_readRequest_1 : Cond.fieldLink RX12 164 "TicketGateModel" "code" "I" ∈ wsX12_readRequest := List.mem_of_getElem? (i := 1) rfl
theorem k_X12_readRequest_2 : Cond.fieldLink RX12 13 "TicketGateModel" "parsed" "[I" ∈ wsX12_readRequest := List.mem_of_getElem? (i := 2) rfl
def f_X12_readRequest (m_inputLength : Int32) (m_position : Int32) (m_start : Int32) (m_token : Int32) (m_value : Int32) (m_letters : Int32) (m_code : Int32) (m_place : Int32) (m_parsed : Nat → Int32) (m_input : Nat → Int32) : Option (Int32 × Int32 × Int32 × Int32 × Int32 × Int32 × Int32 × (Nat → Int32)) :=
  (f_X12_next m_inputLength m_position m_start m_token m_value m_letters m_code m_input).bind fun o1 =>
  (f_X12_ticketHere m_inputLength o1.1 o1.2.1 o1.2.2.1 o1.2.2.2.1 o1.2.2.2.2 m_code m_place m_parsed m_input).bind fun o2 =>
  (f_X12_serviceHere m_inputLength o2.2.1 o2.2.2.1 o2.2.2.2.1 o2.2.2.2.2.1 o2.2.2.2.2.2.1 o2.2.2.2.2.2.2.1 o2.2.2.2.2.2.2.2 m_parsed m_input).bind fun o3 =>
  Option.bind (if o3.2.2.2.2.2.2.1 = 0 then (
    (f_X12_whyNotRequest m_parsed o2.1 o3.1).bind fun o5 =>
    if o5 = 0 then (
      some (0))
    else (
      some (1)))
  else (
    some (0)) : Option (Int32)) fun j4 =>
  (f_X12_mayDo o3.2.2.1 o3.2.2.2.1 o3.2.2.2.2.2.2.1 o3.2.2.2.2.2.2.2 m_input j4).bind fun o6 =>
  if o6.1 = 0 then (
    (f_X12_next m_inputLength o3.2.1 o3.2.2.1 o3.2.2.2.1 o3.2.2.2.2.1 o3.2.2.2.2.2.1 o6.2.1 m_input).bind fun o7 =>
    some (o7.1, o7.2.1, o7.2.2.1, o7.2.2.2.1, o7.2.2.2.2, o6.2.1, o6.2.2, m_parsed))
  else (
    (f_X12_ofService o3.1).bind fun o8 =>
    (rd m_parsed 463 (o8 + 1)).bind fun x9 =>
    (f_X12_derive m_parsed o2.1 x9 o3.1).bind fun o10 =>
    if 0 ≤ o10.1 then (
      (f_X12_next m_inputLength o3.2.1 o3.2.2.1 o3.2.2.2.1 o3.2.2.2.2.1 o3.2.2.2.2.2.1 o6.2.1 m_input).bind fun o11 =>
      some (o11.1, o11.2.1, o11.2.2.1, o11.2.2.2.1, o11.2.2.2.2, o6.2.1, o6.2.2, o10.2))
    else (
      (f_X12_next m_inputLength o3.2.1 o3.2.2.1 o3.2.2.2.1 o3.2.2.2.2.1 o3.2.2.2.2.2.1 1 m_input).bind fun o12 =>
      some (o12.1, o12.2.1, o12.2.2.1, o12.2.2.2.1, o12.2.2.2.2, 1, o6.2.2, o10.2)))
set_option maxRecDepth 100000 in
set_option maxHeartbeats 4000000 in
theorem c_X12_readRequest (l : Launch) {G : (Nat → Prop) → State → Heap → Prop} (hG : vG G) (D : va_G) (c9 : Nat → ClassId) (ad : Nat → Nat) (m_undoable : Int32) (m_undoStart : Int32) (m_thrown : Int32) (m_inputLength : Int32) (m_position : Int32) (m_start : Int32) (m_token : Int32) (m_value : Int32) (m_letters : Int32) (m_code : Int32) (m_place : Int32) (m_outputLength : Int32) (m_s : Nat → Int32) (m_parsed : Nat → Int32) (m_tried : Nat → Int32) (m_remembered : Nat → Int32) (m_slots : Nat → Int32) (m_kept : Nat → Int32) (m_away : Nat → Int32) (m_input : Nat → Int32) (m_halfway : Nat → Int32) (m_output : Nat → Int32)  {o : Int32 × Int32 × Int32 × Int32 × Int32 × Int32 × Int32 × (Nat → Int32)} (hf : f_X12_readRequest m_inputLength m_position m_start m_token m_value m_letters m_code m_place m_parsed m_input = some o) : mV l yX12_readRequest wsX12_readRequest { frames := 6, cells := 0, slots := 0, locals := 124 } G D (tyA c9) [.ref (ad 0)] (wX12 ad c9 m_undoable m_undoStart m_thrown m_inputLength m_position m_start m_token m_value m_letters m_code m_place m_outputLength m_s m_parsed m_tried m_remembered m_slots m_kept m_away m_input m_halfway m_output) [] 0 0 (wX12 ad c9 m_undoable m_undoStart m_thrown m_inputLength o.1 o.2.1 o.2.2.1 o.2.2.2.1 o.2.2.2.2.1 o.2.2.2.2.2.1 o.2.2.2.2.2.2.1 m_outputLength m_s o.2.2.2.2.2.2.2 m_tried m_remembered m_slots m_kept m_away m_input m_halfway m_output) := by
  refine mV_of hG (cc := cX12_readRequest) (maxL := 3) (by decide) rfl (Nat.le_of_ble_eq_true rfl) ?_
  intro p e s m args below meth c A hnm X
  have X : vX p s m args meth c cX12_readRequest 3 none RX12 wsX12_readRequest D (tyA c9) G A := X
  refine v_eq (lv2 := [(0, .ref (ad 0))]) rfl rfl rfl rfl ?_
  rw [f_X12_readRequest] at hf
  refine v_aload_n X dX12_readRequest_0 0 rfl rfl 1 rfl ?_
  obtain ⟨o1, ho1, hf⟩ := bnd hf
  refine v_callVv X (ci := 11) (T := TX12) (C := RX12) (As := []) (rest := []) (ws' := (wX12 ad c9 m_undoable m_undoStart m_thrown m_inputLength o1.1 o1.2.1 o1.2.2.1 o1.2.2.2.1 o1.2.2.2.2 m_code m_place m_outputLength m_s m_parsed m_tried m_remembered m_slots m_kept m_away m_input m_halfway m_output)) (c_X12_next l hG D c9 ad m_undoable m_undoStart m_thrown m_inputLength m_position m_start m_token m_value m_letters m_code m_place m_outputLength m_s m_parsed m_tried m_remembered m_slots m_kept m_away m_input m_halfway m_output ho1) 0 gX12_readRequest_X12_next rfl rfl rfl ⟨rfl, pd_X12_next⟩ ⟨Nat.le_of_ble_eq_true rfl, Nat.le_of_ble_eq_true rfl⟩ 0 rfl rfl rfl rfl (Nat.le_of_ble_eq_true rfl) ⟨Nat.zero_le _, Nat.zero_le _⟩ [0, 1, 2, 3, 4, 5, 6, 7, 8, 9, 10] [] [0, 1, 2, 3, 4, 5, 6, 7, 8, 9, 10] rfl rfl rfl rfl dX12_readRequest_1 4 rfl ?_
  refine v_aload_n X dX12_readRequest_4 0 rfl rfl 5 rfl ?_
  obtain ⟨o2, ho2, hf⟩ := bnd hf
  refine v_callVi X (ci := 11) (T := TX12) (C := RX12) (As := []) (rest := []) (ws' := (wX12 ad c9 m_undoable m_undoStart m_thrown m_inputLength o2.2.1 o2.2.2.1 o2.2.2.2.1 o2.2.2.2.2.1 o2.2.2.2.2.2.1 o2.2.2.2.2.2.2.1 o2.2.2.2.2.2.2.2 m_outputLength m_s m_parsed m_tried m_remembered m_slots m_kept m_away m_input m_halfway m_output)) (c_X12_ticketHere l hG D c9 ad m_undoable m_undoStart m_thrown m_inputLength o1.1 o1.2.1 o1.2.2.1 o1.2.2.2.1 o1.2.2.2.2 m_code m_place m_outputLength m_s m_parsed m_tried m_remembered m_slots m_kept m_away m_input m_halfway m_output ho2) 0 gX12_readRequest_X12_ticketHere rfl rfl rfl ⟨rfl, pd_X12_ticketHere⟩ ⟨Nat.le_of_ble_eq_true rfl, Nat.le_of_ble_eq_true rfl⟩ 0 rfl rfl rfl rfl (Nat.le_of_ble_eq_true rfl) ⟨Nat.zero_le _, Nat.zero_le _⟩ [0, 1, 2, 3, 4, 5, 6, 7, 8, 9, 10] [] [0, 1, 2, 3, 4, 5, 6, 7, 8, 9, 10] rfl rfl rfl rfl dX12_readRequest_5 8 rfl ?_
  refine v_istore_n X (lv' := [(1, .int o2.1), (0, .ref (ad 0))]) dX12_readRequest_8 rfl (by decide) rfl 9 rfl ?_
  refine v_aload_n X dX12_readRequest_9 1 rfl rfl 10 rfl ?_
  obtain ⟨o3, ho3, hf⟩ := bnd hf
  refine v_callVi X (ci := 11) (T := TX12) (C := RX12) (As := []) (rest := []) (ws' := (wX12 ad c9 m_undoable m_undoStart m_thrown m_inputLength o3.2.1 o3.2.2.1 o3.2.2.2.1 o3.2.2.2.2.1 o3.2.2.2.2.2.1 o3.2.2.2.2.2.2.1 o3.2.2.2.2.2.2.2 m_outputLength m_s m_parsed m_tried m_remembered m_slots m_kept m_away m_input m_halfway m_output)) (c_X12_serviceHere l hG D c9 ad m_undoable m_undoStart m_thrown m_inputLength o2.2.1 o2.2.2.1 o2.2.2.2.1 o2.2.2.2.2.1 o2.2.2.2.2.2.1 o2.2.2.2.2.2.2.1 o2.2.2.2.2.2.2.2 m_outputLength m_s m_parsed m_tried m_remembered m_slots m_kept m_away m_input m_halfway m_output ho3) 0 gX12_readRequest_X12_serviceHere rfl rfl rfl ⟨rfl, pd_X12_serviceHere⟩ ⟨Nat.le_of_ble_eq_true rfl, Nat.le_of_ble_eq_true rfl⟩ 0 rfl rfl rfl rfl (Nat.le_of_ble_eq_true rfl) ⟨Nat.zero_le _, Nat.zero_le _⟩ [0, 1, 2, 3, 4, 5, 6, 7, 8, 9, 10] [] [0, 1, 2, 3, 4, 5, 6, 7, 8, 9, 10] rfl rfl rfl rfl dX12_readRequest_10 13 rfl ?_
  refine v_istore_n X (lv' := [(2, .int o3.1), (1, .int o2.1), (0, .ref (ad 0))]) dX12_readRequest_13 rfl (by decide) rfl 14 rfl ?_
  refine v_aload_n X dX12_readRequest_14 2 rfl rfl 15 rfl ?_
  refine v_aload_n X dX12_readRequest_15 2 rfl rfl 16 rfl ?_
  refine v_get X (C := RX12) (T := TX12) (N := 22) (ci := 11) (v := _) dX12_readRequest_16 k_X12_readRequest_w12 0 rfl rfl 17 (by decide) k_X12_readRequest_1 rfl rfl 19 rfl ?_
  obtain ⟨j4, hj4, hf⟩ := bnd hf
  have Jj4 : vW p l e { frames := 6, cells := 0, slots := 0, locals := 124 } s m args below meth c 3 D A [] 0 0 (MQ below (eV D (tyA c9) A ((wX12 ad c9 m_undoable m_undoStart m_thrown m_inputLength o.1 o.2.1 o.2.2.1 o.2.2.2.1 o.2.2.2.2.1 o.2.2.2.2.2.1 o.2.2.2.2.2.2.1 m_outputLength m_s o.2.2.2.2.2.2.2 m_tried m_remembered m_slots m_kept m_away m_input m_halfway m_output) ++ [])) args s 0 0 A) (wX12 ad c9 m_undoable m_undoStart m_thrown m_inputLength o3.2.1 o3.2.2.1 o3.2.2.2.1 o3.2.2.2.2.1 o3.2.2.2.2.2.1 o3.2.2.2.2.2.2.1 o3.2.2.2.2.2.2.2 m_outputLength m_s m_parsed m_tried m_remembered m_slots m_kept m_away m_input m_halfway m_output) 39 [(0, .ref (ad 0)), (1, .int o2.1), (2, .int o3.1)] [.int j4, .ref (ad 0)] := by
    obtain ⟨o6, ho6, hf⟩ := bnd hf
    refine v_callVi X (ci := 11) (T := TX12) (C := RX12) (As := [.int j4]) (rest := []) (ws' := (wX12 ad c9 m_undoable m_undoStart m_thrown m_inputLength o3.2.1 o3.2.2.1 o3.2.2.2.1 o3.2.2.2.2.1 o3.2.2.2.2.2.1 o6.2.1 o6.2.2 m_outputLength m_s m_parsed m_tried m_remembered m_slots m_kept m_away m_input m_halfway m_output)) (c_X12_mayDo l hG D c9 ad m_undoable m_undoStart m_thrown m_inputLength o3.2.1 o3.2.2.1 o3.2.2.2.1 o3.2.2.2.2.1 o3.2.2.2.2.2.1 o3.2.2.2.2.2.2.1 o3.2.2.2.2.2.2.2 m_outputLength m_s m_parsed m_tried m_remembered m_slots m_kept m_away m_input m_halfway m_output j4 ho6) 1 gX12_readRequest_X12_mayDo rfl rfl rfl ⟨rfl, pd_X12_mayDo⟩ ⟨Nat.le_of_ble_eq_true rfl, Nat.le_of_ble_eq_true rfl⟩ 0 rfl rfl rfl rfl (Nat.le_of_ble_eq_true rfl) ⟨Nat.zero_le _, Nat.zero_le _⟩ [0, 1, 2, 3, 4, 5, 6, 7, 8, 9, 10] [] [0, 1, 2, 3, 4, 5, 6, 7, 8, 9, 10] rfl rfl rfl rfl dX12_readRequest_39 42 rfl ?_
    refine v_if_eq X (tgt := 73) dX12_readRequest_42 rfl 45 rfl hf (fun hf => ?_) (fun hf => ?_)
    · refine v_aload_n X dX12_readRequest_73 0 rfl rfl 74 rfl ?_
      obtain ⟨o7, ho7, hf⟩ := bnd hf
      refine v_callVv X (ci := 11) (T := TX12) (C := RX12) (As := []) (rest := []) (ws' := (wX12 ad c9 m_undoable m_undoStart m_thrown m_inputLength o7.1 o7.2.1 o7.2.2.1 o7.2.2.2.1 o7.2.2.2.2 o6.2.1 o6.2.2 m_outputLength m_s m_parsed m_tried m_remembered m_slots m_kept m_away m_input m_halfway m_output)) (c_X12_next l hG D c9 ad m_undoable m_undoStart m_thrown m_inputLength o3.2.1 o3.2.2.1 o3.2.2.2.1 o3.2.2.2.2.1 o3.2.2.2.2.2.1 o6.2.1 o6.2.2 m_outputLength m_s m_parsed m_tried m_remembered m_slots m_kept m_away m_input m_halfway m_output ho7) 0 gX12_readRequest_X12_next rfl rfl rfl ⟨rfl, pd_X12_next⟩ ⟨Nat.le_of_ble_eq_true rfl, Nat.le_of_ble_eq_true rfl⟩ 0 rfl rfl rfl rfl (Nat.le_of_ble_eq_true rfl) ⟨Nat.zero_le _, Nat.zero_le _⟩ [0, 1, 2, 3, 4, 5, 6, 7, 8, 9, 10] [] [0, 1, 2, 3, 4, 5, 6, 7, 8, 9, 10] rfl rfl rfl rfl dX12_readRequest_74 77 rfl ?_
      cases hf
      exact v_vret X (Nat.zero_le _) (Nat.zero_le _) dX12_readRequest_77
    · refine v_aload_n X dX12_readRequest_45 0 rfl rfl 46 rfl ?_
      refine v_get X (C := RX12) (T := TX12) (N := 22) (ci := 11) (v := _) dX12_readRequest_46 k_X12_readRequest_w12 0 rfl rfl 1 (by decide) k_X12_readRequest_2 rfl rfl 49 rfl ?_
      refine v_iload_n X dX12_readRequest_49 1 rfl rfl 50 rfl ?_
      refine v_aload_n X dX12_readRequest_50 0 rfl rfl 51 rfl ?_
      refine v_get X (C := RX12) (T := TX12) (N := 22) (ci := 11) (v := _) dX12_readRequest_51 k_X12_readRequest_w12 0 rfl rfl 1 (by decide) k_X12_readRequest_2 rfl rfl 54 rfl ?_
      refine v_iload_n X dX12_readRequest_54 2 rfl rfl 55 rfl ?_
      obtain ⟨o8, ho8, hf⟩ := bnd hf
      refine v_callSi X (As := [.int o3.1]) (rest := [.ref (ad 2), .int o2.1, .ref (ad 2)]) (ws' := (wX12 ad c9 m_undoable m_undoStart m_thrown m_inputLength o3.2.1 o3.2.2.1 o3.2.2.2.1 o3.2.2.2.2.1 o3.2.2.2.2.2.1 o6.2.1 o6.2.2 m_outputLength m_s m_parsed m_tried m_remembered m_slots m_kept m_away m_input m_halfway m_output)) (c_X12_ofService l hG D c9 o3.1 ho8) 1 gX12_readRequest_X12_ofService rfl rfl rfl pd_X12_ofService ⟨Nat.le_of_ble_eq_true rfl, Nat.le_of_ble_eq_true rfl⟩ rfl rfl (Nat.le_of_ble_eq_true rfl) ⟨Nat.zero_le _, Nat.zero_le _⟩ [] [0, 1, 2, 3, 4, 5, 6, 7, 8, 9, 10] [0, 1, 2, 3, 4, 5, 6, 7, 8, 9, 10] rfl rfl rfl rfl dX12_readRequest_55 58 rfl ?_
      refine v_iconst X dX12_readRequest_58 ic_1 59 rfl ?_
      refine v_iadd X dX12_readRequest_59 60 rfl ?_
      obtain ⟨x9, hx9, hf⟩ := bnd hf
      refine v_iald X dX12_readRequest_60 2 0 rfl rfl hx9 61 rfl ?_
      refine v_iload_n X dX12_readRequest_61 2 rfl rfl 62 rfl ?_
      obtain ⟨o10, ho10, hf⟩ := bnd hf
      refine v_callSi X (As := [.ref (ad 2), .int o2.1, .int x9, .int o3.1]) (rest := []) (ws' := (wX12 ad c9 m_undoable m_undoStart m_thrown m_inputLength o3.2.1 o3.2.2.1 o3.2.2.2.1 o3.2.2.2.2.1 o3.2.2.2.2.2.1 o6.2.1 o6.2.2 m_outputLength m_s o10.2 m_tried m_remembered m_slots m_kept m_away m_input m_halfway m_output)) (c_X12_derive l hG D c9 (ad 2) m_parsed o2.1 x9 o3.1 ho10) 4 gX12_readRequest_X12_derive rfl rfl rfl pd_X12_derive ⟨Nat.le_of_ble_eq_true rfl, Nat.le_of_ble_eq_true rfl⟩ rfl rfl (Nat.le_of_ble_eq_true rfl) ⟨Nat.zero_le _, Nat.zero_le _⟩ [2] [0, 1, 3, 4, 5, 6, 7, 8, 9, 10] [0, 1, 10, 2, 3, 4, 5, 6, 7, 8, 9] rfl rfl rfl rfl dX12_readRequest_62 65 rfl ?_
      refine v_if_ge X (tgt := 73) dX12_readRequest_65 rfl 68 rfl hf (fun hf => ?_) (fun hf => ?_)
      · refine v_aload_n X dX12_readRequest_73 0 rfl rfl 74 rfl ?_
        obtain ⟨o11, ho11, hf⟩ := bnd hf
        refine v_callVv X (ci := 11) (T := TX12) (C := RX12) (As := []) (rest := []) (ws' := (wX12 ad c9 m_undoable m_undoStart m_thrown m_inputLength o11.1 o11.2.1 o11.2.2.1 o11.2.2.2.1 o11.2.2.2.2 o6.2.1 o6.2.2 m_outputLength m_s o10.2 m_tried m_remembered m_slots m_kept m_away m_input m_halfway m_output)) (c_X12_next l hG D c9 ad m_undoable m_undoStart m_thrown m_inputLength o3.2.1 o3.2.2.1 o3.2.2.2.1 o3.2.2.2.2.1 o3.2.2.2.2.2.1 o6.2.1 o6.2.2 m_outputLength m_s o10.2 m_tried m_remembered m_slots m_kept m_away m_input m_halfway m_output ho11) 0 gX12_readRequest_X12_next rfl rfl rfl ⟨rfl, pd_X12_next⟩ ⟨Nat.le_of_ble_eq_true rfl, Nat.le_of_ble_eq_true rfl⟩ 0 rfl rfl rfl rfl (Nat.le_of_ble_eq_true rfl) ⟨Nat.zero_le _, Nat.zero_le _⟩ [0, 1, 2, 3, 4, 5, 6, 7, 8, 9, 10] [] [0, 1, 2, 3, 4, 5, 6, 7, 8, 9, 10] rfl rfl rfl rfl dX12_readRequest_74 77 rfl ?_
        cases hf
        exact v_vret X (Nat.zero_le _) (Nat.zero_le _) dX12_readRequest_77
      · refine v_aload_n X dX12_readRequest_68 0 rfl rfl 69 rfl ?_
        refine v_iconst X dX12_readRequest_69 ic_1 70 rfl ?_
        refine v_put X (C := RX12) (T := TX12) (N := 22) (ci := 11) (ty := tyX12 17) (ws' := (wX12 ad c9 m_undoable m_undoStart m_thrown m_inputLength o3.2.1 o3.2.2.1 o3.2.2.2.1 o3.2.2.2.2.1 o3.2.2.2.2.2.1 1 o6.2.2 m_outputLength m_s o10.2 m_tried m_remembered m_slots m_kept m_away m_input m_halfway m_output)) dX12_readRequest_70 k_X12_readRequest_w12 0 rfl rfl 17 (by decide) tyX12 tyX12_ok nmX12 k_X12_readRequest_1 rfl rfl (tyX12_ok 17 (by decide)) rfl rfl (by decide) rfl 73 rfl ?_
        refine v_aload_n X dX12_readRequest_73 0 rfl rfl 74 rfl ?_
        obtain ⟨o12, ho12, hf⟩ := bnd hf
        refine v_callVv X (ci := 11) (T := TX12) (C := RX12) (As := []) (rest := []) (ws' := (wX12 ad c9 m_undoable m_undoStart m_thrown m_inputLength o12.1 o12.2.1 o12.2.2.1 o12.2.2.2.1 o12.2.2.2.2 1 o6.2.2 m_outputLength m_s o10.2 m_tried m_remembered m_slots m_kept m_away m_input m_halfway m_output)) (c_X12_next l hG D c9 ad m_undoable m_undoStart m_thrown m_inputLength o3.2.1 o3.2.2.1 o3.2.2.2.1 o3.2.2.2.2.1 o3.2.2.2.2.2.1 1 o6.2.2 m_outputLength m_s o10.2 m_tried m_remembered m_slots m_kept m_away m_input m_halfway m_output ho12) 0 gX12_readRequest_X12_next rfl rfl rfl ⟨rfl, pd_X12_next⟩ ⟨Nat.le_of_ble_eq_true rfl, Nat.le_of_ble_eq_true rfl⟩ 0 rfl rfl rfl rfl (Nat.le_of_ble_eq_true rfl) ⟨Nat.zero_le _, Nat.zero_le _⟩ [0, 1, 2, 3, 4, 5, 6, 7, 8, 9, 10] [] [0, 1, 2, 3, 4, 5, 6, 7, 8, 9, 10] rfl rfl rfl rfl dX12_readRequest_74 77 rfl ?_
        cases hf
        exact v_vret X (Nat.zero_le _) (Nat.zero_le _) dX12_readRequest_77
  clear hf
  refine v_if_ne X (tgt := 38) dX12_readRequest_19 rfl 22 rfl hj4 (fun hf => ?_) (fun hf => ?_)
  · refine v_iconst X dX12_readRequest_38 ic_0 39 rfl ?_
    cases hf
    refine v_sub (lv' := [(0, .ref (ad 0)), (1, .int o2.1), (2, .int o3.1)]) [2, 1, 0] rfl ?_
    exact Jj4
  · refine v_aload_n X dX12_readRequest_22 2 rfl rfl 23 rfl ?_
    refine v_get X (C := RX12) (T := TX12) (N := 22) (ci := 11) (v := _) dX12_readRequest_23 k_X12_readRequest_w12 0 rfl rfl 1 (by decide) k_X12_readRequest_2 rfl rfl 26 rfl ?_
    refine v_iload_n X dX12_readRequest_26 1 rfl rfl 27 rfl ?_
    refine v_iload_n X dX12_readRequest_27 0 rfl rfl 28 rfl ?_
    obtain ⟨o5, ho5, hf⟩ := bnd hf
    refine v_callSi X (As := [.ref (ad 2), .int o2.1, .int o3.1]) (rest := [.ref (ad 0)]) (ws' := (wX12 ad c9 m_undoable m_undoStart m_thrown m_inputLength o3.2.1 o3.2.2.1 o3.2.2.2.1 o3.2.2.2.2.1 o3.2.2.2.2.2.1 o3.2.2.2.2.2.2.1 o3.2.2.2.2.2.2.2 m_outputLength m_s m_parsed m_tried m_remembered m_slots m_kept m_away m_input m_halfway m_output)) (c_X12_whyNotRequest l hG D c9 (ad 2) m_parsed o2.1 o3.1 ho5) 3 gX12_readRequest_X12_whyNotRequest rfl rfl rfl pd_X12_whyNotRequest ⟨Nat.le_of_ble_eq_true rfl, Nat.le_of_ble_eq_true rfl⟩ rfl rfl (Nat.le_of_ble_eq_true rfl) ⟨Nat.zero_le _, Nat.zero_le _⟩ [2] [0, 1, 3, 4, 5, 6, 7, 8, 9, 10] [0, 1, 10, 2, 3, 4, 5, 6, 7, 8, 9] rfl rfl rfl rfl dX12_readRequest_28 31 rfl ?_
    refine v_if_eq X (tgt := 38) dX12_readRequest_31 rfl 34 rfl hf (fun hf => ?_) (fun hf => ?_)
    · refine v_iconst X dX12_readRequest_38 ic_0 39 rfl ?_
      cases hf
      refine v_sub (lv' := [(0, .ref (ad 0)), (1, .int o2.1), (2, .int o3.1)]) [2, 1, 0] rfl ?_
      exact Jj4
    · refine v_iconst X dX12_readRequest_34 ic_1 35 rfl ?_
      refine v_goto X (tgt := 39) dX12_readRequest_35 rfl ?_
      cases hf
      refine v_sub (lv' := [(0, .ref (ad 0)), (1, .int o2.1), (2, .int o3.1)]) [2, 1, 0] rfl ?_
      exact Jj4
theorem pd_X12_readRequest : yX12_readRequest.cls ≠ "java/lang/invoke/MethodHandle" ∧ yX12_readRequest.cls ≠ "java/lang/invoke/VarHandle" ∧ (parseMethodDescriptor yX12_readRequest.desc).map (fun d => d.parameters.length) = some 0 := by decide +kernel
theorem k_X12_readRenew_w12 : ∀ w ∈ u_ws RX12 TX12 22, w ∈ wsX12_readRenew := in_r _ [78, 79, 80, 81, 82, 83, 84, 85, 86, 87, 88, 89, 90, 91, 92, 93, 94, 95, 96, 97, 98, 99] rfl
theorem k_X12_readRenew_1 : Cond.fieldLink RX12 164 "TicketGateModel" "code" "I" ∈ wsX12_readRenew := List.mem_of_getElem? (i := 1) rfl
theorem k_X12_readRenew_2 : Cond.fieldLink RX12 13 "TicketGateModel" "parsed" "[I" ∈ wsX12_readRenew := List.mem_of_getElem? (i := 2) rfl
def f_X12_readRenew (m_inputLength : Int32) (m_position : Int32) (m_start : Int32) (m_token : Int32) (m_value : Int32) (m_letters : Int32) (m_code : Int32) (m_place : Int32) (m_parsed : Nat → Int32) (m_input : Nat → Int32) : Option (Int32 × Int32 × Int32 × Int32 × Int32 × Int32 × Int32 × (Nat → Int32)) :=
  (f_X12_next m_inputLength m_position m_start m_token m_value m_letters m_code m_input).bind fun o1 =>
  (f_X12_ticketHere m_inputLength o1.1 o1.2.1 o1.2.2.1 o1.2.2.2.1 o1.2.2.2.2 m_code m_place m_parsed m_input).bind fun o2 =>
  Option.bind (if o2.2.2.2.2.2.2.1 = 0 then (
    (f_X12_whyNotRenew m_parsed o2.1).bind fun o4 =>
    if o4 = 0 then (
      some (0))
    else (
      some (1)))
  else (
    some (0)) : Option (Int32)) fun j3 =>
  (f_X12_mayDo o2.2.2.1 o2.2.2.2.1 o2.2.2.2.2.2.2.1 o2.2.2.2.2.2.2.2 m_input j3).bind fun o5 =>
  if o5.1 = 0 then (
    (f_X12_next m_inputLength o2.2.1 o2.2.2.1 o2.2.2.2.1 o2.2.2.2.2.1 o2.2.2.2.2.2.1 o5.2.1 m_input).bind fun o6 =>
    some (o6.1, o6.2.1, o6.2.2.1, o6.2.2.2.1, o6.2.2.2.2, o5.2.1, o5.2.2, m_parsed))
  else (
    (f_X12_renews m_parsed o2.1).bind fun o7 =>
    if 0 ≤ o7.1 then (
      (f_X12_next m_inputLength o2.2.1 o2.2.2.1 o2.2.2.2.1 o2.2.2.2.2.1 o2.2.2.2.2.2.1 o5.2.1 m_input).bind fun o8 =>
      some (o8.1, o8.2.1, o8.2.2.1, o8.2.2.2.1, o8.2.2.2.2, o5.2.1, o5.2.2, o7.2))
    else (
      (f_X12_next m_inputLength o2.2.1 o2.2.2.1 o2.2.2.2.1 o2.2.2.2.2.1 o2.2.2.2.2.2.1 1 m_input).bind fun o9 =>
      some (o9.1, o9.2.1, o9.2.2.1, o9.2.2.2.1, o9.2.2.2.2, 1, o5.2.2, o7.2)))
set_option maxRecDepth 100000 in
set_option maxHeartbeats 4000000 in
theorem c_X12_readRenew (l : Launch) {G : (Nat → Prop) → State → Heap → Prop} (hG : vG G) (D : va_G) (c9 : Nat → ClassId) (ad : Nat → Nat) (m_undoable : Int32) (m_undoStart : Int32) (m_thrown : Int32) (m_inputLength : Int32) (m_position : Int32) (m_start : Int32) (m_token : Int32) (m_value : Int32) (m_letters : Int32) (m_code : Int32) (m_place : Int32) (m_outputLength : Int32) (m_s : Nat → Int32) (m_parsed : Nat → Int32) (m_tried : Nat → Int32) (m_remembered : Nat → Int32) (m_slots : Nat → Int32) (m_kept : Nat → Int32) (m_away : Nat → Int32) (m_input : Nat → Int32) (m_halfway : Nat → Int32) (m_output : Nat → Int32)  {o : Int32 × Int32 × Int32 × Int32 × Int32 × Int32 × Int32 × (Nat → Int32)} (hf : f_X12_readRenew m_inputLength m_position m_start m_token m_value m_letters m_code m_place m_parsed m_input = some o) : mV l yX12_readRenew wsX12_readRenew { frames := 6, cells := 0, slots := 0, locals := 124 } G D (tyA c9) [.ref (ad 0)] (wX12 ad c9 m_undoable m_undoStart m_thrown m_inputLength m_position m_start m_token m_value m_letters m_code m_place m_outputLength m_s m_parsed m_tried m_remembered m_slots m_kept m_away m_input m_halfway m_output) [] 0 0 (wX12 ad c9 m_undoable m_undoStart m_thrown m_inputLength o.1 o.2.1 o.2.2.1 o.2.2.2.1 o.2.2.2.2.1 o.2.2.2.2.2.1 o.2.2.2.2.2.2.1 m_outputLength m_s o.2.2.2.2.2.2.2 m_tried m_remembered m_slots m_kept m_away m_input m_halfway m_output) := by
  refine mV_of hG (cc := cX12_readRenew) (maxL := 2) (by decide) rfl (Nat.le_of_ble_eq_true rfl) ?_
  intro p e s m args below meth c A hnm X
  have X : vX p s m args meth c cX12_readRenew 2 none RX12 wsX12_readRenew D (tyA c9) G A := X
  refine v_eq (lv2 := [(0, .ref (ad 0))]) rfl rfl rfl rfl ?_
  rw [f_X12_readRenew] at hf
  refine v_aload_n X dX12_readRenew_0 0 rfl rfl 1 rfl ?_
  obtain ⟨o1, ho1, hf⟩ := bnd hf
  refine v_callVv X (ci := 11) (T := TX12) (C := RX12) (As := []) (rest := []) (ws' := (wX12 ad c9 m_undoable m_undoStart m_thrown m_inputLength o1.1 o1.2.1 o1.2.2.1 o1.2.2.2.1 o1.2.2.2.2 m_code m_place m_outputLength m_s m_parsed m_tried m_remembered m_slots m_kept m_away m_input m_halfway m_output)) (c_X12_next l hG D c9 ad m_undoable m_undoStart m_thrown m_inputLength m_position m_start m_token m_value m_letters m_code m_place m_outputLength m_s m_parsed m_tried m_remembered m_slots m_kept m_away m_input m_halfway m_output ho1) 0 gX12_readRenew_X12_next rfl rfl rfl ⟨rfl, pd_X12_next⟩ ⟨Nat.le_of_ble_eq_true rfl, Nat.le_of_ble_eq_true rfl⟩ 0 rfl rfl rfl rfl (Nat.le_of_ble_eq_true rfl) ⟨Nat.zero_le _, Nat.zero_le _⟩ [0, 1, 2, 3, 4, 5, 6, 7, 8, 9, 10] [] [0, 1, 2, 3, 4, 5, 6, 7, 8, 9, 10] rfl rfl rfl rfl dX12_readRenew_1 4 rfl ?_
  refine v_aload_n X dX12_readRenew_4 0 rfl rfl 5 rfl ?_
  obtain ⟨o2, ho2, hf⟩ := bnd hf
  refine v_callVi X (ci := 11) (T := TX12) (C := RX12) (As := []) (rest := []) (ws' := (wX12 ad c9 m_undoable m_undoStart m_thrown m_inputLength o2.2.1 o2.2.2.1 o2.2.2.2.1 o2.2.2.2.2.1 o2.2.2.2.2.2.1 o2.2.2.2.2.2.2.1 o2.2.2.2.2.2.2.2 m_outputLength m_s m_parsed m_tried m_remembered m_slots m_kept m_away m_input m_halfway m_output)) (c_X12_ticketHere l hG D c9 ad m_undoable m_undoStart m_thrown m_inputLength o1.1 o1.2.1 o1.2.2.1 o1.2.2.2.1 o1.2.2.2.2 m_code m_place m_outputLength m_s m_parsed m_tried m_remembered m_slots m_kept m_away m_input m_halfway m_output ho2) 0 gX12_readRenew_X12_ticketHere rfl rfl rfl ⟨rfl, pd_X12_ticketHere⟩ ⟨Nat.le_of_ble_eq_true rfl, Nat.le_of_ble_eq_true rfl⟩ 0 rfl rfl rfl rfl (Nat.le_of_ble_eq_true rfl) ⟨Nat.zero_le _, Nat.zero_le _⟩ [0, 1, 2, 3, 4, 5, 6, 7, 8, 9, 10] [] [0, 1, 2, 3, 4, 5, 6, 7, 8, 9, 10] rfl rfl rfl rfl dX12_readRenew_5 8 rfl ?_
  refine v_istore_n X (lv' := [(1, .int o2.1), (0, .ref (ad 0))]) dX12_readRenew_8 rfl (by decide) rfl 9 rfl ?_
  refine v_aload_n X dX12_readRenew_9 1 rfl rfl 10 rfl ?_
  refine v_aload_n X dX12_readRenew_10 1 rfl rfl 11 rfl ?_
  refine v_get X (C := RX12) (T := TX12) (N := 22) (ci := 11) (v := _) dX12_readRenew_11 k_X12_readRenew_w12 0 rfl rfl 17 (by decide) k_X12_readRenew_1 rfl rfl 14 rfl ?_
  obtain ⟨j3, hj3, hf⟩ := bnd hf
  have Jj3 : vW p l e { frames := 6, cells := 0, slots := 0, locals := 124 } s m args below meth c 2 D A [] 0 0 (MQ below (eV D (tyA c9) A ((wX12 ad c9 m_undoable m_undoStart m_thrown m_inputLength o.1 o.2.1 o.2.2.1 o.2.2.2.1 o.2.2.2.2.1 o.2.2.2.2.2.1 o.2.2.2.2.2.2.1 m_outputLength m_s o.2.2.2.2.2.2.2 m_tried m_remembered m_slots m_kept m_away m_input m_halfway m_output) ++ [])) args s 0 0 A) (wX12 ad c9 m_undoable m_undoStart m_thrown m_inputLength o2.2.1 o2.2.2.1 o2.2.2.2.1 o2.2.2.2.2.1 o2.2.2.2.2.2.1 o2.2.2.2.2.2.2.1 o2.2.2.2.2.2.2.2 m_outputLength m_s m_parsed m_tried m_remembered m_slots m_kept m_away m_input m_halfway m_output) 33 [(0, .ref (ad 0)), (1, .int o2.1)] [.int j3, .ref (ad 0)] := by
    obtain ⟨o5, ho5, hf⟩ := bnd hf
    refine v_callVi X (ci := 11) (T := TX12) (C := RX12) (As := [.int j3]) (rest := []) (ws' := (wX12 ad c9 m_undoable m_undoStart m_thrown m_inputLength o2.2.1 o2.2.2.1 o2.2.2.2.1 o2.2.2.2.2.1 o2.2.2.2.2.2.1 o5.2.1 o5.2.2 m_outputLength m_s m_parsed m_tried m_remembered m_slots m_kept m_away m_input m_halfway m_output)) (c_X12_mayDo l hG D c9 ad m_undoable m_undoStart m_thrown m_inputLength o2.2.1 o2.2.2.1 o2.2.2.2.1 o2.2.2.2.2.1 o2.2.2.2.2.2.1 o2.2.2.2.2.2.2.1 o2.2.2.2.2.2.2.2 m_outputLength m_s m_parsed m_tried m_remembered m_slots m_kept m_away m_input m_halfway m_output j3 ho5) 1 gX12_readRenew_X12_mayDo rfl rfl rfl ⟨rfl, pd_X12_mayDo⟩ ⟨Nat.le_of_ble_eq_true rfl, Nat.le_of_ble_eq_true rfl⟩ 0 rfl rfl rfl rfl (Nat.le_of_ble_eq_true rfl) ⟨Nat.zero_le _, Nat.zero_le _⟩ [0, 1, 2, 3, 4, 5, 6, 7, 8, 9, 10] [] [0, 1, 2, 3, 4, 5, 6, 7, 8, 9, 10] rfl rfl rfl rfl dX12_readRenew_33 36 rfl ?_
    refine v_if_eq X (tgt := 55) dX12_readRenew_36 rfl 39 rfl hf (fun hf => ?_) (fun hf => ?_)
    · refine v_aload_n X dX12_readRenew_55 0 rfl rfl 56 rfl ?_
      obtain ⟨o6, ho6, hf⟩ := bnd hf
      refine v_callVv X (ci := 11) (T := TX12) (C := RX12) (As := []) (rest := []) (ws' := (wX12 ad c9 m_undoable m_undoStart m_thrown m_inputLength o6.1 o6.2.1 o6.2.2.1 o6.2.2.2.1 o6.2.2.2.2 o5.2.1 o5.2.2 m_outputLength m_s m_parsed m_tried m_remembered m_slots m_kept m_away m_input m_halfway m_output)) (c_X12_next l hG D c9 ad m_undoable m_undoStart m_thrown m_inputLength o2.2.1 o2.2.2.1 o2.2.2.2.1 o2.2.2.2.2.1 o2.2.2.2.2.2.1 o5.2.1 o5.2.2 m_outputLength m_s m_parsed m_tried m_remembered m_slots m_kept m_away m_input m_halfway m_output ho6) 0 gX12_readRenew_X12_next rfl rfl rfl ⟨rfl, pd_X12_next⟩ ⟨Nat.le_of_ble_eq_true rfl, Nat.le_of_ble_eq_true rfl⟩ 0 rfl rfl rfl rfl (Nat.le_of_ble_eq_true rfl) ⟨Nat.zero_le _, Nat.zero_le _⟩ [0, 1, 2, 3, 4, 5, 6, 7, 8, 9, 10] [] [0, 1, 2, 3, 4, 5, 6, 7, 8, 9, 10] rfl rfl rfl rfl dX12_readRenew_56 59 rfl ?_
      cases hf
      exact v_vret X (Nat.zero_le _) (Nat.zero_le _) dX12_readRenew_59
    · refine v_aload_n X dX12_readRenew_39 0 rfl rfl 40 rfl ?_
      refine v_get X (C := RX12) (T := TX12) (N := 22) (ci := 11) (v := _) dX12_readRenew_40 k_X12_readRenew_w12 0 rfl rfl 1 (by decide) k_X12_readRenew_2 rfl rfl 43 rfl ?_
      refine v_iload_n X dX12_readRenew_43 1 rfl rfl 44 rfl ?_
      obtain ⟨o7, ho7, hf⟩ := bnd hf
      refine v_callSi X (As := [.ref (ad 2), .int o2.1]) (rest := []) (ws' := (wX12 ad c9 m_undoable m_undoStart m_thrown m_inputLength o2.2.1 o2.2.2.1 o2.2.2.2.1 o2.2.2.2.2.1 o2.2.2.2.2.2.1 o5.2.1 o5.2.2 m_outputLength m_s o7.2 m_tried m_remembered m_slots m_kept m_away m_input m_halfway m_output)) (c_X12_renews l hG D c9 (ad 2) m_parsed o2.1 ho7) 2 gX12_readRenew_X12_renews rfl rfl rfl pd_X12_renews ⟨Nat.le_of_ble_eq_true rfl, Nat.le_of_ble_eq_true rfl⟩ rfl rfl (Nat.le_of_ble_eq_true rfl) ⟨Nat.zero_le _, Nat.zero_le _⟩ [2] [0, 1, 3, 4, 5, 6, 7, 8, 9, 10] [0, 1, 10, 2, 3, 4, 5, 6, 7, 8, 9] rfl rfl rfl rfl dX12_readRenew_44 47 rfl ?_
      refine v_if_ge X (tgt := 55) dX12_readRenew_47 rfl 50 rfl hf (fun hf => ?_) (fun hf => ?_)
      · refine v_aload_n X dX12_readRenew_55 0 rfl rfl 56 rfl ?_
        obtain ⟨o8, ho8, hf⟩ := bnd hf
        refine v_callVv X (ci := 11) (T := TX12) (C := RX12) (As := []) (rest := []) (ws' := (wX12 ad c9 m_undoable m_undoStart m_thrown m_inputLength o8.1 o8.2.1 o8.2.2.1 o8.2.2.2.1 o8.2.2.2.2 o5.2.1 o5.2.2 m_outputLength m_s o7.2 m_tried m_remembered m_slots m_kept m_away m_input m_halfway m_output)) (c_X12_next l hG D c9 ad m_undoable m_undoStart m_thrown m_inputLength o2.2.1 o2.2.2.1 o2.2.2.2.1 o2.2.2.2.2.1 o2.2.2.2.2.2.1 o5.2.1 o5.2.2 m_outputLength m_s o7.2 m_tried m_remembered m_slots m_kept m_away m_input m_halfway m_output ho8) 0 gX12_readRenew_X12_next rfl rfl rfl ⟨rfl, pd_X12_next⟩ ⟨Nat.le_of_ble_eq_true rfl, Nat.le_of_ble_eq_true rfl⟩ 0 rfl rfl rfl rfl (Nat.le_of_ble_eq_true rfl) ⟨Nat.zero_le _, Nat.zero_le _⟩ [0, 1, 2, 3, 4, 5, 6, 7, 8, 9, 10] [] [0, 1, 2, 3, 4, 5, 6, 7, 8, 9, 10] rfl rfl rfl rfl dX12_readRenew_56 59 rfl ?_
        cases hf
        exact v_vret X (Nat.zero_le _) (Nat.zero_le _) dX12_readRenew_59
      · refine v_aload_n X dX12_readRenew_50 0 rfl rfl 51 rfl ?_
        refine v_iconst X dX12_readRenew_51 ic_1 52 rfl ?_
        refine v_put X (C := RX12) (T := TX12) (N := 22) (ci := 11) (ty := tyX12 17) (ws' := (wX12 ad c9 m_undoable m_undoStart m_thrown m_inputLength o2.2.1 o2.2.2.1 o2.2.2.2.1 o2.2.2.2.2.1 o2.2.2.2.2.2.1 1 o5.2.2 m_outputLength m_s o7.2 m_tried m_remembered m_slots m_kept m_away m_input m_halfway m_output)) dX12_readRenew_52 k_X12_readRenew_w12 0 rfl rfl 17 (by decide) tyX12 tyX12_ok nmX12 k_X12_readRenew_1 rfl rfl (tyX12_ok 17 (by decide)) rfl rfl (by decide) rfl 55 rfl ?_
        refine v_aload_n X dX12_readRenew_55 0 rfl rfl 56 rfl ?_
        obtain ⟨o9, ho9, hf⟩ := bnd hf
        refine v_callVv X (ci := 11) (T := TX12) (C := RX12) (As := []) (rest := []) (ws' := (wX12 ad c9 m_undoable m_undoStart m_thrown m_inputLength o9.1 o9.2.1 o9.2.2.1 o9.2.2.2.1 o9.2.2.2.2 1 o5.2.2 m_outputLength m_s o7.2 m_tried m_remembered m_slots m_kept m_away m_input m_halfway m_output)) (c_X12_next l hG D c9 ad m_undoable m_undoStart m_thrown m_inputLength o2.2.1 o2.2.2.1 o2.2.2.2.1 o2.2.2.2.2.1 o2.2.2.2.2.2.1 1 o5.2.2 m_outputLength m_s o7.2 m_tried m_remembered m_slots m_kept m_away m_input m_halfway m_output ho9) 0 gX12_readRenew_X12_next rfl rfl rfl ⟨rfl, pd_X12_next⟩ ⟨Nat.le_of_ble_eq_true rfl, Nat.le_of_ble_eq_true rfl⟩ 0 rfl rfl rfl rfl (Nat.le_of_ble_eq_true rfl) ⟨Nat.zero_le _, Nat.zero_le _⟩ [0, 1, 2, 3, 4, 5, 6, 7, 8, 9, 10] [] [0, 1, 2, 3, 4, 5, 6, 7, 8, 9, 10] rfl rfl rfl rfl dX12_readRenew_56 59 rfl ?_
        cases hf
        exact v_vret X (Nat.zero_le _) (Nat.zero_le _) dX12_readRenew_59
  clear hf
  refine v_if_ne X (tgt := 32) dX12_readRenew_14 rfl 17 rfl hj3 (fun hf => ?_) (fun hf => ?_)
  · refine v_iconst X dX12_readRenew_32 ic_0 33 rfl ?_
    cases hf
    refine v_sub (lv' := [(0, .ref (ad 0)), (1, .int o2.1)]) [1, 0] rfl ?_
    exact Jj3
  · refine v_aload_n X dX12_readRenew_17 1 rfl rfl 18 rfl ?_
    refine v_get X (C := RX12) (T := TX12) (N := 22) (ci := 11) (v := _) dX12_readRenew_18 k_X12_readRenew_w12 0 rfl rfl 1 (by decide) k_X12_readRenew_2 rfl rfl 21 rfl ?_
    refine v_iload_n X dX12_readRenew_21 0 rfl rfl 22 rfl ?_
    obtain ⟨o4, ho4, hf⟩ := bnd hf
    refine v_callSi X (As := [.ref (ad 2), .int o2.1]) (rest := [.ref (ad 0)]) (ws' := (wX12 ad c9 m_undoable m_undoStart m_thrown m_inputLength o2.2.1 o2.2.2.1 o2.2.2.2.1 o2.2.2.2.2.1 o2.2.2.2.2.2.1 o2.2.2.2.2.2.2.1 o2.2.2.2.2.2.2.2 m_outputLength m_s m_parsed m_tried m_remembered m_slots m_kept m_away m_input m_halfway m_output)) (c_X12_whyNotRenew l hG D c9 (ad 2) m_parsed o2.1 ho4) 2 gX12_readRenew_X12_whyNotRenew rfl rfl rfl pd_X12_whyNotRenew ⟨Nat.le_of_ble_eq_true rfl, Nat.le_of_ble_eq_true rfl⟩ rfl rfl (Nat.le_of_ble_eq_true rfl) ⟨Nat.zero_le _, Nat.zero_le _⟩ [2] [0, 1, 3, 4, 5, 6, 7, 8, 9, 10] [0, 1, 10, 2, 3, 4, 5, 6, 7, 8, 9] rfl rfl rfl rfl dX12_readRenew_22 25 rfl ?_
    refine v_if_eq X (tgt := 32) dX12_readRenew_25 rfl 28 rfl hf (fun hf => ?_) (fun hf => ?_)
    · refine v_iconst X dX12_readRenew_32 ic_0 33 rfl ?_
      cases hf
      refine v_sub (lv' := [(0, .ref (ad 0)), (1, .int o2.1)]) [1, 0] rfl ?_
      exact Jj3
    · refine v_iconst X dX12_readRenew_28 ic_1 29 rfl ?_
      refine v_goto X (tgt := 33) dX12_readRenew_29 rfl ?_
      cases hf
      refine v_sub (lv' := [(0, .ref (ad 0)), (1, .int o2.1)]) [1, 0] rfl ?_
      exact Jj3
theorem pd_X12_readRenew : yX12_readRenew.cls ≠ "java/lang/invoke/MethodHandle" ∧ yX12_readRenew.cls ≠ "java/lang/invoke/VarHandle" ∧ (parseMethodDescriptor yX12_readRenew.desc).map (fun d => d.parameters.length) = some 0 := by decide +kernel
theorem k_X12_readCheese_w12 : ∀ w ∈ u_ws RX12 TX12 22, w ∈ wsX12_readCheese := in_r _ [90, 91, 92, 93, 94, 95, 96, 97, 98, 99, 100, 101, 102, 103, 104, 105, 106, 107, 108, 109, 110, 111] rfl
theorem k_X12_readCheese_1 : Cond.fieldLink RX12 164 "TicketGateModel" "code" "I" ∈ wsX12_readCheese := List.mem_of_getElem? (i := 1) rfl
theorem k_X12_readCheese_2 : Cond.fieldLink RX12 13 "TicketGateModel" "parsed" "[I" ∈ wsX12_readCheese := List.mem_of_getElem? (i := 2) rfl
def f_X12_readCheese (m_inputLength : Int32) (m_position : Int32) (m_start : Int32) (m_token : Int32) (m_value : Int32) (m_letters : Int32) (m_code : Int32) (m_place : Int32) (m_parsed : Nat → Int32) (m_input : Nat → Int32) : Option (Int32 × Int32 × Int32 × Int32 × Int32 × Int32 × Int32 × (Nat → Int32)) :=
  (f_X12_next m_inputLength m_position m_start m_token m_value m_letters m_code m_input).bind fun o1 =>
  (f_X12_ticketHere m_inputLength o1.1 o1.2.1 o1.2.2.1 o1.2.2.2.1 o1.2.2.2.2 m_code m_place m_parsed m_input).bind fun o2 =>
  Option.bind (if o2.2.2.2.2.2.2.1 = 0 then (
    (f_X12_whyNotCheese m_parsed o2.1).bind fun o4 =>
    if o4 = 0 then (
      some (0))
    else (
      some (1)))
  else (
    some (0)) : Option (Int32)) fun j3 =>
  (f_X12_mayDo o2.2.2.1 o2.2.2.2.1 o2.2.2.2.2.2.2.1 o2.2.2.2.2.2.2.2 m_input j3).bind fun o5 =>
  if o5.1 = 0 then (
    (f_X12_next m_inputLength o2.2.1 o2.2.2.1 o2.2.2.2.1 o2.2.2.2.2.1 o2.2.2.2.2.2.1 o5.2.1 m_input).bind fun o6 =>
    some (o6.1, o6.2.1, o6.2.2.1, o6.2.2.2.1, o6.2.2.2.2, o5.2.1, o5.2.2, m_parsed))
  else (
    (f_X12_gives m_parsed o2.1).bind fun o7 =>
    if 0 ≤ o7.1 then (
      (f_X12_next m_inputLength o2.2.1 o2.2.2.1 o2.2.2.2.1 o2.2.2.2.2.1 o2.2.2.2.2.2.1 o5.2.1 m_input).bind fun o8 =>
      some (o8.1, o8.2.1, o8.2.2.1, o8.2.2.2.1, o8.2.2.2.2, o5.2.1, o5.2.2, o7.2))
    else (
      (f_X12_next m_inputLength o2.2.1 o2.2.2.1 o2.2.2.2.1 o2.2.2.2.2.1 o2.2.2.2.2.2.1 1 m_input).bind fun o9 =>
      some (o9.1, o9.2.1, o9.2.2.1, o9.2.2.2.1, o9.2.2.2.2, 1, o5.2.2, o7.2)))
set_option maxRecDepth 100000 in
set_option maxHeartbeats 4000000 in
theorem c_X12_readCheese (l : Launch) {G : (Nat → Prop) → State → Heap → Prop} (hG : vG G) (D : va_G) (c9 : Nat → ClassId) (ad : Nat → Nat) (m_undoable : Int32) (m_undoStart : Int32) (m_thrown : Int32) (m_inputLength : Int32) (m_position : Int32) (m_start : Int32) (m_token : Int32) (m_value : Int32) (m_letters : Int32) (m_code : Int32) (m_place : Int32) (m_outputLength : Int32) (m_s : Nat → Int32) (m_parsed : Nat → Int32) (m_tried : Nat → Int32) (m_remembered : Nat → Int32) (m_slots : Nat → Int32) (m_kept : Nat → Int32) (m_away : Nat → Int32) (m_input : Nat → Int32) (m_halfway : Nat → Int32) (m_output : Nat → Int32)  {o : Int32 × Int32 × Int32 × Int32 × Int32 × Int32 × Int32 × (Nat → Int32)} (hf : f_X12_readCheese m_inputLength m_position m_start m_token m_value m_letters m_code m_place m_parsed m_input = some o) : mV l yX12_readCheese wsX12_readCheese { frames := 6, cells := 0, slots := 0, locals := 124 } G D (tyA c9) [.ref (ad 0)] (wX12 ad c9 m_undoable m_undoStart m_thrown m_inputLength m_position m_start m_token m_value m_letters m_code m_place m_outputLength m_s m_parsed m_tried m_remembered m_slots m_kept m_away m_input m_halfway m_output) [] 0 0 (wX12 ad c9 m_undoable m_undoStart m_thrown m_inputLength o.1 o.2.1 o.2.2.1 o.2.2.2.1 o.2.2.2.2.1 o.2.2.2.2.2.1 o.2.2.2.2.2.2.1 m_outputLength m_s o.2.2.2.2.2.2.2 m_tried m_remembered m_slots m_kept m_away m_input m_halfway m_output) := by
  refine mV_of hG (cc := cX12_readCheese) (maxL := 2) (by decide) rfl (Nat.le_of_ble_eq_true rfl) ?_
  intro p e s m args below meth c A hnm X
  have X : vX p s m args meth c cX12_readCheese 2 none RX12 wsX12_readCheese D (tyA c9) G A := X
  refine v_eq (lv2 := [(0, .ref (ad 0))]) rfl rfl rfl rfl ?_
  rw [f_X12_readCheese] at hf
  refine v_aload_n X dX12_readCheese_0 0 rfl rfl 1 rfl ?_
  obtain ⟨o1, ho1, hf⟩ := bnd hf
  refine v_callVv X (ci := 11) (T := TX12) (C := RX12) (As := []) (rest := []) (ws' := (wX12 ad c9 m_undoable m_undoStart m_thrown m_inputLength o1.1 o1.2.1 o1.2.2.1 o1.2.2.2.1 o1.2.2.2.2 m_code m_place m_outputLength m_s m_parsed m_tried m_remembered m_slots m_kept m_away m_input m_halfway m_output)) (c_X12_next l hG D c9 ad m_undoable m_undoStart m_thrown m_inputLength m_position m_start m_token m_value m_letters m_code m_place m_outputLength m_s m_parsed m_tried m_remembered m_slots m_kept m_away m_input m_halfway m_output ho1) 0 gX12_readCheese_X12_next rfl rfl rfl ⟨rfl, pd_X12_next⟩ ⟨Nat.le_of_ble_eq_true rfl, Nat.le_of_ble_eq_true rfl⟩ 0 rfl rfl rfl rfl (Nat.le_of_ble_eq_true rfl) ⟨Nat.zero_le _, Nat.zero_le _⟩ [0, 1, 2, 3, 4, 5, 6, 7, 8, 9, 10] [] [0, 1, 2, 3, 4, 5, 6, 7, 8, 9, 10] rfl rfl rfl rfl dX12_readCheese_1 4 rfl ?_
  refine v_aload_n X dX12_readCheese_4 0 rfl rfl 5 rfl ?_
  obtain ⟨o2, ho2, hf⟩ := bnd hf
  refine v_callVi X (ci := 11) (T := TX12) (C := RX12) (As := []) (rest := []) (ws' := (wX12 ad c9 m_undoable m_undoStart m_thrown m_inputLength o2.2.1 o2.2.2.1 o2.2.2.2.1 o2.2.2.2.2.1 o2.2.2.2.2.2.1 o2.2.2.2.2.2.2.1 o2.2.2.2.2.2.2.2 m_outputLength m_s m_parsed m_tried m_remembered m_slots m_kept m_away m_input m_halfway m_output)) (c_X12_ticketHere l hG D c9 ad m_undoable m_undoStart m_thrown m_inputLength o1.1 o1.2.1 o1.2.2.1 o1.2.2.2.1 o1.2.2.2.2 m_code m_place m_outputLength m_s m_parsed m_tried m_remembered m_slots m_kept m_away m_input m_halfway m_output ho2) 0 gX12_readCheese_X12_ticketHere rfl rfl rfl ⟨rfl, pd_X12_ticketHere⟩ ⟨Nat.le_of_ble_eq_true rfl, Nat.le_of_ble_eq_true rfl⟩ 0 rfl rfl rfl rfl (Nat.le_of_ble_eq_true rfl) ⟨Nat.zero_le _, Nat.zero_le _⟩ [0, 1, 2, 3, 4, 5, 6, 7, 8, 9, 10] [] [0, 1, 2, 3, 4, 5, 6, 7, 8, 9, 10] rfl rfl rfl rfl dX12_readCheese_5 8 rfl ?_
  refine v_istore_n X (lv' := [(1, .int o2.1), (0, .ref (ad 0))]) dX12_readCheese_8 rfl (by decide) rfl 9 rfl ?_
  refine v_aload_n X dX12_readCheese_9 1 rfl rfl 10 rfl ?_
  refine v_aload_n X dX12_readCheese_10 1 rfl rfl 11 rfl ?_
  refine v_get X (C := RX12) (T := TX12) (N := 22) (ci := 11) (v := _) dX12_readCheese_11 k_X12_readCheese_w12 0 rfl rfl 17 (by decide) k_X12_readCheese_1 rfl rfl 14 rfl ?_
  obtain ⟨j3, hj3, hf⟩ := bnd hf
  have Jj3 : vW p l e { frames := 6, cells := 0, slots := 0, locals := 124 } s m args below meth c 2 D A [] 0 0 (MQ below (eV D (tyA c9) A ((wX12 ad c9 m_undoable m_undoStart m_thrown m_inputLength o.1 o.2.1 o.2.2.1 o.2.2.2.1 o.2.2.2.2.1 o.2.2.2.2.2.1 o.2.2.2.2.2.2.1 m_outputLength m_s o.2.2.2.2.2.2.2 m_tried m_remembered m_slots m_kept m_away m_input m_halfway m_output) ++ [])) args s 0 0 A) (wX12 ad c9 m_undoable m_undoStart m_thrown m_inputLength o2.2.1 o2.2.2.1 o2.2.2.2.1 o2.2.2.2.2.1 o2.2.2.2.2.2.1 o2.2.2.2.2.2.2.1 o2.2.2.2.2.2.2.2 m_outputLength m_s m_parsed m_tried m_remembered m_slots m_kept m_away m_input m_halfway m_output) 33 [(0, .ref (ad 0)), (1, .int o2.1)] [.int j3, .ref (ad 0)] := by
    obtain ⟨o5, ho5, hf⟩ := bnd hf
    refine v_callVi X (ci := 11) (T := TX12) (C := RX12) (As := [.int j3]) (rest := []) (ws' := (wX12 ad c9 m_undoable m_undoStart m_thrown m_inputLength o2.2.1 o2.2.2.1 o2.2.2.2.1 o2.2.2.2.2.1 o2.2.2.2.2.2.1 o5.2.1 o5.2.2 m_outputLength m_s m_parsed m_tried m_remembered m_slots m_kept m_away m_input m_halfway m_output)) (c_X12_mayDo l hG D c9 ad m_undoable m_undoStart m_thrown m_inputLength o2.2.1 o2.2.2.1 o2.2.2.2.1 o2.2.2.2.2.1 o2.2.2.2.2.2.1 o2.2.2.2.2.2.2.1 o2.2.2.2.2.2.2.2 m_outputLength m_s m_parsed m_tried m_remembered m_slots m_kept m_away m_input m_halfway m_output j3 ho5) 1 gX12_readCheese_X12_mayDo rfl rfl rfl ⟨rfl, pd_X12_mayDo⟩ ⟨Nat.le_of_ble_eq_true rfl, Nat.le_of_ble_eq_true rfl⟩ 0 rfl rfl rfl rfl (Nat.le_of_ble_eq_true rfl) ⟨Nat.zero_le _, Nat.zero_le _⟩ [0, 1, 2, 3, 4, 5, 6, 7, 8, 9, 10] [] [0, 1, 2, 3, 4, 5, 6, 7, 8, 9, 10] rfl rfl rfl rfl dX12_readCheese_33 36 rfl ?_
    refine v_if_eq X (tgt := 55) dX12_readCheese_36 rfl 39 rfl hf (fun hf => ?_) (fun hf => ?_)
    · refine v_aload_n X dX12_readCheese_55 0 rfl rfl 56 rfl ?_
      obtain ⟨o6, ho6, hf⟩ := bnd hf
      refine v_callVv X (ci := 11) (T := TX12) (C := RX12) (As := []) (rest := []) (ws' := (wX12 ad c9 m_undoable m_undoStart m_thrown m_inputLength o6.1 o6.2.1 o6.2.2.1 o6.2.2.2.1 o6.2.2.2.2 o5.2.1 o5.2.2 m_outputLength m_s m_parsed m_tried m_remembered m_slots m_kept m_away m_input m_halfway m_output)) (c_X12_next l hG D c9 ad m_undoable m_undoStart m_thrown m_inputLength o2.2.1 o2.2.2.1 o2.2.2.2.1 o2.2.2.2.2.1 o2.2.2.2.2.2.1 o5.2.1 o5.2.2 m_outputLength m_s m_parsed m_tried m_remembered m_slots m_kept m_away m_input m_halfway m_output ho6) 0 gX12_readCheese_X12_next rfl rfl rfl ⟨rfl, pd_X12_next⟩ ⟨Nat.le_of_ble_eq_true rfl, Nat.le_of_ble_eq_true rfl⟩ 0 rfl rfl rfl rfl (Nat.le_of_ble_eq_true rfl) ⟨Nat.zero_le _, Nat.zero_le _⟩ [0, 1, 2, 3, 4, 5, 6, 7, 8, 9, 10] [] [0, 1, 2, 3, 4, 5, 6, 7, 8, 9, 10] rfl rfl rfl rfl dX12_readCheese_56 59 rfl ?_
      cases hf
      exact v_vret X (Nat.zero_le _) (Nat.zero_le _) dX12_readCheese_59
    · refine v_aload_n X dX12_readCheese_39 0 rfl rfl 40 rfl ?_
      refine v_get X (C := RX12) (T := TX12) (N := 22) (ci := 11) (v := _) dX12_readCheese_40 k_X12_readCheese_w12 0 rfl rfl 1 (by decide) k_X12_readCheese_2 rfl rfl 43 rfl ?_
      refine v_iload_n X dX12_readCheese_43 1 rfl rfl 44 rfl ?_
      obtain ⟨o7, ho7, hf⟩ := bnd hf
      refine v_callSi X (As := [.ref (ad 2), .int o2.1]) (rest := []) (ws' := (wX12 ad c9 m_undoable m_undoStart m_thrown m_inputLength o2.2.1 o2.2.2.1 o2.2.2.2.1 o2.2.2.2.2.1 o2.2.2.2.2.2.1 o5.2.1 o5.2.2 m_outputLength m_s o7.2 m_tried m_remembered m_slots m_kept m_away m_input m_halfway m_output)) (c_X12_gives l hG D c9 (ad 2) m_parsed o2.1 ho7) 2 gX12_readCheese_X12_gives rfl rfl rfl pd_X12_gives ⟨Nat.le_of_ble_eq_true rfl, Nat.le_of_ble_eq_true rfl⟩ rfl rfl (Nat.le_of_ble_eq_true rfl) ⟨Nat.zero_le _, Nat.zero_le _⟩ [2] [0, 1, 3, 4, 5, 6, 7, 8, 9, 10] [0, 1, 10, 2, 3, 4, 5, 6, 7, 8, 9] rfl rfl rfl rfl dX12_readCheese_44 47 rfl ?_
      refine v_if_ge X (tgt := 55) dX12_readCheese_47 rfl 50 rfl hf (fun hf => ?_) (fun hf => ?_)
      · refine v_aload_n X dX12_readCheese_55 0 rfl rfl 56 rfl ?_
        obtain ⟨o8, ho8, hf⟩ := bnd hf
        refine v_callVv X (ci := 11) (T := TX12) (C := RX12) (As := []) (rest := []) (ws' := (wX12 ad c9 m_undoable m_undoStart m_thrown m_inputLength o8.1 o8.2.1 o8.2.2.1 o8.2.2.2.1 o8.2.2.2.2 o5.2.1 o5.2.2 m_outputLength m_s o7.2 m_tried m_remembered m_slots m_kept m_away m_input m_halfway m_output)) (c_X12_next l hG D c9 ad m_undoable m_undoStart m_thrown m_inputLength o2.2.1 o2.2.2.1 o2.2.2.2.1 o2.2.2.2.2.1 o2.2.2.2.2.2.1 o5.2.1 o5.2.2 m_outputLength m_s o7.2 m_tried m_remembered m_slots m_kept m_away m_input m_halfway m_output ho8) 0 gX12_readCheese_X12_next rfl rfl rfl ⟨rfl, pd_X12_next⟩ ⟨Nat.le_of_ble_eq_true rfl, Nat.le_of_ble_eq_true rfl⟩ 0 rfl rfl rfl rfl (Nat.le_of_ble_eq_true rfl) ⟨Nat.zero_le _, Nat.zero_le _⟩ [0, 1, 2, 3, 4, 5, 6, 7, 8, 9, 10] [] [0, 1, 2, 3, 4, 5, 6, 7, 8, 9, 10] rfl rfl rfl rfl dX12_readCheese_56 59 rfl ?_
        cases hf
        exact v_vret X (Nat.zero_le _) (Nat.zero_le _) dX12_readCheese_59
      · refine v_aload_n X dX12_readCheese_50 0 rfl rfl 51 rfl ?_
        refine v_iconst X dX12_readCheese_51 ic_1 52 rfl ?_
        refine v_put X (C := RX12) (T := TX12) (N := 22) (ci := 11) (ty := tyX12 17) (ws' := (wX12 ad c9 m_undoable m_undoStart m_thrown m_inputLength o2.2.1 o2.2.2.1 o2.2.2.2.1 o2.2.2.2.2.1 o2.2.2.2.2.2.1 1 o5.2.2 m_outputLength m_s o7.2 m_tried m_remembered m_slots m_kept m_away m_input m_halfway m_output)) dX12_readCheese_52 k_X12_readCheese_w12 0 rfl rfl 17 (by decide) tyX12 tyX12_ok nmX12 k_X12_readCheese_1 rfl rfl (tyX12_ok 17 (by decide)) rfl rfl (by decide) rfl 55 rfl ?_
        refine v_aload_n X dX12_readCheese_55 0 rfl rfl 56 rfl ?_
        obtain ⟨o9, ho9, hf⟩ := bnd hf
        refine v_callVv X (ci := 11) (T := TX12) (C := RX12) (As := []) (rest := []) (ws' := (wX12 ad c9 m_undoable m_undoStart m_thrown m_inputLength o9.1 o9.2.1 o9.2.2.1 o9.2.2.2.1 o9.2.2.2.2 1 o5.2.2 m_outputLength m_s o7.2 m_tried m_remembered m_slots m_kept m_away m_input m_halfway m_output)) (c_X12_next l hG D c9 ad m_undoable m_undoStart m_thrown m_inputLength o2.2.1 o2.2.2.1 o2.2.2.2.1 o2.2.2.2.2.1 o2.2.2.2.2.2.1 1 o5.2.2 m_outputLength m_s o7.2 m_tried m_remembered m_slots m_kept m_away m_input m_halfway m_output ho9) 0 gX12_readCheese_X12_next rfl rfl rfl ⟨rfl, pd_X12_next⟩ ⟨Nat.le_of_ble_eq_true rfl, Nat.le_of_ble_eq_true rfl⟩ 0 rfl rfl rfl rfl (Nat.le_of_ble_eq_true rfl) ⟨Nat.zero_le _, Nat.zero_le _⟩ [0, 1, 2, 3, 4, 5, 6, 7, 8, 9, 10] [] [0, 1, 2, 3, 4, 5, 6, 7, 8, 9, 10] rfl rfl rfl rfl dX12_readCheese_56 59 rfl ?_
        cases hf
        exact v_vret X (Nat.zero_le _) (Nat.zero_le _) dX12_readCheese_59
  clear hf
  refine v_if_ne X (tgt := 32) dX12_readCheese_14 rfl 17 rfl hj3 (fun hf => ?_) (fun hf => ?_)
  · refine v_iconst X dX12_readCheese_32 ic_0 33 rfl ?_
    cases hf
    refine v_sub (lv' := [(0, .ref (ad 0)), (1, .int o2.1)]) [1, 0] rfl ?_
    exact Jj3
  · refine v_aload_n X dX12_readCheese_17 1 rfl rfl 18 rfl ?_
    refine v_get X (C := RX12) (T := TX12) (N := 22) (ci := 11) (v := _) dX12_readCheese_18 k_X12_readCheese_w12 0 rfl rfl 1 (by decide) k_X12_readCheese_2 rfl rfl 21 rfl ?_
    refine v_iload_n X dX12_readCheese_21 0 rfl rfl 22 rfl ?_
    obtain ⟨o4, ho4, hf⟩ := bnd hf
    refine v_callSi X (As := [.ref (ad 2), .int o2.1]) (rest := [.ref (ad 0)]) (ws' := (wX12 ad c9 m_undoable m_undoStart m_thrown m_inputLength o2.2.1 o2.2.2.1 o2.2.2.2.1 o2.2.2.2.2.1 o2.2.2.2.2.2.1 o2.2.2.2.2.2.2.1 o2.2.2.2.2.2.2.2 m_outputLength m_s m_parsed m_tried m_remembered m_slots m_kept m_away m_input m_halfway m_output)) (c_X12_whyNotCheese l hG D c9 (ad 2) m_parsed o2.1 ho4) 2 gX12_readCheese_X12_whyNotCheese rfl rfl rfl pd_X12_whyNotCheese ⟨Nat.le_of_ble_eq_true rfl, Nat.le_of_ble_eq_true rfl⟩ rfl rfl (Nat.le_of_ble_eq_true rfl) ⟨Nat.zero_le _, Nat.zero_le _⟩ [2] [0, 1, 3, 4, 5, 6, 7, 8, 9, 10] [0, 1, 10, 2, 3, 4, 5, 6, 7, 8, 9] rfl rfl rfl rfl dX12_readCheese_22 25 rfl ?_
    refine v_if_eq X (tgt := 32) dX12_readCheese_25 rfl 28 rfl hf (fun hf => ?_) (fun hf => ?_)
    · refine v_iconst X dX12_readCheese_32 ic_0 33 rfl ?_
      cases hf
      refine v_sub (lv' := [(0, .ref (ad 0)), (1, .int o2.1)]) [1, 0] rfl ?_
      exact Jj3
    · refine v_iconst X dX12_readCheese_28 ic_1 29 rfl ?_
      refine v_goto X (tgt := 33) dX12_readCheese_29 rfl ?_
      cases hf
      refine v_sub (lv' := [(0, .ref (ad 0)), (1, .int o2.1)]) [1, 0] rfl ?_
      exact Jj3
theorem pd_X12_readCheese : yX12_readCheese.cls ≠ "java/lang/invoke/MethodHandle" ∧ yX12_readCheese.cls ≠ "java/lang/invoke/VarHandle" ∧ (parseMethodDescriptor yX12_readCheese.desc).map (fun d => d.parameters.length) = some 0 := by decide +kernel
theorem k_X12_readDrop_w12 : ∀ w ∈ u_ws RX12 TX12 22, w ∈ wsX12_readDrop := in_r _ [60, 61, 62, 63, 64, 65, 66, 67, 68, 69, 70, 71, 72, 73, 74, 75, 76, 77, 78, 79, 80, 81] rfl
theorem k_X12_readDrop_1 : Cond.fieldLink RX12 164 "TicketGateModel" "code" "I" ∈ wsX12_readDrop := List.mem_of_getElem? (i := 1) rfl
theorem k_X12_readDrop_2 : Cond.fieldLink RX12 13 "TicketGateModel" "parsed" "[I" ∈ wsX12_readDrop := List.mem_of_getElem? (i := 2) rfl
def f_X12_readDrop (m_inputLength : Int32) (m_position : Int32) (m_start : Int32) (m_token : Int32) (m_value : Int32) (m_letters : Int32) (m_code : Int32) (m_place : Int32) (m_parsed : Nat → Int32) (m_input : Nat → Int32) : Option (Int32 × Int32 × Int32 × Int32 × Int32 × Int32 × Int32 × (Nat → Int32)) :=
  (f_X12_next m_inputLength m_position m_start m_token m_value m_letters m_code m_input).bind fun o1 =>
  (f_X12_ticketHere m_inputLength o1.1 o1.2.1 o1.2.2.1 o1.2.2.2.1 o1.2.2.2.2 m_code m_place m_parsed m_input).bind fun o2 =>
  (f_X12_finish m_inputLength o2.2.1 o2.2.2.1 o2.2.2.2.1 o2.2.2.2.2.1 o2.2.2.2.2.2.1 o2.2.2.2.2.2.2.1 o2.2.2.2.2.2.2.2 m_input).bind fun o3 =>
  if o3.2.2.2.2.2.1 = 0 then (
    (f_X12_drops m_parsed o2.1).bind fun o4 =>
    if 0 ≤ o4.1 then (
      some (o3.1, o3.2.1, o3.2.2.1, o3.2.2.2.1, o3.2.2.2.2.1, o3.2.2.2.2.2.1, o3.2.2.2.2.2.2, o4.2))
    else (
      some (o3.1, o3.2.1, o3.2.2.1, o3.2.2.2.1, o3.2.2.2.2.1, 1, o3.2.2.2.2.2.2, o4.2)))
  else (
    some (o3.1, o3.2.1, o3.2.2.1, o3.2.2.2.1, o3.2.2.2.2.1, o3.2.2.2.2.2.1, o3.2.2.2.2.2.2, m_parsed))
set_option maxRecDepth 100000 in
set_option maxHeartbeats 4000000 in
theorem c_X12_readDrop (l : Launch) {G : (Nat → Prop) → State → Heap → Prop} (hG : vG G) (D : va_G) (c9 : Nat → ClassId) (ad : Nat → Nat) (m_undoable : Int32) (m_undoStart : Int32) (m_thrown : Int32) (m_inputLength : Int32) (m_position : Int32) (m_start : Int32) (m_token : Int32) (m_value : Int32) (m_letters : Int32) (m_code : Int32) (m_place : Int32) (m_outputLength : Int32) (m_s : Nat → Int32) (m_parsed : Nat → Int32) (m_tried : Nat → Int32) (m_remembered : Nat → Int32) (m_slots : Nat → Int32) (m_kept : Nat → Int32) (m_away : Nat → Int32) (m_input : Nat → Int32) (m_halfway : Nat → Int32) (m_output : Nat → Int32)  {o : Int32 × Int32 × Int32 × Int32 × Int32 × Int32 × Int32 × (Nat → Int32)} (hf : f_X12_readDrop m_inputLength m_position m_start m_token m_value m_letters m_code m_place m_parsed m_input = some o) : mV l yX12_readDrop wsX12_readDrop { frames := 6, cells := 0, slots := 0, locals := 124 } G D (tyA c9) [.ref (ad 0)] (wX12 ad c9 m_undoable m_undoStart m_thrown m_inputLength m_position m_start m_token m_value m_letters m_code m_place m_outputLength m_s m_parsed m_tried m_remembered m_slots m_kept m_away m_input m_halfway m_output) [] 0 0 (wX12 ad c9 m_undoable m_undoStart m_thrown m_inputLength o.1 o.2.1 o.2.2.1 o.2.2.2.1 o.2.2.2.2.1 o.2.2.2.2.2.1 o.2.2.2.2.2.2.1 m_outputLength m_s o.2.2.2.2.2.2.2 m_tried m_remembered m_slots m_kept m_away m_input m_halfway m_output) := by
  refine mV_of hG (cc := cX12_readDrop) (maxL := 2) (by decide) rfl (Nat.le_of_ble_eq_true rfl) ?_
  intro p e s m args below meth c A hnm X
  have X : vX p s m args meth c cX12_readDrop 2 none RX12 wsX12_readDrop D (tyA c9) G A := X
  refine v_eq (lv2 := [(0, .ref (ad 0))]) rfl rfl rfl rfl ?_
  rw [f_X12_readDrop] at hf
  refine v_aload_n X dX12_readDrop_0 0 rfl rfl 1 rfl ?_
  obtain ⟨o1, ho1, hf⟩ := bnd hf
  refine v_callVv X (ci := 11) (T := TX12) (C := RX12) (As := []) (rest := []) (ws' := (wX12 ad c9 m_undoable m_undoStart m_thrown m_inputLength o1.1 o1.2.1 o1.2.2.1 o1.2.2.2.1 o1.2.2.2.2 m_code m_place m_outputLength m_s m_parsed m_tried m_remembered m_slots m_kept m_away m_input m_halfway m_output)) (c_X12_next l hG D c9 ad m_undoable m_undoStart m_thrown m_inputLength m_position m_start m_token m_value m_letters m_code m_place m_outputLength m_s m_parsed m_tried m_remembered m_slots m_kept m_away m_input m_halfway m_output ho1) 0 gX12_readDrop_X12_next rfl rfl rfl ⟨rfl, pd_X12_next⟩ ⟨Nat.le_of_ble_eq_true rfl, Nat.le_of_ble_eq_true rfl⟩ 0 rfl rfl rfl rfl (Nat.le_of_ble_eq_true rfl) ⟨Nat.zero_le _, Nat.zero_le _⟩ [0, 1, 2, 3, 4, 5, 6, 7, 8, 9, 10] [] [0, 1, 2, 3, 4, 5, 6, 7, 8, 9, 10] rfl rfl rfl rfl dX12_readDrop_1 4 rfl ?_
  refine v_aload_n X dX12_readDrop_4 0 rfl rfl 5 rfl ?_
  obtain ⟨o2, ho2, hf⟩ := bnd hf
  refine v_callVi X (ci := 11) (T := TX12) (C := RX12) (As := []) (rest := []) (ws' := (wX12 ad c9 m_undoable m_undoStart m_thrown m_inputLength o2.2.1 o2.2.2.1 o2.2.2.2.1 o2.2.2.2.2.1 o2.2.2.2.2.2.1 o2.2.2.2.2.2.2.1 o2.2.2.2.2.2.2.2 m_outputLength m_s m_parsed m_tried m_remembered m_slots m_kept m_away m_input m_halfway m_output)) (c_X12_ticketHere l hG D c9 ad m_undoable m_undoStart m_thrown m_inputLength o1.1 o1.2.1 o1.2.2.1 o1.2.2.2.1 o1.2.2.2.2 m_code m_place m_outputLength m_s m_parsed m_tried m_remembered m_slots m_kept m_away m_input m_halfway m_output ho2) 0 gX12_readDrop_X12_ticketHere rfl rfl rfl ⟨rfl, pd_X12_ticketHere⟩ ⟨Nat.le_of_ble_eq_true rfl, Nat.le_of_ble_eq_true rfl⟩ 0 rfl rfl rfl rfl (Nat.le_of_ble_eq_true rfl) ⟨Nat.zero_le _, Nat.zero_le _⟩ [0, 1, 2, 3, 4, 5, 6, 7, 8, 9, 10] [] [0, 1, 2, 3, 4, 5, 6, 7, 8, 9, 10] rfl rfl rfl rfl dX12_readDrop_5 8 rfl ?_
  refine v_istore_n X (lv' := [(1, .int o2.1), (0, .ref (ad 0))]) dX12_readDrop_8 rfl (by decide) rfl 9 rfl ?_
  refine v_aload_n X dX12_readDrop_9 1 rfl rfl 10 rfl ?_
  obtain ⟨o3, ho3, hf⟩ := bnd hf
  refine v_callVv X (ci := 11) (T := TX12) (C := RX12) (As := []) (rest := []) (ws' := (wX12 ad c9 m_undoable m_undoStart m_thrown m_inputLength o3.1 o3.2.1 o3.2.2.1 o3.2.2.2.1 o3.2.2.2.2.1 o3.2.2.2.2.2.1 o3.2.2.2.2.2.2 m_outputLength m_s m_parsed m_tried m_remembered m_slots m_kept m_away m_input m_halfway m_output)) (c_X12_finish l hG D c9 ad m_undoable m_undoStart m_thrown m_inputLength o2.2.1 o2.2.2.1 o2.2.2.2.1 o2.2.2.2.2.1 o2.2.2.2.2.2.1 o2.2.2.2.2.2.2.1 o2.2.2.2.2.2.2.2 m_outputLength m_s m_parsed m_tried m_remembered m_slots m_kept m_away m_input m_halfway m_output ho3) 0 gX12_readDrop_X12_finish rfl rfl rfl ⟨rfl, pd_X12_finish⟩ ⟨Nat.le_of_ble_eq_true rfl, Nat.le_of_ble_eq_true rfl⟩ 0 rfl rfl rfl rfl (Nat.le_of_ble_eq_true rfl) ⟨Nat.zero_le _, Nat.zero_le _⟩ [0, 1, 2, 3, 4, 5, 6, 7, 8, 9, 10] [] [0, 1, 2, 3, 4, 5, 6, 7, 8, 9, 10] rfl rfl rfl rfl dX12_readDrop_10 13 rfl ?_
  refine v_aload_n X dX12_readDrop_13 1 rfl rfl 14 rfl ?_
  refine v_get X (C := RX12) (T := TX12) (N := 22) (ci := 11) (v := _) dX12_readDrop_14 k_X12_readDrop_w12 0 rfl rfl 17 (by decide) k_X12_readDrop_1 rfl rfl 17 rfl ?_
  refine v_if_ne X (tgt := 36) dX12_readDrop_17 rfl 20 rfl hf (fun hf => ?_) (fun hf => ?_)
  · cases hf
    exact v_vret X (Nat.zero_le _) (Nat.zero_le _) dX12_readDrop_36
  · refine v_aload_n X dX12_readDrop_20 1 rfl rfl 21 rfl ?_
    refine v_get X (C := RX12) (T := TX12) (N := 22) (ci := 11) (v := _) dX12_readDrop_21 k_X12_readDrop_w12 0 rfl rfl 1 (by decide) k_X12_readDrop_2 rfl rfl 24 rfl ?_
    refine v_iload_n X dX12_readDrop_24 0 rfl rfl 25 rfl ?_
    obtain ⟨o4, ho4, hf⟩ := bnd hf
    refine v_callSi X (As := [.ref (ad 2), .int o2.1]) (rest := []) (ws' := (wX12 ad c9 m_undoable m_undoStart m_thrown m_inputLength o3.1 o3.2.1 o3.2.2.1 o3.2.2.2.1 o3.2.2.2.2.1 o3.2.2.2.2.2.1 o3.2.2.2.2.2.2 m_outputLength m_s o4.2 m_tried m_remembered m_slots m_kept m_away m_input m_halfway m_output)) (c_X12_drops l hG D c9 (ad 2) m_parsed o2.1 ho4) 2 gX12_readDrop_X12_drops rfl rfl rfl pd_X12_drops ⟨Nat.le_of_ble_eq_true rfl, Nat.le_of_ble_eq_true rfl⟩ rfl rfl (Nat.le_of_ble_eq_true rfl) ⟨Nat.zero_le _, Nat.zero_le _⟩ [2] [0, 1, 3, 4, 5, 6, 7, 8, 9, 10] [0, 1, 10, 2, 3, 4, 5, 6, 7, 8, 9] rfl rfl rfl rfl dX12_readDrop_25 28 rfl ?_
    refine v_if_ge X (tgt := 36) dX12_readDrop_28 rfl 31 rfl hf (fun hf => ?_) (fun hf => ?_)
    · cases hf
      exact v_vret X (Nat.zero_le _) (Nat.zero_le _) dX12_readDrop_36
    · refine v_aload_n X dX12_readDrop_31 1 rfl rfl 32 rfl ?_
      refine v_iconst X dX12_readDrop_32 ic_1 33 rfl ?_
      refine v_put X (C := RX12) (T := TX12) (N := 22) (ci := 11) (ty := tyX12 17) (ws' := (wX12 ad c9 m_undoable m_undoStart m_thrown m_inputLength o3.1 o3.2.1 o3.2.2.1 o3.2.2.2.1 o3.2.2.2.2.1 1 o3.2.2.2.2.2.2 m_outputLength m_s o4.2 m_tried m_remembered m_slots m_kept m_away m_input m_halfway m_output)) dX12_readDrop_33 k_X12_readDrop_w12 0 rfl rfl 17 (by decide) tyX12 tyX12_ok nmX12 k_X12_readDrop_1 rfl rfl (tyX12_ok 17 (by decide)) rfl rfl (by decide) rfl 36 rfl ?_
      cases hf
      exact v_vret X (Nat.zero_le _) (Nat.zero_le _) dX12_readDrop_36
theorem pd_X12_readDrop : yX12_readDrop.cls ≠ "java/lang/invoke/MethodHandle" ∧ yX12_readDrop.cls ≠ "java/lang/invoke/VarHandle" ∧ (parseMethodDescriptor yX12_readDrop.desc).map (fun d => d.parameters.length) = some 0 := by decide +kernel
theorem k_X12_readSweep_w12 : ∀ w ∈ u_ws RX12 TX12 22, w ∈ wsX12_readSweep := in_r _ [55, 56, 57, 58, 59, 60, 61, 62, 63, 64, 65, 66, 67, 68, 69, 70, 71, 72, 73, 74, 75, 76] rfl
theorem k_X12_readSweep_1 : Cond.fieldLink RX12 164 "TicketGateModel" "code" "I" ∈ wsX12_readSweep := List.mem_of_getElem? (i := 1) rfl
theorem k_X12_readSweep_2 : Cond.fieldLink RX12 13 "TicketGateModel" "parsed" "[I" ∈ wsX12_readSweep := List.mem_of_getElem? (i := 2) rfl
def f_X12_readSweep (m_inputLength : Int32) (m_position : Int32) (m_start : Int32) (m_token : Int32) (m_value : Int32) (m_letters : Int32) (m_code : Int32) (m_place : Int32) (m_parsed : Nat → Int32) (m_input : Nat → Int32) : Option (Int32 × Int32 × Int32 × Int32 × Int32 × Int32 × Int32 × (Nat → Int32)) :=
  (f_X12_next m_inputLength m_position m_start m_token m_value m_letters m_code m_input).bind fun o1 =>
  (f_X12_finish m_inputLength o1.1 o1.2.1 o1.2.2.1 o1.2.2.2.1 o1.2.2.2.2 m_code m_place m_input).bind fun o2 =>
  if o2.2.2.2.2.2.1 = 0 then (
    (f_X12_sweeps m_parsed).bind fun o3 =>
    if 0 ≤ o3.1 then (
      some (o2.1, o2.2.1, o2.2.2.1, o2.2.2.2.1, o2.2.2.2.2.1, o2.2.2.2.2.2.1, o2.2.2.2.2.2.2, o3.2))
    else (
      some (o2.1, o2.2.1, o2.2.2.1, o2.2.2.2.1, o2.2.2.2.2.1, 1, o2.2.2.2.2.2.2, o3.2)))
  else (
    some (o2.1, o2.2.1, o2.2.2.1, o2.2.2.2.1, o2.2.2.2.2.1, o2.2.2.2.2.2.1, o2.2.2.2.2.2.2, m_parsed))
set_option maxRecDepth 100000 in
set_option maxHeartbeats 4000000 in
theorem c_X12_readSweep (l : Launch) {G : (Nat → Prop) → State → Heap → Prop} (hG : vG G) (D : va_G) (c9 : Nat → ClassId) (ad : Nat → Nat) (m_undoable : Int32) (m_undoStart : Int32) (m_thrown : Int32) (m_inputLength : Int32) (m_position : Int32) (m_start : Int32) (m_token : Int32) (m_value : Int32) (m_letters : Int32) (m_code : Int32) (m_place : Int32) (m_outputLength : Int32) (m_s : Nat → Int32) (m_parsed : Nat → Int32) (m_tried : Nat → Int32) (m_remembered : Nat → Int32) (m_slots : Nat → Int32) (m_kept : Nat → Int32) (m_away : Nat → Int32) (m_input : Nat → Int32) (m_halfway : Nat → Int32) (m_output : Nat → Int32)  {o : Int32 × Int32 × Int32 × Int32 × Int32 × Int32 × Int32 × (Nat → Int32)} (hf : f_X12_readSweep m_inputLength m_position m_start m_token m_value m_letters m_code m_place m_parsed m_input = some o) : mV l yX12_readSweep wsX12_readSweep { frames := 5, cells := 0, slots := 0, locals := 103 } G D (tyA c9) [.ref (ad 0)] (wX12 ad c9 m_undoable m_undoStart m_thrown m_inputLength m_position m_start m_token m_value m_letters m_code m_place m_outputLength m_s m_parsed m_tried m_remembered m_slots m_kept m_away m_input m_halfway m_output) [] 0 0 (wX12 ad c9 m_undoable m_undoStart m_thrown m_inputLength o.1 o.2.1 o.2.2.1 o.2.2.2.1 o.2.2.2.2.1 o.2.2.2.2.2.1 o.2.2.2.2.2.2.1 m_outputLength m_s o.2.2.2.2.2.2.2 m_tried m_remembered m_slots m_kept m_away m_input m_halfway m_output) := by
  refine mV_of hG (cc := cX12_readSweep) (maxL := 1) (by decide) rfl (Nat.le_of_ble_eq_true rfl) ?_
  intro p e s m args below meth c A hnm X
  have X : vX p s m args meth c cX12_readSweep 1 none RX12 wsX12_readSweep D (tyA c9) G A := X
  refine v_eq (lv2 := [(0, .ref (ad 0))]) rfl rfl rfl rfl ?_
  rw [f_X12_readSweep] at hf
  refine v_aload_n X dX12_readSweep_0 0 rfl rfl 1 rfl ?_
  obtain ⟨o1, ho1, hf⟩ := bnd hf
  refine v_callVv X (ci := 11) (T := TX12) (C := RX12) (As := []) (rest := []) (ws' := (wX12 ad c9 m_undoable m_undoStart m_thrown m_inputLength o1.1 o1.2.1 o1.2.2.1 o1.2.2.2.1 o1.2.2.2.2 m_code m_place m_outputLength m_s m_parsed m_tried m_remembered m_slots m_kept m_away m_input m_halfway m_output)) (c_X12_next l hG D c9 ad m_undoable m_undoStart m_thrown m_inputLength m_position m_start m_token m_value m_letters m_code m_place m_outputLength m_s m_parsed m_tried m_remembered m_slots m_kept m_away m_input m_halfway m_output ho1) 0 gX12_readSweep_X12_next rfl rfl rfl ⟨rfl, pd_X12_next⟩ ⟨Nat.le_of_ble_eq_true rfl, Nat.le_of_ble_eq_true rfl⟩ 0 rfl rfl rfl rfl (Nat.le_of_ble_eq_true rfl) ⟨Nat.zero_le _, Nat.zero_le _⟩ [0, 1, 2, 3, 4, 5, 6, 7, 8, 9, 10] [] [0, 1, 2, 3, 4, 5, 6, 7, 8, 9, 10] rfl rfl rfl rfl dX12_readSweep_1 4 rfl ?_
  refine v_aload_n X dX12_readSweep_4 0 rfl rfl 5 rfl ?_
  obtain ⟨o2, ho2, hf⟩ := bnd hf
  refine v_callVv X (ci := 11) (T := TX12) (C := RX12) (As := []) (rest := []) (ws' := (wX12 ad c9 m_undoable m_undoStart m_thrown m_inputLength o2.1 o2.2.1 o2.2.2.1 o2.2.2.2.1 o2.2.2.2.2.1 o2.2.2.2.2.2.1 o2.2.2.2.2.2.2 m_outputLength m_s m_parsed m_tried m_remembered m_slots m_kept m_away m_input m_halfway m_output)) (c_X12_finish l hG D c9 ad m_undoable m_undoStart m_thrown m_inputLength o1.1 o1.2.1 o1.2.2.1 o1.2.2.2.1 o1.2.2.2.2 m_code m_place m_outputLength m_s m_parsed m_tried m_remembered m_slots m_kept m_away m_input m_halfway m_output ho2) 0 gX12_readSweep_X12_finish rfl rfl rfl ⟨rfl, pd_X12_finish⟩ ⟨Nat.le_of_ble_eq_true rfl, Nat.le_of_ble_eq_true rfl⟩ 0 rfl rfl rfl rfl (Nat.le_of_ble_eq_true rfl) ⟨Nat.zero_le _, Nat.zero_le _⟩ [0, 1, 2, 3, 4, 5, 6, 7, 8, 9, 10] [] [0, 1, 2, 3, 4, 5, 6, 7, 8, 9, 10] rfl rfl rfl rfl dX12_readSweep_5 8 rfl ?_
  refine v_aload_n X dX12_readSweep_8 0 rfl rfl 9 rfl ?_
  refine v_get X (C := RX12) (T := TX12) (N := 22) (ci := 11) (v := _) dX12_readSweep_9 k_X12_readSweep_w12 0 rfl rfl 17 (by decide) k_X12_readSweep_1 rfl rfl 12 rfl ?_
  refine v_if_ne X (tgt := 30) dX12_readSweep_12 rfl 15 rfl hf (fun hf => ?_) (fun hf => ?_)
  · cases hf
    exact v_vret X (Nat.zero_le _) (Nat.zero_le _) dX12_readSweep_30
  · refine v_aload_n X dX12_readSweep_15 0 rfl rfl 16 rfl ?_
    refine v_get X (C := RX12) (T := TX12) (N := 22) (ci := 11) (v := _) dX12_readSweep_16 k_X12_readSweep_w12 0 rfl rfl 1 (by decide) k_X12_readSweep_2 rfl rfl 19 rfl ?_
    obtain ⟨o3, ho3, hf⟩ := bnd hf
    refine v_callSi X (As := [.ref (ad 2)]) (rest := []) (ws' := (wX12 ad c9 m_undoable m_undoStart m_thrown m_inputLength o2.1 o2.2.1 o2.2.2.1 o2.2.2.2.1 o2.2.2.2.2.1 o2.2.2.2.2.2.1 o2.2.2.2.2.2.2 m_outputLength m_s o3.2 m_tried m_remembered m_slots m_kept m_away m_input m_halfway m_output)) (c_X12_sweeps l hG D c9 (ad 2) m_parsed ho3) 1 gX12_readSweep_X12_sweeps rfl rfl rfl pd_X12_sweeps ⟨Nat.le_of_ble_eq_true rfl, Nat.le_of_ble_eq_true rfl⟩ rfl rfl (Nat.le_of_ble_eq_true rfl) ⟨Nat.zero_le _, Nat.zero_le _⟩ [2] [0, 1, 3, 4, 5, 6, 7, 8, 9, 10] [0, 1, 10, 2, 3, 4, 5, 6, 7, 8, 9] rfl rfl rfl rfl dX12_readSweep_19 22 rfl ?_
    refine v_if_ge X (tgt := 30) dX12_readSweep_22 rfl 25 rfl hf (fun hf => ?_) (fun hf => ?_)
    · cases hf
      exact v_vret X (Nat.zero_le _) (Nat.zero_le _) dX12_readSweep_30
    · refine v_aload_n X dX12_readSweep_25 0 rfl rfl 26 rfl ?_
      refine v_iconst X dX12_readSweep_26 ic_1 27 rfl ?_
      refine v_put X (C := RX12) (T := TX12) (N := 22) (ci := 11) (ty := tyX12 17) (ws' := (wX12 ad c9 m_undoable m_undoStart m_thrown m_inputLength o2.1 o2.2.1 o2.2.2.1 o2.2.2.2.1 o2.2.2.2.2.1 1 o2.2.2.2.2.2.2 m_outputLength m_s o3.2 m_tried m_remembered m_slots m_kept m_away m_input m_halfway m_output)) dX12_readSweep_27 k_X12_readSweep_w12 0 rfl rfl 17 (by decide) tyX12 tyX12_ok nmX12 k_X12_readSweep_1 rfl rfl (tyX12_ok 17 (by decide)) rfl rfl (by decide) rfl 30 rfl ?_
      cases hf
      exact v_vret X (Nat.zero_le _) (Nat.zero_le _) dX12_readSweep_30
theorem pd_X12_readSweep : yX12_readSweep.cls ≠ "java/lang/invoke/MethodHandle" ∧ yX12_readSweep.cls ≠ "java/lang/invoke/VarHandle" ∧ (parseMethodDescriptor yX12_readSweep.desc).map (fun d => d.parameters.length) = some 0 := by decide +kernel
theorem k_X12_readPass_w12 : ∀ w ∈ u_ws RX12 TX12 22, w ∈ wsX12_readPass := in_r _ [65, 66, 67, 68, 69, 70, 71, 72, 73, 74, 75, 76, 77, 78, 79, 80, 81, 82, 83, 84, 85, 86] rfl
theorem k_X12_readPass_1 : Cond.fieldLink RX12 164 "TicketGateModel" "code" "I" ∈ wsX12_readPass := List.mem_of_getElem? (i := 1) rfl
theorem k_X12_readPass_2 : Cond.fieldLink RX12 13 "TicketGateModel" "parsed" "[I" ∈ wsX12_readPass := List.mem_of_getElem? (i := 2) rfl
def f_X12_readPass (m_inputLength : Int32) (m_position : Int32) (m_start : Int32) (m_token : Int32) (m_value : Int32) (m_letters : Int32) (m_code : Int32) (m_place : Int32) (m_parsed : Nat → Int32) (m_input : Nat → Int32) : Option (Int32 × Int32 × Int32 × Int32 × Int32 × Int32 × Int32 × (Nat → Int32)) :=
  (f_X12_next m_inputLength m_position m_start m_token m_value m_letters m_code m_input).bind fun o1 =>
  (f_X12_number m_inputLength o1.1 o1.2.1 o1.2.2.1 o1.2.2.2.1 o1.2.2.2.2 m_code m_place m_input 0 999).bind fun o2 =>
  (f_X12_finish m_inputLength o2.2.1 o2.2.2.1 o2.2.2.2.1 o2.2.2.2.2.1 o2.2.2.2.2.2.1 o2.2.2.2.2.2.2.1 o2.2.2.2.2.2.2.2 m_input).bind fun o3 =>
  if o3.2.2.2.2.2.1 = 0 then (
    (f_X12_passes m_parsed o2.1).bind fun o4 =>
    if 0 ≤ o4.1 then (
      some (o3.1, o3.2.1, o3.2.2.1, o3.2.2.2.1, o3.2.2.2.2.1, o3.2.2.2.2.2.1, o3.2.2.2.2.2.2, o4.2))
    else (
      some (o3.1, o3.2.1, o3.2.2.1, o3.2.2.2.1, o3.2.2.2.2.1, 1, o3.2.2.2.2.2.2, o4.2)))
  else (
    some (o3.1, o3.2.1, o3.2.2.1, o3.2.2.2.1, o3.2.2.2.2.1, o3.2.2.2.2.2.1, o3.2.2.2.2.2.2, m_parsed))
set_option maxRecDepth 100000 in
set_option maxHeartbeats 4000000 in
theorem c_X12_readPass (l : Launch) {G : (Nat → Prop) → State → Heap → Prop} (hG : vG G) (D : va_G) (c9 : Nat → ClassId) (ad : Nat → Nat) (m_undoable : Int32) (m_undoStart : Int32) (m_thrown : Int32) (m_inputLength : Int32) (m_position : Int32) (m_start : Int32) (m_token : Int32) (m_value : Int32) (m_letters : Int32) (m_code : Int32) (m_place : Int32) (m_outputLength : Int32) (m_s : Nat → Int32) (m_parsed : Nat → Int32) (m_tried : Nat → Int32) (m_remembered : Nat → Int32) (m_slots : Nat → Int32) (m_kept : Nat → Int32) (m_away : Nat → Int32) (m_input : Nat → Int32) (m_halfway : Nat → Int32) (m_output : Nat → Int32)  {o : Int32 × Int32 × Int32 × Int32 × Int32 × Int32 × Int32 × (Nat → Int32)} (hf : f_X12_readPass m_inputLength m_position m_start m_token m_value m_letters m_code m_place m_parsed m_input = some o) : mV l yX12_readPass wsX12_readPass { frames := 5, cells := 0, slots := 0, locals := 106 } G D (tyA c9) [.ref (ad 0)] (wX12 ad c9 m_undoable m_undoStart m_thrown m_inputLength m_position m_start m_token m_value m_letters m_code m_place m_outputLength m_s m_parsed m_tried m_remembered m_slots m_kept m_away m_input m_halfway m_output) [] 0 0 (wX12 ad c9 m_undoable m_undoStart m_thrown m_inputLength o.1 o.2.1 o.2.2.1 o.2.2.2.1 o.2.2.2.2.1 o.2.2.2.2.2.1 o.2.2.2.2.2.2.1 m_outputLength m_s o.2.2.2.2.2.2.2 m_tried m_remembered m_slots m_kept m_away m_input m_halfway m_output) := by
  refine mV_of hG (cc := cX12_readPass) (maxL := 2) (by decide) rfl (Nat.le_of_ble_eq_true rfl) ?_
  intro p e s m args below meth c A hnm X
  have X : vX p s m args meth c cX12_readPass 2 none RX12 wsX12_readPass D (tyA c9) G A := X
  refine v_eq (lv2 := [(0, .ref (ad 0))]) rfl rfl rfl rfl ?_
  rw [f_X12_readPass] at hf
  refine v_aload_n X dX12_readPass_0 0 rfl rfl 1 rfl ?_
  obtain ⟨o1, ho1, hf⟩ := bnd hf
  refine v_callVv X (ci := 11) (T := TX12) (C := RX12) (As := []) (rest := []) (ws' := (wX12 ad c9 m_undoable m_undoStart m_thrown m_inputLength o1.1 o1.2.1 o1.2.2.1 o1.2.2.2.1 o1.2.2.2.2 m_code m_place m_outputLength m_s m_parsed m_tried m_remembered m_slots m_kept m_away m_input m_halfway m_output)) (c_X12_next l hG D c9 ad m_undoable m_undoStart m_thrown m_inputLength m_position m_start m_token m_value m_letters m_code m_place m_outputLength m_s m_parsed m_tried m_remembered m_slots m_kept m_away m_input m_halfway m_output ho1) 0 gX12_readPass_X12_next rfl rfl rfl ⟨rfl, pd_X12_next⟩ ⟨Nat.le_of_ble_eq_true rfl, Nat.le_of_ble_eq_true rfl⟩ 0 rfl rfl rfl rfl (Nat.le_of_ble_eq_true rfl) ⟨Nat.zero_le _, Nat.zero_le _⟩ [0, 1, 2, 3, 4, 5, 6, 7, 8, 9, 10] [] [0, 1, 2, 3, 4, 5, 6, 7, 8, 9, 10] rfl rfl rfl rfl dX12_readPass_1 4 rfl ?_
  refine v_aload_n X dX12_readPass_4 0 rfl rfl 5 rfl ?_
  refine v_iconst X dX12_readPass_5 ic_0 6 rfl ?_
  refine v_sipush X dX12_readPass_6 sp_999 9 rfl ?_
  obtain ⟨o2, ho2, hf⟩ := bnd hf
  refine v_callVi X (ci := 11) (T := TX12) (C := RX12) (As := [.int 0, .int 999]) (rest := []) (ws' := (wX12 ad c9 m_undoable m_undoStart m_thrown m_inputLength o2.2.1 o2.2.2.1 o2.2.2.2.1 o2.2.2.2.2.1 o2.2.2.2.2.2.1 o2.2.2.2.2.2.2.1 o2.2.2.2.2.2.2.2 m_outputLength m_s m_parsed m_tried m_remembered m_slots m_kept m_away m_input m_halfway m_output)) (c_X12_number l hG D c9 ad m_undoable m_undoStart m_thrown m_inputLength o1.1 o1.2.1 o1.2.2.1 o1.2.2.2.1 o1.2.2.2.2 m_code m_place m_outputLength m_s m_parsed m_tried m_remembered m_slots m_kept m_away m_input m_halfway m_output 0 999 ho2) 2 gX12_readPass_X12_number rfl rfl rfl ⟨rfl, pd_X12_number⟩ ⟨Nat.le_of_ble_eq_true rfl, Nat.le_of_ble_eq_true rfl⟩ 0 rfl rfl rfl rfl (Nat.le_of_ble_eq_true rfl) ⟨Nat.zero_le _, Nat.zero_le _⟩ [0, 1, 2, 3, 4, 5, 6, 7, 8, 9, 10] [] [0, 1, 2, 3, 4, 5, 6, 7, 8, 9, 10] rfl rfl rfl rfl dX12_readPass_9 12 rfl ?_
  refine v_istore_n X (lv' := [(1, .int o2.1), (0, .ref (ad 0))]) dX12_readPass_12 rfl (by decide) rfl 13 rfl ?_
  refine v_aload_n X dX12_readPass_13 1 rfl rfl 14 rfl ?_
  obtain ⟨o3, ho3, hf⟩ := bnd hf
  refine v_callVv X (ci := 11) (T := TX12) (C := RX12) (As := []) (rest := []) (ws' := (wX12 ad c9 m_undoable m_undoStart m_thrown m_inputLength o3.1 o3.2.1 o3.2.2.1 o3.2.2.2.1 o3.2.2.2.2.1 o3.2.2.2.2.2.1 o3.2.2.2.2.2.2 m_outputLength m_s m_parsed m_tried m_remembered m_slots m_kept m_away m_input m_halfway m_output)) (c_X12_finish l hG D c9 ad m_undoable m_undoStart m_thrown m_inputLength o2.2.1 o2.2.2.1 o2.2.2.2.1 o2.2.2.2.2.1 o2.2.2.2.2.2.1 o2.2.2.2.2.2.2.1 o2.2.2.2.2.2.2.2 m_outputLength m_s m_parsed m_tried m_remembered m_slots m_kept m_away m_input m_halfway m_output ho3) 0 gX12_readPass_X12_finish rfl rfl rfl ⟨rfl, pd_X12_finish⟩ ⟨Nat.le_of_ble_eq_true rfl, Nat.le_of_ble_eq_true rfl⟩ 0 rfl rfl rfl rfl (Nat.le_of_ble_eq_true rfl) ⟨Nat.zero_le _, Nat.zero_le _⟩ [0, 1, 2, 3, 4, 5, 6, 7, 8, 9, 10] [] [0, 1, 2, 3, 4, 5, 6, 7, 8, 9, 10] rfl rfl rfl rfl dX12_readPass_14 17 rfl ?_
  refine v_aload_n X dX12_readPass_17 1 rfl rfl 18 rfl ?_
  refine v_get X (C := RX12) (T := TX12) (N := 22) (ci := 11) (v := _) dX12_readPass_18 k_X12_readPass_w12 0 rfl rfl 17 (by decide) k_X12_readPass_1 rfl rfl 21 rfl ?_
  refine v_if_ne X (tgt := 40) dX12_readPass_21 rfl 24 rfl hf (fun hf => ?_) (fun hf => ?_)
  · cases hf
    exact v_vret X (Nat.zero_le _) (Nat.zero_le _) dX12_readPass_40
  · refine v_aload_n X dX12_readPass_24 1 rfl rfl 25 rfl ?_
    refine v_get X (C := RX12) (T := TX12) (N := 22) (ci := 11) (v := _) dX12_readPass_25 k_X12_readPass_w12 0 rfl rfl 1 (by decide) k_X12_readPass_2 rfl rfl 28 rfl ?_
    refine v_iload_n X dX12_readPass_28 0 rfl rfl 29 rfl ?_
    obtain ⟨o4, ho4, hf⟩ := bnd hf
    refine v_callSi X (As := [.ref (ad 2), .int o2.1]) (rest := []) (ws' := (wX12 ad c9 m_undoable m_undoStart m_thrown m_inputLength o3.1 o3.2.1 o3.2.2.1 o3.2.2.2.1 o3.2.2.2.2.1 o3.2.2.2.2.2.1 o3.2.2.2.2.2.2 m_outputLength m_s o4.2 m_tried m_remembered m_slots m_kept m_away m_input m_halfway m_output)) (c_X12_passes l hG D c9 (ad 2) m_parsed o2.1 ho4) 2 gX12_readPass_X12_passes rfl rfl rfl pd_X12_passes ⟨Nat.le_of_ble_eq_true rfl, Nat.le_of_ble_eq_true rfl⟩ rfl rfl (Nat.le_of_ble_eq_true rfl) ⟨Nat.zero_le _, Nat.zero_le _⟩ [2] [0, 1, 3, 4, 5, 6, 7, 8, 9, 10] [0, 1, 10, 2, 3, 4, 5, 6, 7, 8, 9] rfl rfl rfl rfl dX12_readPass_29 32 rfl ?_
    refine v_if_ge X (tgt := 40) dX12_readPass_32 rfl 35 rfl hf (fun hf => ?_) (fun hf => ?_)
    · cases hf
      exact v_vret X (Nat.zero_le _) (Nat.zero_le _) dX12_readPass_40
    · refine v_aload_n X dX12_readPass_35 1 rfl rfl 36 rfl ?_
      refine v_iconst X dX12_readPass_36 ic_1 37 rfl ?_
      refine v_put X (C := RX12) (T := TX12) (N := 22) (ci := 11) (ty := tyX12 17) (ws' := (wX12 ad c9 m_undoable m_undoStart m_thrown m_inputLength o3.1 o3.2.1 o3.2.2.1 o3.2.2.2.1 o3.2.2.2.2.1 1 o3.2.2.2.2.2.2 m_outputLength m_s o4.2 m_tried m_remembered m_slots m_kept m_away m_input m_halfway m_output)) dX12_readPass_37 k_X12_readPass_w12 0 rfl rfl 17 (by decide) tyX12 tyX12_ok nmX12 k_X12_readPass_1 rfl rfl (tyX12_ok 17 (by decide)) rfl rfl (by decide) rfl 40 rfl ?_
      cases hf
      exact v_vret X (Nat.zero_le _) (Nat.zero_le _) dX12_readPass_40
theorem pd_X12_readPass : yX12_readPass.cls ≠ "java/lang/invoke/MethodHandle" ∧ yX12_readPass.cls ≠ "java/lang/invoke/VarHandle" ∧ (parseMethodDescriptor yX12_readPass.desc).map (fun d => d.parameters.length) = some 0 := by decide +kernel
theorem k_X12_remember_w12 : ∀ w ∈ u_ws RX12 TX12 22, w ∈ wsX12_remember := in_r _ [9, 10, 11, 12, 13, 14, 15, 16, 17, 18, 19, 20, 21, 22, 23, 24, 25, 26, 27, 28, 29, 30] rfl
theorem k_X12_remember_1 : Cond.fieldLink RX12 372 "TicketGateModel" "undoable" "I" ∈ wsX12_remember := List.mem_of_getElem? (i := 1) rfl
theorem k_X12_remember_2 : Cond.fieldLink RX12 375 "TicketGateModel" "undoStart" "I" ∈ wsX12_remember := List.mem_of_getElem? (i := 2) rfl
theorem k_X12_remember_3 : Cond.fieldLink RX12 7 "TicketGateModel" "s" "[I" ∈ wsX12_remember := List.mem_of_getElem? (i := 3) rfl
theorem k_X12_remember_4 : Cond.fieldLink RX12 19 "TicketGateModel" "remembered" "[I" ∈ wsX12_remember := List.mem_of_getElem? (i := 4) rfl
def f_X12_remember (m_undoable : Int32) (m_undoStart : Int32) (m_s : Nat → Int32) (m_remembered : Nat → Int32) : Option (Int32 × Int32 × (Nat → Int32)) :=
  Option.bind (if m_undoable = 8 then (
    some ((m_undoable - 1), (irm (m_undoStart + 1) 8)))
  else (
    some (m_undoable, m_undoStart)) : Option (Int32 × Int32)) fun j1 =>
  (f_X12_copyRow 463 3704 m_s m_remembered 0 (463 * (irm (j1.2 + j1.1) 8))).bind fun o2 =>
  some ((j1.1 + 1), j1.2, o2)
set_option maxRecDepth 100000 in
set_option maxHeartbeats 4000000 in
theorem c_X12_remember (l : Launch) {G : (Nat → Prop) → State → Heap → Prop} (hG : vG G) (D : va_G) (c9 : Nat → ClassId) (ad : Nat → Nat) (m_undoable : Int32) (m_undoStart : Int32) (m_thrown : Int32) (m_inputLength : Int32) (m_position : Int32) (m_start : Int32) (m_token : Int32) (m_value : Int32) (m_letters : Int32) (m_code : Int32) (m_place : Int32) (m_outputLength : Int32) (m_s : Nat → Int32) (m_parsed : Nat → Int32) (m_tried : Nat → Int32) (m_remembered : Nat → Int32) (m_slots : Nat → Int32) (m_kept : Nat → Int32) (m_away : Nat → Int32) (m_input : Nat → Int32) (m_halfway : Nat → Int32) (m_output : Nat → Int32)  {o : Int32 × Int32 × (Nat → Int32)} (hf : f_X12_remember m_undoable m_undoStart m_s m_remembered = some o) : mV l yX12_remember wsX12_remember { frames := 1, cells := 0, slots := 0, locals := 24 } G D (tyA c9) [.ref (ad 0)] (wX12 ad c9 m_undoable m_undoStart m_thrown m_inputLength m_position m_start m_token m_value m_letters m_code m_place m_outputLength m_s m_parsed m_tried m_remembered m_slots m_kept m_away m_input m_halfway m_output) [] 0 0 (wX12 ad c9 o.1 o.2.1 m_thrown m_inputLength m_position m_start m_token m_value m_letters m_code m_place m_outputLength m_s m_parsed m_tried o.2.2 m_slots m_kept m_away m_input m_halfway m_output) := by
  refine mV_of hG (cc := cX12_remember) (maxL := 1) (by decide) rfl (Nat.le_of_ble_eq_true rfl) ?_
  intro p e s m args below meth c A hnm X
  have X : vX p s m args meth c cX12_remember 1 none RX12 wsX12_remember D (tyA c9) G A := X
  refine v_eq (lv2 := [(0, .ref (ad 0))]) rfl rfl rfl rfl ?_
  rw [f_X12_remember] at hf
  refine v_aload_n X dX12_remember_0 0 rfl rfl 1 rfl ?_
  refine v_get X (C := RX12) (T := TX12) (N := 22) (ci := 11) (v := _) dX12_remember_1 k_X12_remember_w12 0 rfl rfl 6 (by decide) k_X12_remember_1 rfl rfl 4 rfl ?_
  refine v_bipush X dX12_remember_4 bp_8 6 rfl ?_
  obtain ⟨j1, hj1, hf⟩ := bnd hf
  have Jj1 : vW p l e { frames := 1, cells := 0, slots := 0, locals := 24 } s m args below meth c 1 D A [] 0 0 (MQ below (eV D (tyA c9) A ((wX12 ad c9 o.1 o.2.1 m_thrown m_inputLength m_position m_start m_token m_value m_letters m_code m_place m_outputLength m_s m_parsed m_tried o.2.2 m_slots m_kept m_away m_input m_halfway m_output) ++ [])) args s 0 0 A) (wX12 ad c9 j1.1 j1.2 m_thrown m_inputLength m_position m_start m_token m_value m_letters m_code m_place m_outputLength m_s m_parsed m_tried m_remembered m_slots m_kept m_away m_input m_halfway m_output) 32 [(0, .ref (ad 0))] [] := by
    refine v_aload_n X dX12_remember_32 0 rfl rfl 33 rfl ?_
    refine v_get X (C := RX12) (T := TX12) (N := 22) (ci := 11) (v := _) dX12_remember_33 k_X12_remember_w12 0 rfl rfl 0 (by decide) k_X12_remember_3 rfl rfl 36 rfl ?_
    refine v_iconst X dX12_remember_36 ic_0 37 rfl ?_
    refine v_aload_n X dX12_remember_37 0 rfl rfl 38 rfl ?_
    refine v_get X (C := RX12) (T := TX12) (N := 22) (ci := 11) (v := _) dX12_remember_38 k_X12_remember_w12 0 rfl rfl 3 (by decide) k_X12_remember_4 rfl rfl 41 rfl ?_
    refine v_sipush X dX12_remember_41 sp_463 44 rfl ?_
    refine v_aload_n X dX12_remember_44 0 rfl rfl 45 rfl ?_
    refine v_get X (C := RX12) (T := TX12) (N := 22) (ci := 11) (v := _) dX12_remember_45 k_X12_remember_w12 0 rfl rfl 7 (by decide) k_X12_remember_2 rfl rfl 48 rfl ?_
    refine v_aload_n X dX12_remember_48 0 rfl rfl 49 rfl ?_
    refine v_get X (C := RX12) (T := TX12) (N := 22) (ci := 11) (v := _) dX12_remember_49 k_X12_remember_w12 0 rfl rfl 6 (by decide) k_X12_remember_1 rfl rfl 52 rfl ?_
    refine v_iadd X dX12_remember_52 53 rfl ?_
    refine v_bipush X dX12_remember_53 bp_8 55 rfl ?_
    refine v_irem X dX12_remember_55 (by decide) 56 rfl ?_
    refine v_imul X dX12_remember_56 57 rfl ?_
    obtain ⟨o2, ho2, hf⟩ := bnd hf
    refine v_callSv X (As := [.ref (ad 1), .int 0, .ref (ad 4), .int (463 * (irm (j1.2 + j1.1) 8))]) (rest := []) (ws' := (wX12 ad c9 j1.1 j1.2 m_thrown m_inputLength m_position m_start m_token m_value m_letters m_code m_place m_outputLength m_s m_parsed m_tried o2 m_slots m_kept m_away m_input m_halfway m_output)) (c_X12_copyRow l hG D c9 (ad 1) (ad 4) 463 3704 m_s m_remembered 0 (463 * (irm (j1.2 + j1.1) 8)) ho2) 4 gX12_remember_X12_copyRow rfl rfl rfl pd_X12_copyRow ⟨Nat.le_of_ble_eq_true rfl, Nat.le_of_ble_eq_true rfl⟩ rfl rfl (Nat.le_of_ble_eq_true rfl) ⟨Nat.zero_le _, Nat.zero_le _⟩ [1, 4] [0, 2, 3, 5, 6, 7, 8, 9, 10] [0, 9, 1, 2, 10, 3, 4, 5, 6, 7, 8] rfl rfl rfl rfl dX12_remember_57 60 rfl ?_
    refine v_aload_n X dX12_remember_60 0 rfl rfl 61 rfl ?_
    refine v_dup X dX12_remember_61 rfl 62 rfl ?_
    refine v_get X (C := RX12) (T := TX12) (N := 22) (ci := 11) (v := _) dX12_remember_62 k_X12_remember_w12 0 rfl rfl 6 (by decide) k_X12_remember_1 rfl rfl 65 rfl ?_
    refine v_iconst X dX12_remember_65 ic_1 66 rfl ?_
    refine v_iadd X dX12_remember_66 67 rfl ?_
    refine v_put X (C := RX12) (T := TX12) (N := 22) (ci := 11) (ty := tyX12 6) (ws' := (wX12 ad c9 (j1.1 + 1) j1.2 m_thrown m_inputLength m_position m_start m_token m_value m_letters m_code m_place m_outputLength m_s m_parsed m_tried o2 m_slots m_kept m_away m_input m_halfway m_output)) dX12_remember_67 k_X12_remember_w12 0 rfl rfl 6 (by decide) tyX12 tyX12_ok nmX12 k_X12_remember_1 rfl rfl (tyX12_ok 6 (by decide)) rfl rfl (by decide) rfl 70 rfl ?_
    cases hf
    exact v_vret X (Nat.zero_le _) (Nat.zero_le _) dX12_remember_70
  clear hf
  refine v_icmp_ne X (tgt := 32) dX12_remember_6 rfl 9 rfl hj1 (fun hf => ?_) (fun hf => ?_)
  · cases hf
    exact Jj1
  · refine v_aload_n X dX12_remember_9 0 rfl rfl 10 rfl ?_
    refine v_aload_n X dX12_remember_10 0 rfl rfl 11 rfl ?_
    refine v_get X (C := RX12) (T := TX12) (N := 22) (ci := 11) (v := _) dX12_remember_11 k_X12_remember_w12 0 rfl rfl 7 (by decide) k_X12_remember_2 rfl rfl 14 rfl ?_
    refine v_iconst X dX12_remember_14 ic_1 15 rfl ?_
    refine v_iadd X dX12_remember_15 16 rfl ?_
    refine v_bipush X dX12_remember_16 bp_8 18 rfl ?_
    refine v_irem X dX12_remember_18 (by decide) 19 rfl ?_
    refine v_put X (C := RX12) (T := TX12) (N := 22) (ci := 11) (ty := tyX12 7) (ws' := (wX12 ad c9 m_undoable (irm (m_undoStart + 1) 8) m_thrown m_inputLength m_position m_start m_token m_value m_letters m_code m_place m_outputLength m_s m_parsed m_tried m_remembered m_slots m_kept m_away m_input m_halfway m_output)) dX12_remember_19 k_X12_remember_w12 0 rfl rfl 7 (by decide) tyX12 tyX12_ok nmX12 k_X12_remember_2 rfl rfl (tyX12_ok 7 (by decide)) rfl rfl (by decide) rfl 22 rfl ?_
    refine v_aload_n X dX12_remember_22 0 rfl rfl 23 rfl ?_
    refine v_dup X dX12_remember_23 rfl 24 rfl ?_
    refine v_get X (C := RX12) (T := TX12) (N := 22) (ci := 11) (v := _) dX12_remember_24 k_X12_remember_w12 0 rfl rfl 6 (by decide) k_X12_remember_1 rfl rfl 27 rfl ?_
    refine v_iconst X dX12_remember_27 ic_1 28 rfl ?_
    refine v_isub X dX12_remember_28 29 rfl ?_
    refine v_put X (C := RX12) (T := TX12) (N := 22) (ci := 11) (ty := tyX12 6) (ws' := (wX12 ad c9 (m_undoable - 1) (irm (m_undoStart + 1) 8) m_thrown m_inputLength m_position m_start m_token m_value m_letters m_code m_place m_outputLength m_s m_parsed m_tried m_remembered m_slots m_kept m_away m_input m_halfway m_output)) dX12_remember_29 k_X12_remember_w12 0 rfl rfl 6 (by decide) tyX12 tyX12_ok nmX12 k_X12_remember_1 rfl rfl (tyX12_ok 6 (by decide)) rfl rfl (by decide) rfl 32 rfl ?_
    cases hf
    exact Jj1
theorem pd_X12_remember : yX12_remember.cls ≠ "java/lang/invoke/MethodHandle" ∧ yX12_remember.cls ≠ "java/lang/invoke/VarHandle" ∧ (parseMethodDescriptor yX12_remember.desc).map (fun d => d.parameters.length) = some 0 := by decide +kernel
theorem k_X12_undo_w12 : ∀ w ∈ u_ws RX12 TX12 22, w ∈ wsX12_undo := in_r _ [14, 15, 16, 17, 18, 19, 20, 21, 22, 23, 24, 25, 26, 27, 28, 29, 30, 31, 32, 33, 34, 35] rfl
theorem k_X12_undo_1 : Cond.fieldLink RX12 72 "TicketGateModel" "thrown" "I" ∈ wsX12_undo := List.mem_of_getElem? (i := 1) rfl
theorem k_X12_undo_2 : Cond.fieldLink RX12 372 "TicketGateModel" "undoable" "I" ∈ wsX12_undo := List.mem_of_getElem? (i := 2) rfl
theorem k_X12_undo_3 : Cond.fieldLink RX12 19 "TicketGateModel" "remembered" "[I" ∈ wsX12_undo := List.mem_of_getElem? (i := 3) rfl
theorem k_X12_undo_4 : Cond.fieldLink RX12 375 "TicketGateModel" "undoStart" "I" ∈ wsX12_undo := List.mem_of_getElem? (i := 4) rfl
theorem k_X12_undo_5 : Cond.fieldLink RX12 7 "TicketGateModel" "s" "[I" ∈ wsX12_undo := List.mem_of_getElem? (i := 5) rfl
def f_X12_undo (m_undoable : Int32) (m_undoStart : Int32) (m_thrown : Int32) (m_s : Nat → Int32) (m_remembered : Nat → Int32) : Option (Int32 × Int32 × Int32 × (Nat → Int32)) :=
  Option.bind (if m_undoable = 0 then (
    some (1))
  else (
    some (0)) : Option (Int32)) fun j1 =>
  (f_X12_refuses 0 j1 1).bind fun o2 =>
  if o2.1 = 0 then (
    (f_X12_copyRow 3704 463 m_remembered m_s (463 * (irm (m_undoStart + (m_undoable - 1)) 8)) 0).bind fun o3 =>
    some ((m_undoable - 1), (m_undoable - 1), o2.2, o3))
  else (
    some (0, m_undoable, o2.2, m_s))
set_option maxRecDepth 100000 in
set_option maxHeartbeats 4000000 in
theorem c_X12_undo (l : Launch) {G : (Nat → Prop) → State → Heap → Prop} (hG : vG G) (D : va_G) (c9 : Nat → ClassId) (ad : Nat → Nat) (m_undoable : Int32) (m_undoStart : Int32) (m_thrown : Int32) (m_inputLength : Int32) (m_position : Int32) (m_start : Int32) (m_token : Int32) (m_value : Int32) (m_letters : Int32) (m_code : Int32) (m_place : Int32) (m_outputLength : Int32) (m_s : Nat → Int32) (m_parsed : Nat → Int32) (m_tried : Nat → Int32) (m_remembered : Nat → Int32) (m_slots : Nat → Int32) (m_kept : Nat → Int32) (m_away : Nat → Int32) (m_input : Nat → Int32) (m_halfway : Nat → Int32) (m_output : Nat → Int32)  {o : Int32 × Int32 × Int32 × (Nat → Int32)} (hf : f_X12_undo m_undoable m_undoStart m_thrown m_s m_remembered = some o) : mI l yX12_undo wsX12_undo { frames := 1, cells := 0, slots := 0, locals := 24 } G D (tyA c9) [.ref (ad 0)] (wX12 ad c9 m_undoable m_undoStart m_thrown m_inputLength m_position m_start m_token m_value m_letters m_code m_place m_outputLength m_s m_parsed m_tried m_remembered m_slots m_kept m_away m_input m_halfway m_output) [] 0 0 o.1 (wX12 ad c9 o.2.1 m_undoStart o.2.2.1 m_inputLength m_position m_start m_token m_value m_letters m_code m_place m_outputLength o.2.2.2 m_parsed m_tried m_remembered m_slots m_kept m_away m_input m_halfway m_output) := by
  refine mI_of hG (cc := cX12_undo) (maxL := 1) (ty := .int) (by decide) rfl (Nat.le_of_ble_eq_true rfl) ?_
  intro p e s m args below meth c A X
  have X : vX p s m args meth c cX12_undo 1 (some .int) RX12 wsX12_undo D (tyA c9) G A := X
  refine v_eq (lv2 := [(0, .ref (ad 0))]) rfl rfl rfl rfl ?_
  rw [f_X12_undo] at hf
  refine v_aload_n X dX12_undo_0 0 rfl rfl 1 rfl ?_
  refine v_iconst X dX12_undo_1 ic_0 2 rfl ?_
  refine v_put X (C := RX12) (T := TX12) (N := 22) (ci := 11) (ty := tyX12 8) (ws' := (wX12 ad c9 m_undoable m_undoStart 0 m_inputLength m_position m_start m_token m_value m_letters m_code m_place m_outputLength m_s m_parsed m_tried m_remembered m_slots m_kept m_away m_input m_halfway m_output)) dX12_undo_2 k_X12_undo_w12 0 rfl rfl 8 (by decide) tyX12 tyX12_ok nmX12 k_X12_undo_1 rfl rfl (tyX12_ok 8 (by decide)) rfl rfl (by decide) rfl 5 rfl ?_
  refine v_aload_n X dX12_undo_5 0 rfl rfl 6 rfl ?_
  refine v_aload_n X dX12_undo_6 0 rfl rfl 7 rfl ?_
  refine v_get X (C := RX12) (T := TX12) (N := 22) (ci := 11) (v := _) dX12_undo_7 k_X12_undo_w12 0 rfl rfl 6 (by decide) k_X12_undo_2 rfl rfl 10 rfl ?_
  obtain ⟨j1, hj1, hf⟩ := bnd hf
  have Jj1 : vW p l e { frames := 1, cells := 0, slots := 0, locals := 24 } s m args below meth c 1 D A [] 0 0 (MQ below (eI D (tyA c9) A o.1 ((wX12 ad c9 o.2.1 m_undoStart o.2.2.1 m_inputLength m_position m_start m_token m_value m_letters m_code m_place m_outputLength o.2.2.2 m_parsed m_tried m_remembered m_slots m_kept m_away m_input m_halfway m_output) ++ [])) args s 0 0 A) (wX12 ad c9 m_undoable m_undoStart 0 m_inputLength m_position m_start m_token m_value m_letters m_code m_place m_outputLength m_s m_parsed m_tried m_remembered m_slots m_kept m_away m_input m_halfway m_output) 18 [(0, .ref (ad 0))] [.int j1, .ref (ad 0)] := by
    refine v_iconst X dX12_undo_18 ic_1 19 rfl ?_
    obtain ⟨o2, ho2, hf⟩ := bnd hf
    refine v_callVi X (ci := 11) (T := TX12) (C := RX12) (As := [.int j1, .int 1]) (rest := []) (ws' := (wX12 ad c9 m_undoable m_undoStart o2.2 m_inputLength m_position m_start m_token m_value m_letters m_code m_place m_outputLength m_s m_parsed m_tried m_remembered m_slots m_kept m_away m_input m_halfway m_output)) (c_X12_refuses l hG D c9 ad m_undoable m_undoStart 0 m_inputLength m_position m_start m_token m_value m_letters m_code m_place m_outputLength m_s m_parsed m_tried m_remembered m_slots m_kept m_away m_input m_halfway m_output j1 1 ho2) 2 gX12_undo_X12_refuses rfl rfl rfl ⟨rfl, pd_X12_refuses⟩ ⟨Nat.le_of_ble_eq_true rfl, Nat.le_of_ble_eq_true rfl⟩ 0 rfl rfl rfl rfl (Nat.le_of_ble_eq_true rfl) ⟨Nat.zero_le _, Nat.zero_le _⟩ [0, 1, 2, 3, 4, 5, 6, 7, 8, 9, 10] [] [0, 1, 2, 3, 4, 5, 6, 7, 8, 9, 10] rfl rfl rfl rfl dX12_undo_19 22 rfl ?_
    refine v_if_eq X (tgt := 27) dX12_undo_22 rfl 25 rfl hf (fun hf => ?_) (fun hf => ?_)
    · refine v_aload_n X dX12_undo_27 0 rfl rfl 28 rfl ?_
      refine v_dup X dX12_undo_28 rfl 29 rfl ?_
      refine v_get X (C := RX12) (T := TX12) (N := 22) (ci := 11) (v := _) dX12_undo_29 k_X12_undo_w12 0 rfl rfl 6 (by decide) k_X12_undo_2 rfl rfl 32 rfl ?_
      refine v_iconst X dX12_undo_32 ic_1 33 rfl ?_
      refine v_isub X dX12_undo_33 34 rfl ?_
      refine v_put X (C := RX12) (T := TX12) (N := 22) (ci := 11) (ty := tyX12 6) (ws' := (wX12 ad c9 (m_undoable - 1) m_undoStart o2.2 m_inputLength m_position m_start m_token m_value m_letters m_code m_place m_outputLength m_s m_parsed m_tried m_remembered m_slots m_kept m_away m_input m_halfway m_output)) dX12_undo_34 k_X12_undo_w12 0 rfl rfl 6 (by decide) tyX12 tyX12_ok nmX12 k_X12_undo_2 rfl rfl (tyX12_ok 6 (by decide)) rfl rfl (by decide) rfl 37 rfl ?_
      refine v_aload_n X dX12_undo_37 0 rfl rfl 38 rfl ?_
      refine v_get X (C := RX12) (T := TX12) (N := 22) (ci := 11) (v := _) dX12_undo_38 k_X12_undo_w12 0 rfl rfl 3 (by decide) k_X12_undo_3 rfl rfl 41 rfl ?_
      refine v_sipush X dX12_undo_41 sp_463 44 rfl ?_
      refine v_aload_n X dX12_undo_44 0 rfl rfl 45 rfl ?_
      refine v_get X (C := RX12) (T := TX12) (N := 22) (ci := 11) (v := _) dX12_undo_45 k_X12_undo_w12 0 rfl rfl 7 (by decide) k_X12_undo_4 rfl rfl 48 rfl ?_
      refine v_aload_n X dX12_undo_48 0 rfl rfl 49 rfl ?_
      refine v_get X (C := RX12) (T := TX12) (N := 22) (ci := 11) (v := _) dX12_undo_49 k_X12_undo_w12 0 rfl rfl 6 (by decide) k_X12_undo_2 rfl rfl 52 rfl ?_
      refine v_iadd X dX12_undo_52 53 rfl ?_
      refine v_bipush X dX12_undo_53 bp_8 55 rfl ?_
      refine v_irem X dX12_undo_55 (by decide) 56 rfl ?_
      refine v_imul X dX12_undo_56 57 rfl ?_
      refine v_aload_n X dX12_undo_57 0 rfl rfl 58 rfl ?_
      refine v_get X (C := RX12) (T := TX12) (N := 22) (ci := 11) (v := _) dX12_undo_58 k_X12_undo_w12 0 rfl rfl 0 (by decide) k_X12_undo_5 rfl rfl 61 rfl ?_
      refine v_iconst X dX12_undo_61 ic_0 62 rfl ?_
      obtain ⟨o3, ho3, hf⟩ := bnd hf
      refine v_callSv X (As := [.ref (ad 4), .int (463 * (irm (m_undoStart + (m_undoable - 1)) 8)), .ref (ad 1), .int 0]) (rest := []) (ws' := (wX12 ad c9 (m_undoable - 1) m_undoStart o2.2 m_inputLength m_position m_start m_token m_value m_letters m_code m_place m_outputLength o3 m_parsed m_tried m_remembered m_slots m_kept m_away m_input m_halfway m_output)) (c_X12_copyRow l hG D c9 (ad 4) (ad 1) 3704 463 m_remembered m_s (463 * (irm (m_undoStart + (m_undoable - 1)) 8)) 0 ho3) 4 gX12_undo_X12_copyRow rfl rfl rfl pd_X12_copyRow ⟨Nat.le_of_ble_eq_true rfl, Nat.le_of_ble_eq_true rfl⟩ rfl rfl (Nat.le_of_ble_eq_true rfl) ⟨Nat.zero_le _, Nat.zero_le _⟩ [4, 1] [0, 2, 3, 5, 6, 7, 8, 9, 10] [0, 10, 1, 2, 9, 3, 4, 5, 6, 7, 8] rfl rfl rfl rfl dX12_undo_62 65 rfl ?_
      refine v_aload_n X dX12_undo_65 0 rfl rfl 66 rfl ?_
      refine v_get X (C := RX12) (T := TX12) (N := 22) (ci := 11) (v := _) dX12_undo_66 k_X12_undo_w12 0 rfl rfl 6 (by decide) k_X12_undo_2 rfl rfl 69 rfl ?_
      cases hf
      exact v_iret X (Nat.zero_le _) (Nat.zero_le _) dX12_undo_69
    · refine v_iconst X dX12_undo_25 ic_0 26 rfl ?_
      cases hf
      exact v_iret X (Nat.zero_le _) (Nat.zero_le _) dX12_undo_26
  clear hf
  refine v_if_ne X (tgt := 17) dX12_undo_10 rfl 13 rfl hj1 (fun hf => ?_) (fun hf => ?_)
  · refine v_iconst X dX12_undo_17 ic_0 18 rfl ?_
    cases hf
    exact Jj1
  · refine v_iconst X dX12_undo_13 ic_1 14 rfl ?_
    refine v_goto X (tgt := 18) dX12_undo_14 rfl ?_
    cases hf
    exact Jj1
theorem pd_X12_undo : yX12_undo.cls ≠ "java/lang/invoke/MethodHandle" ∧ yX12_undo.cls ≠ "java/lang/invoke/VarHandle" ∧ (parseMethodDescriptor yX12_undo.desc).map (fun d => d.parameters.length) = some 0 := by decide +kernel
theorem k_X12_noRealm_w12 : ∀ w ∈ u_ws RX12 TX12 22, w ∈ wsX12_noRealm := in_r _ [15, 16, 17, 18, 19, 20, 21, 22, 23, 24, 25, 26, 27, 28, 29, 30, 31, 32, 33, 34, 35, 36] rfl
theorem k_X12_noRealm_1 : Cond.fieldLink RX12 7 "TicketGateModel" "s" "[I" ∈ wsX12_noRealm := List.mem_of_getElem? (i := 1) rfl
def f_X12_noRealm (m_thrown : Int32) (m_s : Nat → Int32) (v1 : Int32) : Option (Int32 × Int32) :=
  (rd m_s 463 3).bind fun x1 =>
  (f_X12_noNumber m_thrown v1 0 (x1 - 1)).bind fun o2 =>
  (zr o2.1).bind fun z3 => some (z3, o2.2)
set_option maxRecDepth 100000 in
set_option maxHeartbeats 4000000 in
theorem c_X12_noRealm (l : Launch) {G : (Nat → Prop) → State → Heap → Prop} (hG : vG G) (D : va_G) (c9 : Nat → ClassId) (ad : Nat → Nat) (m_undoable : Int32) (m_undoStart : Int32) (m_thrown : Int32) (m_inputLength : Int32) (m_position : Int32) (m_start : Int32) (m_token : Int32) (m_value : Int32) (m_letters : Int32) (m_code : Int32) (m_place : Int32) (m_outputLength : Int32) (m_s : Nat → Int32) (m_parsed : Nat → Int32) (m_tried : Nat → Int32) (m_remembered : Nat → Int32) (m_slots : Nat → Int32) (m_kept : Nat → Int32) (m_away : Nat → Int32) (m_input : Nat → Int32) (m_halfway : Nat → Int32) (m_output : Nat → Int32) (v1 : Int32) {o : Int32 × Int32} (hf : f_X12_noRealm m_thrown m_s v1 = some o) : mI l yX12_noRealm wsX12_noRealm { frames := 2, cells := 0, slots := 0, locals := 45 } G D (tyA c9) [.ref (ad 0), .int v1] (wX12 ad c9 m_undoable m_undoStart m_thrown m_inputLength m_position m_start m_token m_value m_letters m_code m_place m_outputLength m_s m_parsed m_tried m_remembered m_slots m_kept m_away m_input m_halfway m_output) [] 0 0 o.1 (wX12 ad c9 m_undoable m_undoStart o.2 m_inputLength m_position m_start m_token m_value m_letters m_code m_place m_outputLength m_s m_parsed m_tried m_remembered m_slots m_kept m_away m_input m_halfway m_output) := by
  refine mI_of hG (cc := cX12_noRealm) (maxL := 2) (ty := .boolean) (by decide) rfl (Nat.le_of_ble_eq_true rfl) ?_
  intro p e s m args below meth c A X
  have X : vX p s m args meth c cX12_noRealm 2 (some .boolean) RX12 wsX12_noRealm D (tyA c9) G A := X
  refine v_eq (lv2 := [(0, .ref (ad 0)), (1, .int v1)]) rfl rfl rfl rfl ?_
  rw [f_X12_noRealm] at hf
  refine v_aload_n X dX12_noRealm_0 0 rfl rfl 1 rfl ?_
  refine v_iload_n X dX12_noRealm_1 1 rfl rfl 2 rfl ?_
  refine v_iconst X dX12_noRealm_2 ic_0 3 rfl ?_
  refine v_aload_n X dX12_noRealm_3 0 rfl rfl 4 rfl ?_
  refine v_get X (C := RX12) (T := TX12) (N := 22) (ci := 11) (v := _) dX12_noRealm_4 k_X12_noRealm_w12 0 rfl rfl 0 (by decide) k_X12_noRealm_1 rfl rfl 7 rfl ?_
  refine v_iconst X dX12_noRealm_7 ic_3 8 rfl ?_
  obtain ⟨x1, hx1, hf⟩ := bnd hf
  refine v_iald X dX12_noRealm_8 1 0 rfl rfl hx1 9 rfl ?_
  refine v_iconst X dX12_noRealm_9 ic_1 10 rfl ?_
  refine v_isub X dX12_noRealm_10 11 rfl ?_
  obtain ⟨o2, ho2, hf⟩ := bnd hf
  refine v_callVi X (ci := 11) (T := TX12) (C := RX12) (As := [.int v1, .int 0, .int (x1 - 1)]) (rest := []) (ws' := (wX12 ad c9 m_undoable m_undoStart o2.2 m_inputLength m_position m_start m_token m_value m_letters m_code m_place m_outputLength m_s m_parsed m_tried m_remembered m_slots m_kept m_away m_input m_halfway m_output)) (c_X12_noNumber l hG D c9 ad m_undoable m_undoStart m_thrown m_inputLength m_position m_start m_token m_value m_letters m_code m_place m_outputLength m_s m_parsed m_tried m_remembered m_slots m_kept m_away m_input m_halfway m_output v1 0 (x1 - 1) ho2) 3 gX12_noRealm_X12_noNumber rfl rfl rfl ⟨rfl, pd_X12_noNumber⟩ ⟨Nat.le_of_ble_eq_true rfl, Nat.le_of_ble_eq_true rfl⟩ 0 rfl rfl rfl rfl (Nat.le_of_ble_eq_true rfl) ⟨Nat.zero_le _, Nat.zero_le _⟩ [0, 1, 2, 3, 4, 5, 6, 7, 8, 9, 10] [] [0, 1, 2, 3, 4, 5, 6, 7, 8, 9, 10] rfl rfl rfl rfl dX12_noRealm_11 14 rfl ?_
  obtain ⟨z3, hz3, hf⟩ := bnd hf
  cases hf
  exact v_zretq hz3 X (Nat.zero_le _) (Nat.zero_le _) dX12_noRealm_14
theorem pd_X12_noRealm : yX12_noRealm.cls ≠ "java/lang/invoke/MethodHandle" ∧ yX12_noRealm.cls ≠ "java/lang/invoke/VarHandle" ∧ (parseMethodDescriptor yX12_noRealm.desc).map (fun d => d.parameters.length) = some 1 := by decide +kernel
def f_X12_noRealms (m_thrown : Int32) (m_s : Nat → Int32) (v1 : Int32) (v2 : Int32) : Option (Int32 × Int32) :=
  (f_X12_noRealm m_thrown m_s v1).bind fun o1 =>
  if o1.1 = 0 then (
    (f_X12_noRealm o1.2 m_s v2).bind fun o2 =>
    if o2.1 = 0 then (
      some (0, o2.2))
    else (
      some (1, o2.2)))
  else (
    some (1, o1.2))
set_option maxRecDepth 100000 in
set_option maxHeartbeats 4000000 in
theorem c_X12_noRealms (l : Launch) {G : (Nat → Prop) → State → Heap → Prop} (hG : vG G) (D : va_G) (c9 : Nat → ClassId) (ad : Nat → Nat) (m_undoable : Int32) (m_undoStart : Int32) (m_thrown : Int32) (m_inputLength : Int32) (m_position : Int32) (m_start : Int32) (m_token : Int32) (m_value : Int32) (m_letters : Int32) (m_code : Int32) (m_place : Int32) (m_outputLength : Int32) (m_s : Nat → Int32) (m_parsed : Nat → Int32) (m_tried : Nat → Int32) (m_remembered : Nat → Int32) (m_slots : Nat → Int32) (m_kept : Nat → Int32) (m_away : Nat → Int32) (m_input : Nat → Int32) (m_halfway : Nat → Int32) (m_output : Nat → Int32) (v1 : Int32) (v2 : Int32) {o : Int32 × Int32} (hf : f_X12_noRealms m_thrown m_s v1 v2 = some o) : mI l yX12_noRealms wsX12_noRealms { frames := 3, cells := 0, slots := 0, locals := 66 } G D (tyA c9) [.ref (ad 0), .int v1, .int v2] (wX12 ad c9 m_undoable m_undoStart m_thrown m_inputLength m_position m_start m_token m_value m_letters m_code m_place m_outputLength m_s m_parsed m_tried m_remembered m_slots m_kept m_away m_input m_halfway m_output) [] 0 0 o.1 (wX12 ad c9 m_undoable m_undoStart o.2 m_inputLength m_position m_start m_token m_value m_letters m_code m_place m_outputLength m_s m_parsed m_tried m_remembered m_slots m_kept m_away m_input m_halfway m_output) := by
  refine mI_of hG (cc := cX12_noRealms) (maxL := 3) (ty := .boolean) (by decide) rfl (Nat.le_of_ble_eq_true rfl) ?_
  intro p e s m args below meth c A X
  have X : vX p s m args meth c cX12_noRealms 3 (some .boolean) RX12 wsX12_noRealms D (tyA c9) G A := X
  refine v_eq (lv2 := [(0, .ref (ad 0)), (1, .int v1), (2, .int v2)]) rfl rfl rfl rfl ?_
  rw [f_X12_noRealms] at hf
  refine v_aload_n X dX12_noRealms_0 0 rfl rfl 1 rfl ?_
  refine v_iload_n X dX12_noRealms_1 1 rfl rfl 2 rfl ?_
  obtain ⟨o1, ho1, hf⟩ := bnd hf
  refine v_callVi X (ci := 11) (T := TX12) (C := RX12) (As := [.int v1]) (rest := []) (ws' := (wX12 ad c9 m_undoable m_undoStart o1.2 m_inputLength m_position m_start m_token m_value m_letters m_code m_place m_outputLength m_s m_parsed m_tried m_remembered m_slots m_kept m_away m_input m_halfway m_output)) (c_X12_noRealm l hG D c9 ad m_undoable m_undoStart m_thrown m_inputLength m_position m_start m_token m_value m_letters m_code m_place m_outputLength m_s m_parsed m_tried m_remembered m_slots m_kept m_away m_input m_halfway m_output v1 ho1) 1 gX12_noRealms_X12_noRealm rfl rfl rfl ⟨rfl, pd_X12_noRealm⟩ ⟨Nat.le_of_ble_eq_true rfl, Nat.le_of_ble_eq_true rfl⟩ 0 rfl rfl rfl rfl (Nat.le_of_ble_eq_true rfl) ⟨Nat.zero_le _, Nat.zero_le _⟩ [0, 1, 2, 3, 4, 5, 6, 7, 8, 9, 10] [] [0, 1, 2, 3, 4, 5, 6, 7, 8, 9, 10] rfl rfl rfl rfl dX12_noRealms_2 5 rfl ?_
  refine v_if_ne X (tgt := 16) dX12_noRealms_5 rfl 8 rfl hf (fun hf => ?_) (fun hf => ?_)
  · refine v_iconst X dX12_noRealms_16 ic_1 17 rfl ?_
    refine v_goto X (tgt := 21) dX12_noRealms_17 rfl ?_
    cases hf
    exact v_zret X (Nat.zero_le _) (Nat.zero_le _) rfl dX12_noRealms_21
  · refine v_aload_n X dX12_noRealms_8 0 rfl rfl 9 rfl ?_
    refine v_iload_n X dX12_noRealms_9 2 rfl rfl 10 rfl ?_
    obtain ⟨o2, ho2, hf⟩ := bnd hf
    refine v_callVi X (ci := 11) (T := TX12) (C := RX12) (As := [.int v2]) (rest := []) (ws' := (wX12 ad c9 m_undoable m_undoStart o2.2 m_inputLength m_position m_start m_token m_value m_letters m_code m_place m_outputLength m_s m_parsed m_tried m_remembered m_slots m_kept m_away m_input m_halfway m_output)) (c_X12_noRealm l hG D c9 ad m_undoable m_undoStart o1.2 m_inputLength m_position m_start m_token m_value m_letters m_code m_place m_outputLength m_s m_parsed m_tried m_remembered m_slots m_kept m_away m_input m_halfway m_output v2 ho2) 1 gX12_noRealms_X12_noRealm rfl rfl rfl ⟨rfl, pd_X12_noRealm⟩ ⟨Nat.le_of_ble_eq_true rfl, Nat.le_of_ble_eq_true rfl⟩ 0 rfl rfl rfl rfl (Nat.le_of_ble_eq_true rfl) ⟨Nat.zero_le _, Nat.zero_le _⟩ [0, 1, 2, 3, 4, 5, 6, 7, 8, 9, 10] [] [0, 1, 2, 3, 4, 5, 6, 7, 8, 9, 10] rfl rfl rfl rfl dX12_noRealms_10 13 rfl ?_
    refine v_if_eq X (tgt := 20) dX12_noRealms_13 rfl 16 rfl hf (fun hf => ?_) (fun hf => ?_)
    · refine v_iconst X dX12_noRealms_20 ic_0 21 rfl ?_
      cases hf
      exact v_zret X (Nat.zero_le _) (Nat.zero_le _) rfl dX12_noRealms_21
    · refine v_iconst X dX12_noRealms_16 ic_1 17 rfl ?_
      refine v_goto X (tgt := 21) dX12_noRealms_17 rfl ?_
      cases hf
      exact v_zret X (Nat.zero_le _) (Nat.zero_le _) rfl dX12_noRealms_21
theorem pd_X12_noRealms : yX12_noRealms.cls ≠ "java/lang/invoke/MethodHandle" ∧ yX12_noRealms.cls ≠ "java/lang/invoke/VarHandle" ∧ (parseMethodDescriptor yX12_noRealms.desc).map (fun d => d.parameters.length) = some 2 := by decide +kernel
theorem k_X12_noUser_w12 : ∀ w ∈ u_ws RX12 TX12 22, w ∈ wsX12_noUser := in_r _ [15, 16, 17, 18, 19, 20, 21, 22, 23, 24, 25, 26, 27, 28, 29, 30, 31, 32, 33, 34, 35, 36] rfl
theorem k_X12_noUser_1 : Cond.fieldLink RX12 7 "TicketGateModel" "s" "[I" ∈ wsX12_noUser := List.mem_of_getElem? (i := 1) rfl
def f_X12_noUser (m_thrown : Int32) (m_s : Nat → Int32) (v1 : Int32) : Option (Int32 × Int32) :=
  (rd m_s 463 4).bind fun x1 =>
  (f_X12_noNumber m_thrown v1 0 (x1 - 1)).bind fun o2 =>
  (zr o2.1).bind fun z3 => some (z3, o2.2)
set_option maxRecDepth 100000 in
set_option maxHeartbeats 4000000 in
theorem c_X12_noUser (l : Launch) {G : (Nat → Prop) → State → Heap → Prop} (hG : vG G) (D : va_G) (c9 : Nat → ClassId) (ad : Nat → Nat) (m_undoable : Int32) (m_undoStart : Int32) (m_thrown : Int32) (m_inputLength : Int32) (m_position : Int32) (m_start : Int32) (m_token : Int32) (m_value : Int32) (m_letters : Int32) (m_code : Int32) (m_place : Int32) (m_outputLength : Int32) (m_s : Nat → Int32) (m_parsed : Nat → Int32) (m_tried : Nat → Int32) (m_remembered : Nat → Int32) (m_slots : Nat → Int32) (m_kept : Nat → Int32) (m_away : Nat → Int32) (m_input : Nat → Int32) (m_halfway : Nat → Int32) (m_output : Nat → Int32) (v1 : Int32) {o : Int32 × Int32} (hf : f_X12_noUser m_thrown m_s v1 = some o) : mI l yX12_noUser wsX12_noUser { frames := 2, cells := 0, slots := 0, locals := 45 } G D (tyA c9) [.ref (ad 0), .int v1] (wX12 ad c9 m_undoable m_undoStart m_thrown m_inputLength m_position m_start m_token m_value m_letters m_code m_place m_outputLength m_s m_parsed m_tried m_remembered m_slots m_kept m_away m_input m_halfway m_output) [] 0 0 o.1 (wX12 ad c9 m_undoable m_undoStart o.2 m_inputLength m_position m_start m_token m_value m_letters m_code m_place m_outputLength m_s m_parsed m_tried m_remembered m_slots m_kept m_away m_input m_halfway m_output) := by
  refine mI_of hG (cc := cX12_noUser) (maxL := 2) (ty := .boolean) (by decide) rfl (Nat.le_of_ble_eq_true rfl) ?_
  intro p e s m args below meth c A X
  have X : vX p s m args meth c cX12_noUser 2 (some .boolean) RX12 wsX12_noUser D (tyA c9) G A := X
  refine v_eq (lv2 := [(0, .ref (ad 0)), (1, .int v1)]) rfl rfl rfl rfl ?_
  rw [f_X12_noUser] at hf
  refine v_aload_n X dX12_noUser_0 0 rfl rfl 1 rfl ?_
  refine v_iload_n X dX12_noUser_1 1 rfl rfl 2 rfl ?_
  refine v_iconst X dX12_noUser_2 ic_0 3 rfl ?_
  refine v_aload_n X dX12_noUser_3 0 rfl rfl 4 rfl ?_
  refine v_get X (C := RX12) (T := TX12) (N := 22) (ci := 11) (v := _) dX12_noUser_4 k_X12_noUser_w12 0 rfl rfl 0 (by decide) k_X12_noUser_1 rfl rfl 7 rfl ?_
  refine v_iconst X dX12_noUser_7 ic_4 8 rfl ?_
  obtain ⟨x1, hx1, hf⟩ := bnd hf
  refine v_iald X dX12_noUser_8 1 0 rfl rfl hx1 9 rfl ?_
  refine v_iconst X dX12_noUser_9 ic_1 10 rfl ?_
  refine v_isub X dX12_noUser_10 11 rfl ?_
  obtain ⟨o2, ho2, hf⟩ := bnd hf
  refine v_callVi X (ci := 11) (T := TX12) (C := RX12) (As := [.int v1, .int 0, .int (x1 - 1)]) (rest := []) (ws' := (wX12 ad c9 m_undoable m_undoStart o2.2 m_inputLength m_position m_start m_token m_value m_letters m_code m_place m_outputLength m_s m_parsed m_tried m_remembered m_slots m_kept m_away m_input m_halfway m_output)) (c_X12_noNumber l hG D c9 ad m_undoable m_undoStart m_thrown m_inputLength m_position m_start m_token m_value m_letters m_code m_place m_outputLength m_s m_parsed m_tried m_remembered m_slots m_kept m_away m_input m_halfway m_output v1 0 (x1 - 1) ho2) 3 gX12_noUser_X12_noNumber rfl rfl rfl ⟨rfl, pd_X12_noNumber⟩ ⟨Nat.le_of_ble_eq_true rfl, Nat.le_of_ble_eq_true rfl⟩ 0 rfl rfl rfl rfl (Nat.le_of_ble_eq_true rfl) ⟨Nat.zero_le _, Nat.zero_le _⟩ [0, 1, 2, 3, 4, 5, 6, 7, 8, 9, 10] [] [0, 1, 2, 3, 4, 5, 6, 7, 8, 9, 10] rfl rfl rfl rfl dX12_noUser_11 14 rfl ?_
  obtain ⟨z3, hz3, hf⟩ := bnd hf
  cases hf
  exact v_zretq hz3 X (Nat.zero_le _) (Nat.zero_le _) dX12_noUser_14
theorem pd_X12_noUser : yX12_noUser.cls ≠ "java/lang/invoke/MethodHandle" ∧ yX12_noUser.cls ≠ "java/lang/invoke/VarHandle" ∧ (parseMethodDescriptor yX12_noUser.desc).map (fun d => d.parameters.length) = some 1 := by decide +kernel
theorem k_X12_noService_w12 : ∀ w ∈ u_ws RX12 TX12 22, w ∈ wsX12_noService := in_r _ [15, 16, 17, 18, 19, 20, 21, 22, 23, 24, 25, 26, 27, 28, 29, 30, 31, 32, 33, 34, 35, 36] rfl
theorem k_X12_noService_1 : Cond.fieldLink RX12 7 "TicketGateModel" "s" "[I" ∈ wsX12_noService := List.mem_of_getElem? (i := 1) rfl
def f_X12_noService (m_thrown : Int32) (m_s : Nat → Int32) (v1 : Int32) : Option (Int32 × Int32) :=
  (rd m_s 463 5).bind fun x1 =>
  (f_X12_noNumber m_thrown v1 0 (x1 - 1)).bind fun o2 =>
  (zr o2.1).bind fun z3 => some (z3, o2.2)
set_option maxRecDepth 100000 in
set_option maxHeartbeats 4000000 in
theorem c_X12_noService (l : Launch) {G : (Nat → Prop) → State → Heap → Prop} (hG : vG G) (D : va_G) (c9 : Nat → ClassId) (ad : Nat → Nat) (m_undoable : Int32) (m_undoStart : Int32) (m_thrown : Int32) (m_inputLength : Int32) (m_position : Int32) (m_start : Int32) (m_token : Int32) (m_value : Int32) (m_letters : Int32) (m_code : Int32) (m_place : Int32) (m_outputLength : Int32) (m_s : Nat → Int32) (m_parsed : Nat → Int32) (m_tried : Nat → Int32) (m_remembered : Nat → Int32) (m_slots : Nat → Int32) (m_kept : Nat → Int32) (m_away : Nat → Int32) (m_input : Nat → Int32) (m_halfway : Nat → Int32) (m_output : Nat → Int32) (v1 : Int32) {o : Int32 × Int32} (hf : f_X12_noService m_thrown m_s v1 = some o) : mI l yX12_noService wsX12_noService { frames := 2, cells := 0, slots := 0, locals := 45 } G D (tyA c9) [.ref (ad 0), .int v1] (wX12 ad c9 m_undoable m_undoStart m_thrown m_inputLength m_position m_start m_token m_value m_letters m_code m_place m_outputLength m_s m_parsed m_tried m_remembered m_slots m_kept m_away m_input m_halfway m_output) [] 0 0 o.1 (wX12 ad c9 m_undoable m_undoStart o.2 m_inputLength m_position m_start m_token m_value m_letters m_code m_place m_outputLength m_s m_parsed m_tried m_remembered m_slots m_kept m_away m_input m_halfway m_output) := by
  refine mI_of hG (cc := cX12_noService) (maxL := 2) (ty := .boolean) (by decide) rfl (Nat.le_of_ble_eq_true rfl) ?_
  intro p e s m args below meth c A X
  have X : vX p s m args meth c cX12_noService 2 (some .boolean) RX12 wsX12_noService D (tyA c9) G A := X
  refine v_eq (lv2 := [(0, .ref (ad 0)), (1, .int v1)]) rfl rfl rfl rfl ?_
  rw [f_X12_noService] at hf
  refine v_aload_n X dX12_noService_0 0 rfl rfl 1 rfl ?_
  refine v_iload_n X dX12_noService_1 1 rfl rfl 2 rfl ?_
  refine v_iconst X dX12_noService_2 ic_0 3 rfl ?_
  refine v_aload_n X dX12_noService_3 0 rfl rfl 4 rfl ?_
  refine v_get X (C := RX12) (T := TX12) (N := 22) (ci := 11) (v := _) dX12_noService_4 k_X12_noService_w12 0 rfl rfl 0 (by decide) k_X12_noService_1 rfl rfl 7 rfl ?_
  refine v_iconst X dX12_noService_7 ic_5 8 rfl ?_
  obtain ⟨x1, hx1, hf⟩ := bnd hf
  refine v_iald X dX12_noService_8 1 0 rfl rfl hx1 9 rfl ?_
  refine v_iconst X dX12_noService_9 ic_1 10 rfl ?_
  refine v_isub X dX12_noService_10 11 rfl ?_
  obtain ⟨o2, ho2, hf⟩ := bnd hf
  refine v_callVi X (ci := 11) (T := TX12) (C := RX12) (As := [.int v1, .int 0, .int (x1 - 1)]) (rest := []) (ws' := (wX12 ad c9 m_undoable m_undoStart o2.2 m_inputLength m_position m_start m_token m_value m_letters m_code m_place m_outputLength m_s m_parsed m_tried m_remembered m_slots m_kept m_away m_input m_halfway m_output)) (c_X12_noNumber l hG D c9 ad m_undoable m_undoStart m_thrown m_inputLength m_position m_start m_token m_value m_letters m_code m_place m_outputLength m_s m_parsed m_tried m_remembered m_slots m_kept m_away m_input m_halfway m_output v1 0 (x1 - 1) ho2) 3 gX12_noService_X12_noNumber rfl rfl rfl ⟨rfl, pd_X12_noNumber⟩ ⟨Nat.le_of_ble_eq_true rfl, Nat.le_of_ble_eq_true rfl⟩ 0 rfl rfl rfl rfl (Nat.le_of_ble_eq_true rfl) ⟨Nat.zero_le _, Nat.zero_le _⟩ [0, 1, 2, 3, 4, 5, 6, 7, 8, 9, 10] [] [0, 1, 2, 3, 4, 5, 6, 7, 8, 9, 10] rfl rfl rfl rfl dX12_noService_11 14 rfl ?_
  obtain ⟨z3, hz3, hf⟩ := bnd hf
  cases hf
  exact v_zretq hz3 X (Nat.zero_le _) (Nat.zero_le _) dX12_noService_14
theorem pd_X12_noService : yX12_noService.cls ≠ "java/lang/invoke/MethodHandle" ∧ yX12_noService.cls ≠ "java/lang/invoke/VarHandle" ∧ (parseMethodDescriptor yX12_noService.desc).map (fun d => d.parameters.length) = some 1 := by decide +kernel
theorem k_X12_noTicket_w12 : ∀ w ∈ u_ws RX12 TX12 22, w ∈ wsX12_noTicket := in_r _ [14, 15, 16, 17, 18, 19, 20, 21, 22, 23, 24, 25, 26, 27, 28, 29, 30, 31, 32, 33, 34, 35] rfl
theorem k_X12_noTicket_1 : Cond.fieldLink RX12 72 "TicketGateModel" "thrown" "I" ∈ wsX12_noTicket := List.mem_of_getElem? (i := 1) rfl
theorem k_X12_noTicket_2 : Cond.fieldLink RX12 7 "TicketGateModel" "s" "[I" ∈ wsX12_noTicket := List.mem_of_getElem? (i := 2) rfl
def f_X12_noTicket (m_thrown : Int32) (m_s : Nat → Int32) (v1 : Int32) : Option (Int32 × Int32) :=
  (f_X12_find m_s v1).bind fun o1 =>
  if o1 = (-1) then (
    (f_X12_refuses 0 1 1).bind fun o4 =>
    (zr o4.1).bind fun z5 => some (z5, o4.2))
  else (
    (f_X12_refuses 0 0 1).bind fun o2 =>
    (zr o2.1).bind fun z3 => some (z3, o2.2))
set_option maxRecDepth 100000 in
set_option maxHeartbeats 4000000 in
theorem c_X12_noTicket (l : Launch) {G : (Nat → Prop) → State → Heap → Prop} (hG : vG G) (D : va_G) (c9 : Nat → ClassId) (ad : Nat → Nat) (m_undoable : Int32) (m_undoStart : Int32) (m_thrown : Int32) (m_inputLength : Int32) (m_position : Int32) (m_start : Int32) (m_token : Int32) (m_value : Int32) (m_letters : Int32) (m_code : Int32) (m_place : Int32) (m_outputLength : Int32) (m_s : Nat → Int32) (m_parsed : Nat → Int32) (m_tried : Nat → Int32) (m_remembered : Nat → Int32) (m_slots : Nat → Int32) (m_kept : Nat → Int32) (m_away : Nat → Int32) (m_input : Nat → Int32) (m_halfway : Nat → Int32) (m_output : Nat → Int32) (v1 : Int32) {o : Int32 × Int32} (hf : f_X12_noTicket m_thrown m_s v1 = some o) : mI l yX12_noTicket wsX12_noTicket { frames := 2, cells := 0, slots := 0, locals := 42 } G D (tyA c9) [.ref (ad 0), .int v1] (wX12 ad c9 m_undoable m_undoStart m_thrown m_inputLength m_position m_start m_token m_value m_letters m_code m_place m_outputLength m_s m_parsed m_tried m_remembered m_slots m_kept m_away m_input m_halfway m_output) [] 0 0 o.1 (wX12 ad c9 m_undoable m_undoStart o.2 m_inputLength m_position m_start m_token m_value m_letters m_code m_place m_outputLength m_s m_parsed m_tried m_remembered m_slots m_kept m_away m_input m_halfway m_output) := by
  refine mI_of hG (cc := cX12_noTicket) (maxL := 2) (ty := .boolean) (by decide) rfl (Nat.le_of_ble_eq_true rfl) ?_
  intro p e s m args below meth c A X
  have X : vX p s m args meth c cX12_noTicket 2 (some .boolean) RX12 wsX12_noTicket D (tyA c9) G A := X
  refine v_eq (lv2 := [(0, .ref (ad 0)), (1, .int v1)]) rfl rfl rfl rfl ?_
  rw [f_X12_noTicket] at hf
  refine v_aload_n X dX12_noTicket_0 0 rfl rfl 1 rfl ?_
  refine v_iconst X dX12_noTicket_1 ic_0 2 rfl ?_
  refine v_put X (C := RX12) (T := TX12) (N := 22) (ci := 11) (ty := tyX12 8) (ws' := (wX12 ad c9 m_undoable m_undoStart 0 m_inputLength m_position m_start m_token m_value m_letters m_code m_place m_outputLength m_s m_parsed m_tried m_remembered m_slots m_kept m_away m_input m_halfway m_output)) dX12_noTicket_2 k_X12_noTicket_w12 0 rfl rfl 8 (by decide) tyX12 tyX12_ok nmX12 k_X12_noTicket_1 rfl rfl (tyX12_ok 8 (by decide)) rfl rfl (by decide) rfl 5 rfl ?_
  refine v_aload_n X dX12_noTicket_5 0 rfl rfl 6 rfl ?_
  refine v_aload_n X dX12_noTicket_6 0 rfl rfl 7 rfl ?_
  refine v_get X (C := RX12) (T := TX12) (N := 22) (ci := 11) (v := _) dX12_noTicket_7 k_X12_noTicket_w12 0 rfl rfl 0 (by decide) k_X12_noTicket_2 rfl rfl 10 rfl ?_
  refine v_iload_n X dX12_noTicket_10 1 rfl rfl 11 rfl ?_
  obtain ⟨o1, ho1, hf⟩ := bnd hf
  refine v_callSi X (As := [.ref (ad 1), .int v1]) (rest := [.ref (ad 0)]) (ws' := (wX12 ad c9 m_undoable m_undoStart 0 m_inputLength m_position m_start m_token m_value m_letters m_code m_place m_outputLength m_s m_parsed m_tried m_remembered m_slots m_kept m_away m_input m_halfway m_output)) (c_X12_find l hG D c9 (ad 1) m_s v1 ho1) 2 gX12_noTicket_X12_find rfl rfl rfl pd_X12_find ⟨Nat.le_of_ble_eq_true rfl, Nat.le_of_ble_eq_true rfl⟩ rfl rfl (Nat.le_of_ble_eq_true rfl) ⟨Nat.zero_le _, Nat.zero_le _⟩ [1] [0, 2, 3, 4, 5, 6, 7, 8, 9, 10] [0, 10, 1, 2, 3, 4, 5, 6, 7, 8, 9] rfl rfl rfl rfl dX12_noTicket_11 14 rfl ?_
  refine v_iconst X dX12_noTicket_14 ic_m1 15 rfl ?_
  refine v_icmp_ne X (tgt := 22) dX12_noTicket_15 rfl 18 rfl hf (fun hf => ?_) (fun hf => ?_)
  · refine v_iconst X dX12_noTicket_22 ic_0 23 rfl ?_
    refine v_iconst X dX12_noTicket_23 ic_1 24 rfl ?_
    obtain ⟨o2, ho2, hf⟩ := bnd hf
    refine v_callVi X (ci := 11) (T := TX12) (C := RX12) (As := [.int 0, .int 1]) (rest := []) (ws' := (wX12 ad c9 m_undoable m_undoStart o2.2 m_inputLength m_position m_start m_token m_value m_letters m_code m_place m_outputLength m_s m_parsed m_tried m_remembered m_slots m_kept m_away m_input m_halfway m_output)) (c_X12_refuses l hG D c9 ad m_undoable m_undoStart 0 m_inputLength m_position m_start m_token m_value m_letters m_code m_place m_outputLength m_s m_parsed m_tried m_remembered m_slots m_kept m_away m_input m_halfway m_output 0 1 ho2) 2 gX12_noTicket_X12_refuses rfl rfl rfl ⟨rfl, pd_X12_refuses⟩ ⟨Nat.le_of_ble_eq_true rfl, Nat.le_of_ble_eq_true rfl⟩ 0 rfl rfl rfl rfl (Nat.le_of_ble_eq_true rfl) ⟨Nat.zero_le _, Nat.zero_le _⟩ [0, 1, 2, 3, 4, 5, 6, 7, 8, 9, 10] [] [0, 1, 2, 3, 4, 5, 6, 7, 8, 9, 10] rfl rfl rfl rfl dX12_noTicket_24 27 rfl ?_
    obtain ⟨z3, hz3, hf⟩ := bnd hf
    cases hf
    exact v_zretq hz3 X (Nat.zero_le _) (Nat.zero_le _) dX12_noTicket_27
  · refine v_iconst X dX12_noTicket_18 ic_1 19 rfl ?_
    refine v_goto X (tgt := 23) dX12_noTicket_19 rfl ?_
    refine v_iconst X dX12_noTicket_23 ic_1 24 rfl ?_
    obtain ⟨o4, ho4, hf⟩ := bnd hf
    refine v_callVi X (ci := 11) (T := TX12) (C := RX12) (As := [.int 1, .int 1]) (rest := []) (ws' := (wX12 ad c9 m_undoable m_undoStart o4.2 m_inputLength m_position m_start m_token m_value m_letters m_code m_place m_outputLength m_s m_parsed m_tried m_remembered m_slots m_kept m_away m_input m_halfway m_output)) (c_X12_refuses l hG D c9 ad m_undoable m_undoStart 0 m_inputLength m_position m_start m_token m_value m_letters m_code m_place m_outputLength m_s m_parsed m_tried m_remembered m_slots m_kept m_away m_input m_halfway m_output 1 1 ho4) 2 gX12_noTicket_X12_refuses rfl rfl rfl ⟨rfl, pd_X12_refuses⟩ ⟨Nat.le_of_ble_eq_true rfl, Nat.le_of_ble_eq_true rfl⟩ 0 rfl rfl rfl rfl (Nat.le_of_ble_eq_true rfl) ⟨Nat.zero_le _, Nat.zero_le _⟩ [0, 1, 2, 3, 4, 5, 6, 7, 8, 9, 10] [] [0, 1, 2, 3, 4, 5, 6, 7, 8, 9, 10] rfl rfl rfl rfl dX12_noTicket_24 27 rfl ?_
    obtain ⟨z5, hz5, hf⟩ := bnd hf
    cases hf
    exact v_zretq hz5 X (Nat.zero_le _) (Nat.zero_le _) dX12_noTicket_27
theorem pd_X12_noTicket : yX12_noTicket.cls ≠ "java/lang/invoke/MethodHandle" ∧ yX12_noTicket.cls ≠ "java/lang/invoke/VarHandle" ∧ (parseMethodDescriptor yX12_noTicket.desc).map (fun d => d.parameters.length) = some 1 := by decide +kernel
