theorem k_X12_renew_w12 : ∀ w ∈ u_ws RX12 TX12 22, w ∈ wsX12_renew := in_r _ [49, 50, 51, 52, 53, 54, 55, 56, 57, 58, 59, 60, 61, 62, 63, 64, 65, 66, 67, 68, 69, 70] rfl
theorem k_X12_renew_1 : Cond.fieldLink RX12 7 "TicketGateModel" "s" "[I" ∈ wsX12_renew := List.mem_of_getElem? (i := 1) rfl
def f_X12_renew (m_undoable : Int32) (m_undoStart : Int32) (m_thrown : Int32) (m_s : Nat → Int32) (m_remembered : Nat → Int32) (v1 : Int32) : Option (Int32 × Int32 × Int32 × Int32 × (Nat → Int32) × (Nat → Int32)) :=
  (f_X12_noTicket m_thrown m_s v1).bind fun o1 =>
  if o1.1 = 0 then (
    (f_X12_find m_s v1).bind fun o2 =>
    (f_X12_whyNotRenew m_s o2).bind fun o3 =>
    Option.bind (if o3 = 0 then (
      some (0))
    else (
      some (1)) : Option (Int32)) fun j4 =>
    (f_X12_refuses o1.2 j4 2).bind fun o5 =>
    if o5.1 = 0 then (
      (f_X12_remember m_undoable m_undoStart m_s m_remembered).bind fun o6 =>
      (f_X12_find m_s v1).bind fun o7 =>
      (f_X12_renews m_s o7).bind fun o8 =>
      some (o8.1, o6.1, o6.2.1, o5.2, o8.2, o6.2.2))
    else (
      some (0, m_undoable, m_undoStart, o5.2, m_s, m_remembered)))
  else (
    some (0, m_undoable, m_undoStart, o1.2, m_s, m_remembered))
set_option maxRecDepth 100000 in
set_option maxHeartbeats 4000000 in
theorem c_X12_renew (l : Launch) {G : (Nat → Prop) → State → Heap → Prop} (hG : vG G) (D : va_G) (c9 : Nat → ClassId) (ad : Nat → Nat) (m_undoable : Int32) (m_undoStart : Int32) (m_thrown : Int32) (m_inputLength : Int32) (m_position : Int32) (m_start : Int32) (m_token : Int32) (m_value : Int32) (m_letters : Int32) (m_code : Int32) (m_place : Int32) (m_outputLength : Int32) (m_s : Nat → Int32) (m_parsed : Nat → Int32) (m_tried : Nat → Int32) (m_remembered : Nat → Int32) (m_slots : Nat → Int32) (m_kept : Nat → Int32) (m_away : Nat → Int32) (m_input : Nat → Int32) (m_halfway : Nat → Int32) (m_output : Nat → Int32) (v1 : Int32) {o : Int32 × Int32 × Int32 × Int32 × (Nat → Int32) × (Nat → Int32)} (hf : f_X12_renew m_undoable m_undoStart m_thrown m_s m_remembered v1 = some o) : mI l yX12_renew wsX12_renew { frames := 3, cells := 0, slots := 0, locals := 65 } G D (tyA c9) [.ref (ad 0), .int v1] (wX12 ad c9 m_undoable m_undoStart m_thrown m_inputLength m_position m_start m_token m_value m_letters m_code m_place m_outputLength m_s m_parsed m_tried m_remembered m_slots m_kept m_away m_input m_halfway m_output) [] 0 0 o.1 (wX12 ad c9 o.2.1 o.2.2.1 o.2.2.2.1 m_inputLength m_position m_start m_token m_value m_letters m_code m_place m_outputLength o.2.2.2.2.1 m_parsed m_tried o.2.2.2.2.2 m_slots m_kept m_away m_input m_halfway m_output) := by
  refine mI_of hG (cc := cX12_renew) (maxL := 2) (ty := .int) (by decide) rfl (Nat.le_of_ble_eq_true rfl) ?_
  intro p e s m args below meth c A X
  have X : vX p s m args meth c cX12_renew 2 (some .int) RX12 wsX12_renew D (tyA c9) G A := X
  refine v_eq (lv2 := [(0, .ref (ad 0)), (1, .int v1)]) rfl rfl rfl rfl ?_
  rw [f_X12_renew] at hf
  refine v_aload_n X dX12_renew_0 0 rfl rfl 1 rfl ?_
  refine v_iload_n X dX12_renew_1 1 rfl rfl 2 rfl ?_
  obtain ⟨o1, ho1, hf⟩ := bnd hf
  refine v_callVi X (ci := 11) (T := TX12) (C := RX12) (As := [.int v1]) (rest := []) (ws' := (wX12 ad c9 m_undoable m_undoStart o1.2 m_inputLength m_position m_start m_token m_value m_letters m_code m_place m_outputLength m_s m_parsed m_tried m_remembered m_slots m_kept m_away m_input m_halfway m_output)) (c_X12_noTicket l hG D c9 ad m_undoable m_undoStart m_thrown m_inputLength m_position m_start m_token m_value m_letters m_code m_place m_outputLength m_s m_parsed m_tried m_remembered m_slots m_kept m_away m_input m_halfway m_output v1 ho1) 1 gX12_renew_X12_noTicket rfl rfl rfl ⟨rfl, pd_X12_noTicket⟩ ⟨Nat.le_of_ble_eq_true rfl, Nat.le_of_ble_eq_true rfl⟩ 0 rfl rfl rfl rfl (Nat.le_of_ble_eq_true rfl) ⟨Nat.zero_le _, Nat.zero_le _⟩ [0, 1, 2, 3, 4, 5, 6, 7, 8, 9, 10] [] [0, 1, 2, 3, 4, 5, 6, 7, 8, 9, 10] rfl rfl rfl rfl dX12_renew_2 5 rfl ?_
  refine v_if_ne X (tgt := 39) dX12_renew_5 rfl 8 rfl hf (fun hf => ?_) (fun hf => ?_)
  · refine v_iconst X dX12_renew_39 ic_0 40 rfl ?_
    cases hf
    exact v_iret X (Nat.zero_le _) (Nat.zero_le _) dX12_renew_40
  · refine v_aload_n X dX12_renew_8 0 rfl rfl 9 rfl ?_
    refine v_aload_n X dX12_renew_9 0 rfl rfl 10 rfl ?_
    refine v_get X (C := RX12) (T := TX12) (N := 22) (ci := 11) (v := _) dX12_renew_10 k_X12_renew_w12 0 rfl rfl 0 (by decide) k_X12_renew_1 rfl rfl 13 rfl ?_
    refine v_aload_n X dX12_renew_13 0 rfl rfl 14 rfl ?_
    refine v_get X (C := RX12) (T := TX12) (N := 22) (ci := 11) (v := _) dX12_renew_14 k_X12_renew_w12 0 rfl rfl 0 (by decide) k_X12_renew_1 rfl rfl 17 rfl ?_
    refine v_iload_n X dX12_renew_17 1 rfl rfl 18 rfl ?_
    obtain ⟨o2, ho2, hf⟩ := bnd hf
    refine v_callSi X (As := [.ref (ad 1), .int v1]) (rest := [.ref (ad 1), .ref (ad 0)]) (ws' := (wX12 ad c9 m_undoable m_undoStart o1.2 m_inputLength m_position m_start m_token m_value m_letters m_code m_place m_outputLength m_s m_parsed m_tried m_remembered m_slots m_kept m_away m_input m_halfway m_output)) (c_X12_find l hG D c9 (ad 1) m_s v1 ho2) 2 gX12_renew_X12_find rfl rfl rfl pd_X12_find ⟨Nat.le_of_ble_eq_true rfl, Nat.le_of_ble_eq_true rfl⟩ rfl rfl (Nat.le_of_ble_eq_true rfl) ⟨Nat.zero_le _, Nat.zero_le _⟩ [1] [0, 2, 3, 4, 5, 6, 7, 8, 9, 10] [0, 10, 1, 2, 3, 4, 5, 6, 7, 8, 9] rfl rfl rfl rfl dX12_renew_18 21 rfl ?_
    obtain ⟨o3, ho3, hf⟩ := bnd hf
    refine v_callSi X (As := [.ref (ad 1), .int o2]) (rest := [.ref (ad 0)]) (ws' := (wX12 ad c9 m_undoable m_undoStart o1.2 m_inputLength m_position m_start m_token m_value m_letters m_code m_place m_outputLength m_s m_parsed m_tried m_remembered m_slots m_kept m_away m_input m_halfway m_output)) (c_X12_whyNotRenew l hG D c9 (ad 1) m_s o2 ho3) 2 gX12_renew_X12_whyNotRenew rfl rfl rfl pd_X12_whyNotRenew ⟨Nat.le_of_ble_eq_true rfl, Nat.le_of_ble_eq_true rfl⟩ rfl rfl (Nat.le_of_ble_eq_true rfl) ⟨Nat.zero_le _, Nat.zero_le _⟩ [1] [0, 2, 3, 4, 5, 6, 7, 8, 9, 10] [0, 10, 1, 2, 3, 4, 5, 6, 7, 8, 9] rfl rfl rfl rfl dX12_renew_21 24 rfl ?_
    obtain ⟨j4, hj4, hf⟩ := bnd hf
    have Jj4 : vW p l e { frames := 3, cells := 0, slots := 0, locals := 65 } s m args below meth c 2 D A [] 0 0 (MQ below (eI D (tyA c9) A o.1 ((wX12 ad c9 o.2.1 o.2.2.1 o.2.2.2.1 m_inputLength m_position m_start m_token m_value m_letters m_code m_place m_outputLength o.2.2.2.2.1 m_parsed m_tried o.2.2.2.2.2 m_slots m_kept m_away m_input m_halfway m_output) ++ [])) args s 0 0 A) (wX12 ad c9 m_undoable m_undoStart o1.2 m_inputLength m_position m_start m_token m_value m_letters m_code m_place m_outputLength m_s m_parsed m_tried m_remembered m_slots m_kept m_away m_input m_halfway m_output) 32 [(0, .ref (ad 0)), (1, .int v1)] [.int j4, .ref (ad 0)] := by
      refine v_iconst X dX12_renew_32 ic_2 33 rfl ?_
      obtain ⟨o5, ho5, hf⟩ := bnd hf
      refine v_callVi X (ci := 11) (T := TX12) (C := RX12) (As := [.int j4, .int 2]) (rest := []) (ws' := (wX12 ad c9 m_undoable m_undoStart o5.2 m_inputLength m_position m_start m_token m_value m_letters m_code m_place m_outputLength m_s m_parsed m_tried m_remembered m_slots m_kept m_away m_input m_halfway m_output)) (c_X12_refuses l hG D c9 ad m_undoable m_undoStart o1.2 m_inputLength m_position m_start m_token m_value m_letters m_code m_place m_outputLength m_s m_parsed m_tried m_remembered m_slots m_kept m_away m_input m_halfway m_output j4 2 ho5) 2 gX12_renew_X12_refuses rfl rfl rfl ⟨rfl, pd_X12_refuses⟩ ⟨Nat.le_of_ble_eq_true rfl, Nat.le_of_ble_eq_true rfl⟩ 0 rfl rfl rfl rfl (Nat.le_of_ble_eq_true rfl) ⟨Nat.zero_le _, Nat.zero_le _⟩ [0, 1, 2, 3, 4, 5, 6, 7, 8, 9, 10] [] [0, 1, 2, 3, 4, 5, 6, 7, 8, 9, 10] rfl rfl rfl rfl dX12_renew_33 36 rfl ?_
      refine v_if_eq X (tgt := 41) dX12_renew_36 rfl 39 rfl hf (fun hf => ?_) (fun hf => ?_)
      · refine v_aload_n X dX12_renew_41 0 rfl rfl 42 rfl ?_
        obtain ⟨o6, ho6, hf⟩ := bnd hf
        refine v_callVv X (ci := 11) (T := TX12) (C := RX12) (As := []) (rest := []) (ws' := (wX12 ad c9 o6.1 o6.2.1 o5.2 m_inputLength m_position m_start m_token m_value m_letters m_code m_place m_outputLength m_s m_parsed m_tried o6.2.2 m_slots m_kept m_away m_input m_halfway m_output)) (c_X12_remember l hG D c9 ad m_undoable m_undoStart o5.2 m_inputLength m_position m_start m_token m_value m_letters m_code m_place m_outputLength m_s m_parsed m_tried m_remembered m_slots m_kept m_away m_input m_halfway m_output ho6) 0 gX12_renew_X12_remember rfl rfl rfl ⟨rfl, pd_X12_remember⟩ ⟨Nat.le_of_ble_eq_true rfl, Nat.le_of_ble_eq_true rfl⟩ 0 rfl rfl rfl rfl (Nat.le_of_ble_eq_true rfl) ⟨Nat.zero_le _, Nat.zero_le _⟩ [0, 1, 2, 3, 4, 5, 6, 7, 8, 9, 10] [] [0, 1, 2, 3, 4, 5, 6, 7, 8, 9, 10] rfl rfl rfl rfl dX12_renew_42 45 rfl ?_
        refine v_aload_n X dX12_renew_45 0 rfl rfl 46 rfl ?_
        refine v_get X (C := RX12) (T := TX12) (N := 22) (ci := 11) (v := _) dX12_renew_46 k_X12_renew_w12 0 rfl rfl 0 (by decide) k_X12_renew_1 rfl rfl 49 rfl ?_
        refine v_aload_n X dX12_renew_49 0 rfl rfl 50 rfl ?_
        refine v_get X (C := RX12) (T := TX12) (N := 22) (ci := 11) (v := _) dX12_renew_50 k_X12_renew_w12 0 rfl rfl 0 (by decide) k_X12_renew_1 rfl rfl 53 rfl ?_
        refine v_iload_n X dX12_renew_53 1 rfl rfl 54 rfl ?_
        obtain ⟨o7, ho7, hf⟩ := bnd hf
        refine v_callSi X (As := [.ref (ad 1), .int v1]) (rest := [.ref (ad 1)]) (ws' := (wX12 ad c9 o6.1 o6.2.1 o5.2 m_inputLength m_position m_start m_token m_value m_letters m_code m_place m_outputLength m_s m_parsed m_tried o6.2.2 m_slots m_kept m_away m_input m_halfway m_output)) (c_X12_find l hG D c9 (ad 1) m_s v1 ho7) 2 gX12_renew_X12_find rfl rfl rfl pd_X12_find ⟨Nat.le_of_ble_eq_true rfl, Nat.le_of_ble_eq_true rfl⟩ rfl rfl (Nat.le_of_ble_eq_true rfl) ⟨Nat.zero_le _, Nat.zero_le _⟩ [1] [0, 2, 3, 4, 5, 6, 7, 8, 9, 10] [0, 10, 1, 2, 3, 4, 5, 6, 7, 8, 9] rfl rfl rfl rfl dX12_renew_54 57 rfl ?_
        obtain ⟨o8, ho8, hf⟩ := bnd hf
        refine v_callSi X (As := [.ref (ad 1), .int o7]) (rest := []) (ws' := (wX12 ad c9 o6.1 o6.2.1 o5.2 m_inputLength m_position m_start m_token m_value m_letters m_code m_place m_outputLength o8.2 m_parsed m_tried o6.2.2 m_slots m_kept m_away m_input m_halfway m_output)) (c_X12_renews l hG D c9 (ad 1) m_s o7 ho8) 2 gX12_renew_X12_renews rfl rfl rfl pd_X12_renews ⟨Nat.le_of_ble_eq_true rfl, Nat.le_of_ble_eq_true rfl⟩ rfl rfl (Nat.le_of_ble_eq_true rfl) ⟨Nat.zero_le _, Nat.zero_le _⟩ [1] [0, 2, 3, 4, 5, 6, 7, 8, 9, 10] [0, 10, 1, 2, 3, 4, 5, 6, 7, 8, 9] rfl rfl rfl rfl dX12_renew_57 60 rfl ?_
        cases hf
        exact v_iret X (Nat.zero_le _) (Nat.zero_le _) dX12_renew_60
      · refine v_iconst X dX12_renew_39 ic_0 40 rfl ?_
        cases hf
        exact v_iret X (Nat.zero_le _) (Nat.zero_le _) dX12_renew_40
    clear hf
    refine v_if_eq X (tgt := 31) dX12_renew_24 rfl 27 rfl hj4 (fun hf => ?_) (fun hf => ?_)
    · refine v_iconst X dX12_renew_31 ic_0 32 rfl ?_
      cases hf
      exact Jj4
    · refine v_iconst X dX12_renew_27 ic_1 28 rfl ?_
      refine v_goto X (tgt := 32) dX12_renew_28 rfl ?_
      cases hf
      exact Jj4
theorem pd_X12_renew : yX12_renew.cls ≠ "java/lang/invoke/MethodHandle" ∧ yX12_renew.cls ≠ "java/lang/invoke/VarHandle" ∧ (parseMethodDescriptor yX12_renew.desc).map (fun d => d.parameters.length) = some 1 := by decide +kernel
theorem k_X12_cheese_w12 : ∀ w ∈ u_ws RX12 TX12 22, w ∈ wsX12_cheese := in_r _ [61, 62, 63, 64, 65, 66, 67, 68, 69, 70, 71, 72, 73, 74, 75, 76, 77, 78, 79, 80, 81, 82] rfl
theorem k_X12_cheese_1 : Cond.fieldLink RX12 7 "TicketGateModel" "s" "[I" ∈ wsX12_cheese := List.mem_of_getElem? (i := 1) rfl
def f_X12_cheese (m_undoable : Int32) (m_undoStart : Int32) (m_thrown : Int32) (m_s : Nat → Int32) (m_remembered : Nat → Int32) (v1 : Int32) : Option (Int32 × Int32 × Int32 × Int32 × (Nat → Int32) × (Nat → Int32)) :=
  (f_X12_noTicket m_thrown m_s v1).bind fun o1 =>
  if o1.1 = 0 then (
    (f_X12_find m_s v1).bind fun o2 =>
    (f_X12_whyNotCheese m_s o2).bind fun o3 =>
    Option.bind (if o3 = 0 then (
      some (0))
    else (
      some (1)) : Option (Int32)) fun j4 =>
    (f_X12_refuses o1.2 j4 2).bind fun o5 =>
    if o5.1 = 0 then (
      (f_X12_remember m_undoable m_undoStart m_s m_remembered).bind fun o6 =>
      (f_X12_find m_s v1).bind fun o7 =>
      (f_X12_gives m_s o7).bind fun o8 =>
      some (o8.1, o6.1, o6.2.1, o5.2, o8.2, o6.2.2))
    else (
      some (0, m_undoable, m_undoStart, o5.2, m_s, m_remembered)))
  else (
    some (0, m_undoable, m_undoStart, o1.2, m_s, m_remembered))
set_option maxRecDepth 100000 in
set_option maxHeartbeats 4000000 in
theorem c_X12_cheese (l : Launch) {G : (Nat → Prop) → State → Heap → Prop} (hG : vG G) (D : va_G) (c9 : Nat → ClassId) (ad : Nat → Nat) (m_undoable : Int32) (m_undoStart : Int32) (m_thrown : Int32) (m_inputLength : Int32) (m_position : Int32) (m_start : Int32) (m_token : Int32) (m_value : Int32) (m_letters : Int32) (m_code : Int32) (m_place : Int32) (m_outputLength : Int32) (m_s : Nat → Int32) (m_parsed : Nat → Int32) (m_tried : Nat → Int32) (m_remembered : Nat → Int32) (m_slots : Nat → Int32) (m_kept : Nat → Int32) (m_away : Nat → Int32) (m_input : Nat → Int32) (m_halfway : Nat → Int32) (m_output : Nat → Int32) (v1 : Int32) {o : Int32 × Int32 × Int32 × Int32 × (Nat → Int32) × (Nat → Int32)} (hf : f_X12_cheese m_undoable m_undoStart m_thrown m_s m_remembered v1 = some o) : mI l yX12_cheese wsX12_cheese { frames := 4, cells := 0, slots := 0, locals := 87 } G D (tyA c9) [.ref (ad 0), .int v1] (wX12 ad c9 m_undoable m_undoStart m_thrown m_inputLength m_position m_start m_token m_value m_letters m_code m_place m_outputLength m_s m_parsed m_tried m_remembered m_slots m_kept m_away m_input m_halfway m_output) [] 0 0 o.1 (wX12 ad c9 o.2.1 o.2.2.1 o.2.2.2.1 m_inputLength m_position m_start m_token m_value m_letters m_code m_place m_outputLength o.2.2.2.2.1 m_parsed m_tried o.2.2.2.2.2 m_slots m_kept m_away m_input m_halfway m_output) := by
  refine mI_of hG (cc := cX12_cheese) (maxL := 2) (ty := .int) (by decide) rfl (Nat.le_of_ble_eq_true rfl) ?_
  intro p e s m args below meth c A X
  have X : vX p s m args meth c cX12_cheese 2 (some .int) RX12 wsX12_cheese D (tyA c9) G A := X
  refine v_eq (lv2 := [(0, .ref (ad 0)), (1, .int v1)]) rfl rfl rfl rfl ?_
  rw [f_X12_cheese] at hf
  refine v_aload_n X dX12_cheese_0 0 rfl rfl 1 rfl ?_
  refine v_iload_n X dX12_cheese_1 1 rfl rfl 2 rfl ?_
  obtain ⟨o1, ho1, hf⟩ := bnd hf
  refine v_callVi X (ci := 11) (T := TX12) (C := RX12) (As := [.int v1]) (rest := []) (ws' := (wX12 ad c9 m_undoable m_undoStart o1.2 m_inputLength m_position m_start m_token m_value m_letters m_code m_place m_outputLength m_s m_parsed m_tried m_remembered m_slots m_kept m_away m_input m_halfway m_output)) (c_X12_noTicket l hG D c9 ad m_undoable m_undoStart m_thrown m_inputLength m_position m_start m_token m_value m_letters m_code m_place m_outputLength m_s m_parsed m_tried m_remembered m_slots m_kept m_away m_input m_halfway m_output v1 ho1) 1 gX12_cheese_X12_noTicket rfl rfl rfl ⟨rfl, pd_X12_noTicket⟩ ⟨Nat.le_of_ble_eq_true rfl, Nat.le_of_ble_eq_true rfl⟩ 0 rfl rfl rfl rfl (Nat.le_of_ble_eq_true rfl) ⟨Nat.zero_le _, Nat.zero_le _⟩ [0, 1, 2, 3, 4, 5, 6, 7, 8, 9, 10] [] [0, 1, 2, 3, 4, 5, 6, 7, 8, 9, 10] rfl rfl rfl rfl dX12_cheese_2 5 rfl ?_
  refine v_if_ne X (tgt := 39) dX12_cheese_5 rfl 8 rfl hf (fun hf => ?_) (fun hf => ?_)
  · refine v_iconst X dX12_cheese_39 ic_0 40 rfl ?_
    cases hf
    exact v_iret X (Nat.zero_le _) (Nat.zero_le _) dX12_cheese_40
  · refine v_aload_n X dX12_cheese_8 0 rfl rfl 9 rfl ?_
    refine v_aload_n X dX12_cheese_9 0 rfl rfl 10 rfl ?_
    refine v_get X (C := RX12) (T := TX12) (N := 22) (ci := 11) (v := _) dX12_cheese_10 k_X12_cheese_w12 0 rfl rfl 0 (by decide) k_X12_cheese_1 rfl rfl 13 rfl ?_
    refine v_aload_n X dX12_cheese_13 0 rfl rfl 14 rfl ?_
    refine v_get X (C := RX12) (T := TX12) (N := 22) (ci := 11) (v := _) dX12_cheese_14 k_X12_cheese_w12 0 rfl rfl 0 (by decide) k_X12_cheese_1 rfl rfl 17 rfl ?_
    refine v_iload_n X dX12_cheese_17 1 rfl rfl 18 rfl ?_
    obtain ⟨o2, ho2, hf⟩ := bnd hf
    refine v_callSi X (As := [.ref (ad 1), .int v1]) (rest := [.ref (ad 1), .ref (ad 0)]) (ws' := (wX12 ad c9 m_undoable m_undoStart o1.2 m_inputLength m_position m_start m_token m_value m_letters m_code m_place m_outputLength m_s m_parsed m_tried m_remembered m_slots m_kept m_away m_input m_halfway m_output)) (c_X12_find l hG D c9 (ad 1) m_s v1 ho2) 2 gX12_cheese_X12_find rfl rfl rfl pd_X12_find ⟨Nat.le_of_ble_eq_true rfl, Nat.le_of_ble_eq_true rfl⟩ rfl rfl (Nat.le_of_ble_eq_true rfl) ⟨Nat.zero_le _, Nat.zero_le _⟩ [1] [0, 2, 3, 4, 5, 6, 7, 8, 9, 10] [0, 10, 1, 2, 3, 4, 5, 6, 7, 8, 9] rfl rfl rfl rfl dX12_cheese_18 21 rfl ?_
    obtain ⟨o3, ho3, hf⟩ := bnd hf
    refine v_callSi X (As := [.ref (ad 1), .int o2]) (rest := [.ref (ad 0)]) (ws' := (wX12 ad c9 m_undoable m_undoStart o1.2 m_inputLength m_position m_start m_token m_value m_letters m_code m_place m_outputLength m_s m_parsed m_tried m_remembered m_slots m_kept m_away m_input m_halfway m_output)) (c_X12_whyNotCheese l hG D c9 (ad 1) m_s o2 ho3) 2 gX12_cheese_X12_whyNotCheese rfl rfl rfl pd_X12_whyNotCheese ⟨Nat.le_of_ble_eq_true rfl, Nat.le_of_ble_eq_true rfl⟩ rfl rfl (Nat.le_of_ble_eq_true rfl) ⟨Nat.zero_le _, Nat.zero_le _⟩ [1] [0, 2, 3, 4, 5, 6, 7, 8, 9, 10] [0, 10, 1, 2, 3, 4, 5, 6, 7, 8, 9] rfl rfl rfl rfl dX12_cheese_21 24 rfl ?_
    obtain ⟨j4, hj4, hf⟩ := bnd hf
    have Jj4 : vW p l e { frames := 4, cells := 0, slots := 0, locals := 87 } s m args below meth c 2 D A [] 0 0 (MQ below (eI D (tyA c9) A o.1 ((wX12 ad c9 o.2.1 o.2.2.1 o.2.2.2.1 m_inputLength m_position m_start m_token m_value m_letters m_code m_place m_outputLength o.2.2.2.2.1 m_parsed m_tried o.2.2.2.2.2 m_slots m_kept m_away m_input m_halfway m_output) ++ [])) args s 0 0 A) (wX12 ad c9 m_undoable m_undoStart o1.2 m_inputLength m_position m_start m_token m_value m_letters m_code m_place m_outputLength m_s m_parsed m_tried m_remembered m_slots m_kept m_away m_input m_halfway m_output) 32 [(0, .ref (ad 0)), (1, .int v1)] [.int j4, .ref (ad 0)] := by
      refine v_iconst X dX12_cheese_32 ic_2 33 rfl ?_
      obtain ⟨o5, ho5, hf⟩ := bnd hf
      refine v_callVi X (ci := 11) (T := TX12) (C := RX12) (As := [.int j4, .int 2]) (rest := []) (ws' := (wX12 ad c9 m_undoable m_undoStart o5.2 m_inputLength m_position m_start m_token m_value m_letters m_code m_place m_outputLength m_s m_parsed m_tried m_remembered m_slots m_kept m_away m_input m_halfway m_output)) (c_X12_refuses l hG D c9 ad m_undoable m_undoStart o1.2 m_inputLength m_position m_start m_token m_value m_letters m_code m_place m_outputLength m_s m_parsed m_tried m_remembered m_slots m_kept m_away m_input m_halfway m_output j4 2 ho5) 2 gX12_cheese_X12_refuses rfl rfl rfl ⟨rfl, pd_X12_refuses⟩ ⟨Nat.le_of_ble_eq_true rfl, Nat.le_of_ble_eq_true rfl⟩ 0 rfl rfl rfl rfl (Nat.le_of_ble_eq_true rfl) ⟨Nat.zero_le _, Nat.zero_le _⟩ [0, 1, 2, 3, 4, 5, 6, 7, 8, 9, 10] [] [0, 1, 2, 3, 4, 5, 6, 7, 8, 9, 10] rfl rfl rfl rfl dX12_cheese_33 36 rfl ?_
      refine v_if_eq X (tgt := 41) dX12_cheese_36 rfl 39 rfl hf (fun hf => ?_) (fun hf => ?_)
      · refine v_aload_n X dX12_cheese_41 0 rfl rfl 42 rfl ?_
        obtain ⟨o6, ho6, hf⟩ := bnd hf
        refine v_callVv X (ci := 11) (T := TX12) (C := RX12) (As := []) (rest := []) (ws' := (wX12 ad c9 o6.1 o6.2.1 o5.2 m_inputLength m_position m_start m_token m_value m_letters m_code m_place m_outputLength m_s m_parsed m_tried o6.2.2 m_slots m_kept m_away m_input m_halfway m_output)) (c_X12_remember l hG D c9 ad m_undoable m_undoStart o5.2 m_inputLength m_position m_start m_token m_value m_letters m_code m_place m_outputLength m_s m_parsed m_tried m_remembered m_slots m_kept m_away m_input m_halfway m_output ho6) 0 gX12_cheese_X12_remember rfl rfl rfl ⟨rfl, pd_X12_remember⟩ ⟨Nat.le_of_ble_eq_true rfl, Nat.le_of_ble_eq_true rfl⟩ 0 rfl rfl rfl rfl (Nat.le_of_ble_eq_true rfl) ⟨Nat.zero_le _, Nat.zero_le _⟩ [0, 1, 2, 3, 4, 5, 6, 7, 8, 9, 10] [] [0, 1, 2, 3, 4, 5, 6, 7, 8, 9, 10] rfl rfl rfl rfl dX12_cheese_42 45 rfl ?_
        refine v_aload_n X dX12_cheese_45 0 rfl rfl 46 rfl ?_
        refine v_get X (C := RX12) (T := TX12) (N := 22) (ci := 11) (v := _) dX12_cheese_46 k_X12_cheese_w12 0 rfl rfl 0 (by decide) k_X12_cheese_1 rfl rfl 49 rfl ?_
        refine v_aload_n X dX12_cheese_49 0 rfl rfl 50 rfl ?_
        refine v_get X (C := RX12) (T := TX12) (N := 22) (ci := 11) (v := _) dX12_cheese_50 k_X12_cheese_w12 0 rfl rfl 0 (by decide) k_X12_cheese_1 rfl rfl 53 rfl ?_
        refine v_iload_n X dX12_cheese_53 1 rfl rfl 54 rfl ?_
        obtain ⟨o7, ho7, hf⟩ := bnd hf
        refine v_callSi X (As := [.ref (ad 1), .int v1]) (rest := [.ref (ad 1)]) (ws' := (wX12 ad c9 o6.1 o6.2.1 o5.2 m_inputLength m_position m_start m_token m_value m_letters m_code m_place m_outputLength m_s m_parsed m_tried o6.2.2 m_slots m_kept m_away m_input m_halfway m_output)) (c_X12_find l hG D c9 (ad 1) m_s v1 ho7) 2 gX12_cheese_X12_find rfl rfl rfl pd_X12_find ⟨Nat.le_of_ble_eq_true rfl, Nat.le_of_ble_eq_true rfl⟩ rfl rfl (Nat.le_of_ble_eq_true rfl) ⟨Nat.zero_le _, Nat.zero_le _⟩ [1] [0, 2, 3, 4, 5, 6, 7, 8, 9, 10] [0, 10, 1, 2, 3, 4, 5, 6, 7, 8, 9] rfl rfl rfl rfl dX12_cheese_54 57 rfl ?_
        obtain ⟨o8, ho8, hf⟩ := bnd hf
        refine v_callSi X (As := [.ref (ad 1), .int o7]) (rest := []) (ws' := (wX12 ad c9 o6.1 o6.2.1 o5.2 m_inputLength m_position m_start m_token m_value m_letters m_code m_place m_outputLength o8.2 m_parsed m_tried o6.2.2 m_slots m_kept m_away m_input m_halfway m_output)) (c_X12_gives l hG D c9 (ad 1) m_s o7 ho8) 2 gX12_cheese_X12_gives rfl rfl rfl pd_X12_gives ⟨Nat.le_of_ble_eq_true rfl, Nat.le_of_ble_eq_true rfl⟩ rfl rfl (Nat.le_of_ble_eq_true rfl) ⟨Nat.zero_le _, Nat.zero_le _⟩ [1] [0, 2, 3, 4, 5, 6, 7, 8, 9, 10] [0, 10, 1, 2, 3, 4, 5, 6, 7, 8, 9] rfl rfl rfl rfl dX12_cheese_57 60 rfl ?_
        cases hf
        exact v_iret X (Nat.zero_le _) (Nat.zero_le _) dX12_cheese_60
      · refine v_iconst X dX12_cheese_39 ic_0 40 rfl ?_
        cases hf
        exact v_iret X (Nat.zero_le _) (Nat.zero_le _) dX12_cheese_40
    clear hf
    refine v_if_eq X (tgt := 31) dX12_cheese_24 rfl 27 rfl hj4 (fun hf => ?_) (fun hf => ?_)
    · refine v_iconst X dX12_cheese_31 ic_0 32 rfl ?_
      cases hf
      exact Jj4
    · refine v_iconst X dX12_cheese_27 ic_1 28 rfl ?_
      refine v_goto X (tgt := 32) dX12_cheese_28 rfl ?_
      cases hf
      exact Jj4
theorem pd_X12_cheese : yX12_cheese.cls ≠ "java/lang/invoke/MethodHandle" ∧ yX12_cheese.cls ≠ "java/lang/invoke/VarHandle" ∧ (parseMethodDescriptor yX12_cheese.desc).map (fun d => d.parameters.length) = some 1 := by decide +kernel
theorem k_X12_drop_w12 : ∀ w ∈ u_ws RX12 TX12 22, w ∈ wsX12_drop := in_r _ [31, 32, 33, 34, 35, 36, 37, 38, 39, 40, 41, 42, 43, 44, 45, 46, 47, 48, 49, 50, 51, 52] rfl
theorem k_X12_drop_1 : Cond.fieldLink RX12 7 "TicketGateModel" "s" "[I" ∈ wsX12_drop := List.mem_of_getElem? (i := 1) rfl
def f_X12_drop (m_undoable : Int32) (m_undoStart : Int32) (m_thrown : Int32) (m_s : Nat → Int32) (m_remembered : Nat → Int32) (v1 : Int32) : Option (Int32 × Int32 × Int32 × Int32 × (Nat → Int32) × (Nat → Int32)) :=
  (f_X12_noTicket m_thrown m_s v1).bind fun o1 =>
  if o1.1 = 0 then (
    (f_X12_remember m_undoable m_undoStart m_s m_remembered).bind fun o2 =>
    (f_X12_find m_s v1).bind fun o3 =>
    (f_X12_drops m_s o3).bind fun o4 =>
    some (o4.1, o2.1, o2.2.1, o1.2, o4.2, o2.2.2))
  else (
    some (0, m_undoable, m_undoStart, o1.2, m_s, m_remembered))
set_option maxRecDepth 100000 in
set_option maxHeartbeats 4000000 in
theorem c_X12_drop (l : Launch) {G : (Nat → Prop) → State → Heap → Prop} (hG : vG G) (D : va_G) (c9 : Nat → ClassId) (ad : Nat → Nat) (m_undoable : Int32) (m_undoStart : Int32) (m_thrown : Int32) (m_inputLength : Int32) (m_position : Int32) (m_start : Int32) (m_token : Int32) (m_value : Int32) (m_letters : Int32) (m_code : Int32) (m_place : Int32) (m_outputLength : Int32) (m_s : Nat → Int32) (m_parsed : Nat → Int32) (m_tried : Nat → Int32) (m_remembered : Nat → Int32) (m_slots : Nat → Int32) (m_kept : Nat → Int32) (m_away : Nat → Int32) (m_input : Nat → Int32) (m_halfway : Nat → Int32) (m_output : Nat → Int32) (v1 : Int32) {o : Int32 × Int32 × Int32 × Int32 × (Nat → Int32) × (Nat → Int32)} (hf : f_X12_drop m_undoable m_undoStart m_thrown m_s m_remembered v1 = some o) : mI l yX12_drop wsX12_drop { frames := 3, cells := 0, slots := 0, locals := 63 } G D (tyA c9) [.ref (ad 0), .int v1] (wX12 ad c9 m_undoable m_undoStart m_thrown m_inputLength m_position m_start m_token m_value m_letters m_code m_place m_outputLength m_s m_parsed m_tried m_remembered m_slots m_kept m_away m_input m_halfway m_output) [] 0 0 o.1 (wX12 ad c9 o.2.1 o.2.2.1 o.2.2.2.1 m_inputLength m_position m_start m_token m_value m_letters m_code m_place m_outputLength o.2.2.2.2.1 m_parsed m_tried o.2.2.2.2.2 m_slots m_kept m_away m_input m_halfway m_output) := by
  refine mI_of hG (cc := cX12_drop) (maxL := 2) (ty := .int) (by decide) rfl (Nat.le_of_ble_eq_true rfl) ?_
  intro p e s m args below meth c A X
  have X : vX p s m args meth c cX12_drop 2 (some .int) RX12 wsX12_drop D (tyA c9) G A := X
  refine v_eq (lv2 := [(0, .ref (ad 0)), (1, .int v1)]) rfl rfl rfl rfl ?_
  rw [f_X12_drop] at hf
  refine v_aload_n X dX12_drop_0 0 rfl rfl 1 rfl ?_
  refine v_iload_n X dX12_drop_1 1 rfl rfl 2 rfl ?_
  obtain ⟨o1, ho1, hf⟩ := bnd hf
  refine v_callVi X (ci := 11) (T := TX12) (C := RX12) (As := [.int v1]) (rest := []) (ws' := (wX12 ad c9 m_undoable m_undoStart o1.2 m_inputLength m_position m_start m_token m_value m_letters m_code m_place m_outputLength m_s m_parsed m_tried m_remembered m_slots m_kept m_away m_input m_halfway m_output)) (c_X12_noTicket l hG D c9 ad m_undoable m_undoStart m_thrown m_inputLength m_position m_start m_token m_value m_letters m_code m_place m_outputLength m_s m_parsed m_tried m_remembered m_slots m_kept m_away m_input m_halfway m_output v1 ho1) 1 gX12_drop_X12_noTicket rfl rfl rfl ⟨rfl, pd_X12_noTicket⟩ ⟨Nat.le_of_ble_eq_true rfl, Nat.le_of_ble_eq_true rfl⟩ 0 rfl rfl rfl rfl (Nat.le_of_ble_eq_true rfl) ⟨Nat.zero_le _, Nat.zero_le _⟩ [0, 1, 2, 3, 4, 5, 6, 7, 8, 9, 10] [] [0, 1, 2, 3, 4, 5, 6, 7, 8, 9, 10] rfl rfl rfl rfl dX12_drop_2 5 rfl ?_
  refine v_if_eq X (tgt := 10) dX12_drop_5 rfl 8 rfl hf (fun hf => ?_) (fun hf => ?_)
  · refine v_aload_n X dX12_drop_10 0 rfl rfl 11 rfl ?_
    obtain ⟨o2, ho2, hf⟩ := bnd hf
    refine v_callVv X (ci := 11) (T := TX12) (C := RX12) (As := []) (rest := []) (ws' := (wX12 ad c9 o2.1 o2.2.1 o1.2 m_inputLength m_position m_start m_token m_value m_letters m_code m_place m_outputLength m_s m_parsed m_tried o2.2.2 m_slots m_kept m_away m_input m_halfway m_output)) (c_X12_remember l hG D c9 ad m_undoable m_undoStart o1.2 m_inputLength m_position m_start m_token m_value m_letters m_code m_place m_outputLength m_s m_parsed m_tried m_remembered m_slots m_kept m_away m_input m_halfway m_output ho2) 0 gX12_drop_X12_remember rfl rfl rfl ⟨rfl, pd_X12_remember⟩ ⟨Nat.le_of_ble_eq_true rfl, Nat.le_of_ble_eq_true rfl⟩ 0 rfl rfl rfl rfl (Nat.le_of_ble_eq_true rfl) ⟨Nat.zero_le _, Nat.zero_le _⟩ [0, 1, 2, 3, 4, 5, 6, 7, 8, 9, 10] [] [0, 1, 2, 3, 4, 5, 6, 7, 8, 9, 10] rfl rfl rfl rfl dX12_drop_11 14 rfl ?_
    refine v_aload_n X dX12_drop_14 0 rfl rfl 15 rfl ?_
    refine v_get X (C := RX12) (T := TX12) (N := 22) (ci := 11) (v := _) dX12_drop_15 k_X12_drop_w12 0 rfl rfl 0 (by decide) k_X12_drop_1 rfl rfl 18 rfl ?_
    refine v_aload_n X dX12_drop_18 0 rfl rfl 19 rfl ?_
    refine v_get X (C := RX12) (T := TX12) (N := 22) (ci := 11) (v := _) dX12_drop_19 k_X12_drop_w12 0 rfl rfl 0 (by decide) k_X12_drop_1 rfl rfl 22 rfl ?_
    refine v_iload_n X dX12_drop_22 1 rfl rfl 23 rfl ?_
    obtain ⟨o3, ho3, hf⟩ := bnd hf
    refine v_callSi X (As := [.ref (ad 1), .int v1]) (rest := [.ref (ad 1)]) (ws' := (wX12 ad c9 o2.1 o2.2.1 o1.2 m_inputLength m_position m_start m_token m_value m_letters m_code m_place m_outputLength m_s m_parsed m_tried o2.2.2 m_slots m_kept m_away m_input m_halfway m_output)) (c_X12_find l hG D c9 (ad 1) m_s v1 ho3) 2 gX12_drop_X12_find rfl rfl rfl pd_X12_find ⟨Nat.le_of_ble_eq_true rfl, Nat.le_of_ble_eq_true rfl⟩ rfl rfl (Nat.le_of_ble_eq_true rfl) ⟨Nat.zero_le _, Nat.zero_le _⟩ [1] [0, 2, 3, 4, 5, 6, 7, 8, 9, 10] [0, 10, 1, 2, 3, 4, 5, 6, 7, 8, 9] rfl rfl rfl rfl dX12_drop_23 26 rfl ?_
    obtain ⟨o4, ho4, hf⟩ := bnd hf
    refine v_callSi X (As := [.ref (ad 1), .int o3]) (rest := []) (ws' := (wX12 ad c9 o2.1 o2.2.1 o1.2 m_inputLength m_position m_start m_token m_value m_letters m_code m_place m_outputLength o4.2 m_parsed m_tried o2.2.2 m_slots m_kept m_away m_input m_halfway m_output)) (c_X12_drops l hG D c9 (ad 1) m_s o3 ho4) 2 gX12_drop_X12_drops rfl rfl rfl pd_X12_drops ⟨Nat.le_of_ble_eq_true rfl, Nat.le_of_ble_eq_true rfl⟩ rfl rfl (Nat.le_of_ble_eq_true rfl) ⟨Nat.zero_le _, Nat.zero_le _⟩ [1] [0, 2, 3, 4, 5, 6, 7, 8, 9, 10] [0, 10, 1, 2, 3, 4, 5, 6, 7, 8, 9] rfl rfl rfl rfl dX12_drop_26 29 rfl ?_
    cases hf
    exact v_iret X (Nat.zero_le _) (Nat.zero_le _) dX12_drop_29
  · refine v_iconst X dX12_drop_8 ic_0 9 rfl ?_
    cases hf
    exact v_iret X (Nat.zero_le _) (Nat.zero_le _) dX12_drop_9
theorem pd_X12_drop : yX12_drop.cls ≠ "java/lang/invoke/MethodHandle" ∧ yX12_drop.cls ≠ "java/lang/invoke/VarHandle" ∧ (parseMethodDescriptor yX12_drop.desc).map (fun d => d.parameters.length) = some 1 := by decide +kernel
theorem k_X12_sweep_w12 : ∀ w ∈ u_ws RX12 TX12 22, w ∈ wsX12_sweep := in_r _ [26, 27, 28, 29, 30, 31, 32, 33, 34, 35, 36, 37, 38, 39, 40, 41, 42, 43, 44, 45, 46, 47] rfl
theorem k_X12_sweep_1 : Cond.fieldLink RX12 72 "TicketGateModel" "thrown" "I" ∈ wsX12_sweep := List.mem_of_getElem? (i := 1) rfl
theorem k_X12_sweep_2 : Cond.fieldLink RX12 7 "TicketGateModel" "s" "[I" ∈ wsX12_sweep := List.mem_of_getElem? (i := 2) rfl
def f_X12_sweep (m_undoable : Int32) (m_undoStart : Int32) (m_thrown : Int32) (m_s : Nat → Int32) (m_remembered : Nat → Int32) : Option (Int32 × Int32 × Int32 × Int32 × (Nat → Int32) × (Nat → Int32)) :=
  (f_X12_remember m_undoable m_undoStart m_s m_remembered).bind fun o1 =>
  (f_X12_sweeps m_s).bind fun o2 =>
  some (o2.1, o1.1, o1.2.1, 0, o2.2, o1.2.2)
set_option maxRecDepth 100000 in
set_option maxHeartbeats 4000000 in
theorem c_X12_sweep (l : Launch) {G : (Nat → Prop) → State → Heap → Prop} (hG : vG G) (D : va_G) (c9 : Nat → ClassId) (ad : Nat → Nat) (m_undoable : Int32) (m_undoStart : Int32) (m_thrown : Int32) (m_inputLength : Int32) (m_position : Int32) (m_start : Int32) (m_token : Int32) (m_value : Int32) (m_letters : Int32) (m_code : Int32) (m_place : Int32) (m_outputLength : Int32) (m_s : Nat → Int32) (m_parsed : Nat → Int32) (m_tried : Nat → Int32) (m_remembered : Nat → Int32) (m_slots : Nat → Int32) (m_kept : Nat → Int32) (m_away : Nat → Int32) (m_input : Nat → Int32) (m_halfway : Nat → Int32) (m_output : Nat → Int32)  {o : Int32 × Int32 × Int32 × Int32 × (Nat → Int32) × (Nat → Int32)} (hf : f_X12_sweep m_undoable m_undoStart m_thrown m_s m_remembered = some o) : mI l yX12_sweep wsX12_sweep { frames := 3, cells := 0, slots := 0, locals := 64 } G D (tyA c9) [.ref (ad 0)] (wX12 ad c9 m_undoable m_undoStart m_thrown m_inputLength m_position m_start m_token m_value m_letters m_code m_place m_outputLength m_s m_parsed m_tried m_remembered m_slots m_kept m_away m_input m_halfway m_output) [] 0 0 o.1 (wX12 ad c9 o.2.1 o.2.2.1 o.2.2.2.1 m_inputLength m_position m_start m_token m_value m_letters m_code m_place m_outputLength o.2.2.2.2.1 m_parsed m_tried o.2.2.2.2.2 m_slots m_kept m_away m_input m_halfway m_output) := by
  refine mI_of hG (cc := cX12_sweep) (maxL := 1) (ty := .int) (by decide) rfl (Nat.le_of_ble_eq_true rfl) ?_
  intro p e s m args below meth c A X
  have X : vX p s m args meth c cX12_sweep 1 (some .int) RX12 wsX12_sweep D (tyA c9) G A := X
  refine v_eq (lv2 := [(0, .ref (ad 0))]) rfl rfl rfl rfl ?_
  rw [f_X12_sweep] at hf
  refine v_aload_n X dX12_sweep_0 0 rfl rfl 1 rfl ?_
  refine v_iconst X dX12_sweep_1 ic_0 2 rfl ?_
  refine v_put X (C := RX12) (T := TX12) (N := 22) (ci := 11) (ty := tyX12 8) (ws' := (wX12 ad c9 m_undoable m_undoStart 0 m_inputLength m_position m_start m_token m_value m_letters m_code m_place m_outputLength m_s m_parsed m_tried m_remembered m_slots m_kept m_away m_input m_halfway m_output)) dX12_sweep_2 k_X12_sweep_w12 0 rfl rfl 8 (by decide) tyX12 tyX12_ok nmX12 k_X12_sweep_1 rfl rfl (tyX12_ok 8 (by decide)) rfl rfl (by decide) rfl 5 rfl ?_
  refine v_aload_n X dX12_sweep_5 0 rfl rfl 6 rfl ?_
  obtain ⟨o1, ho1, hf⟩ := bnd hf
  refine v_callVv X (ci := 11) (T := TX12) (C := RX12) (As := []) (rest := []) (ws' := (wX12 ad c9 o1.1 o1.2.1 0 m_inputLength m_position m_start m_token m_value m_letters m_code m_place m_outputLength m_s m_parsed m_tried o1.2.2 m_slots m_kept m_away m_input m_halfway m_output)) (c_X12_remember l hG D c9 ad m_undoable m_undoStart 0 m_inputLength m_position m_start m_token m_value m_letters m_code m_place m_outputLength m_s m_parsed m_tried m_remembered m_slots m_kept m_away m_input m_halfway m_output ho1) 0 gX12_sweep_X12_remember rfl rfl rfl ⟨rfl, pd_X12_remember⟩ ⟨Nat.le_of_ble_eq_true rfl, Nat.le_of_ble_eq_true rfl⟩ 0 rfl rfl rfl rfl (Nat.le_of_ble_eq_true rfl) ⟨Nat.zero_le _, Nat.zero_le _⟩ [0, 1, 2, 3, 4, 5, 6, 7, 8, 9, 10] [] [0, 1, 2, 3, 4, 5, 6, 7, 8, 9, 10] rfl rfl rfl rfl dX12_sweep_6 9 rfl ?_
  refine v_aload_n X dX12_sweep_9 0 rfl rfl 10 rfl ?_
  refine v_get X (C := RX12) (T := TX12) (N := 22) (ci := 11) (v := _) dX12_sweep_10 k_X12_sweep_w12 0 rfl rfl 0 (by decide) k_X12_sweep_2 rfl rfl 13 rfl ?_
  obtain ⟨o2, ho2, hf⟩ := bnd hf
  refine v_callSi X (As := [.ref (ad 1)]) (rest := []) (ws' := (wX12 ad c9 o1.1 o1.2.1 0 m_inputLength m_position m_start m_token m_value m_letters m_code m_place m_outputLength o2.2 m_parsed m_tried o1.2.2 m_slots m_kept m_away m_input m_halfway m_output)) (c_X12_sweeps l hG D c9 (ad 1) m_s ho2) 1 gX12_sweep_X12_sweeps rfl rfl rfl pd_X12_sweeps ⟨Nat.le_of_ble_eq_true rfl, Nat.le_of_ble_eq_true rfl⟩ rfl rfl (Nat.le_of_ble_eq_true rfl) ⟨Nat.zero_le _, Nat.zero_le _⟩ [1] [0, 2, 3, 4, 5, 6, 7, 8, 9, 10] [0, 10, 1, 2, 3, 4, 5, 6, 7, 8, 9] rfl rfl rfl rfl dX12_sweep_13 16 rfl ?_
  cases hf
  exact v_iret X (Nat.zero_le _) (Nat.zero_le _) dX12_sweep_16
theorem pd_X12_sweep : yX12_sweep.cls ≠ "java/lang/invoke/MethodHandle" ∧ yX12_sweep.cls ≠ "java/lang/invoke/VarHandle" ∧ (parseMethodDescriptor yX12_sweep.desc).map (fun d => d.parameters.length) = some 0 := by decide +kernel
theorem k_X12_setOf_w12 : ∀ w ∈ u_ws RX12 TX12 22, w ∈ wsX12_setOf := in_r _ [16, 17, 18, 19, 20, 21, 22, 23, 24, 25, 26, 27, 28, 29, 30, 31, 32, 33, 34, 35, 36, 37] rfl
theorem k_X12_setOf_1 : Cond.fieldLink RX12 7 "TicketGateModel" "s" "[I" ∈ wsX12_setOf := List.mem_of_getElem? (i := 1) rfl
def f_X12_setOf (m_undoable : Int32) (m_undoStart : Int32) (m_s : Nat → Int32) (m_remembered : Nat → Int32) (v1 : Int32) (v2 : Int32) (v3 : Int32) : Option (Int32 × Int32 × Int32 × (Nat → Int32) × (Nat → Int32)) :=
  (f_X12_remember m_undoable m_undoStart m_s m_remembered).bind fun o1 =>
  (f_X12_ofUser v1).bind fun o2 =>
  (rd m_s 463 (o2 + v2)).bind fun x3 =>
  (f_X12_ofUser v1).bind fun o4 =>
  (wr m_s 463 (o4 + v2) v3).bind fun g5 =>
  some (x3, o1.1, o1.2.1, g5, o1.2.2)
set_option maxRecDepth 100000 in
set_option maxHeartbeats 4000000 in
theorem c_X12_setOf (l : Launch) {G : (Nat → Prop) → State → Heap → Prop} (hG : vG G) (D : va_G) (c9 : Nat → ClassId) (ad : Nat → Nat) (m_undoable : Int32) (m_undoStart : Int32) (m_thrown : Int32) (m_inputLength : Int32) (m_position : Int32) (m_start : Int32) (m_token : Int32) (m_value : Int32) (m_letters : Int32) (m_code : Int32) (m_place : Int32) (m_outputLength : Int32) (m_s : Nat → Int32) (m_parsed : Nat → Int32) (m_tried : Nat → Int32) (m_remembered : Nat → Int32) (m_slots : Nat → Int32) (m_kept : Nat → Int32) (m_away : Nat → Int32) (m_input : Nat → Int32) (m_halfway : Nat → Int32) (m_output : Nat → Int32) (v1 : Int32) (v2 : Int32) (v3 : Int32) {o : Int32 × Int32 × Int32 × (Nat → Int32) × (Nat → Int32)} (hf : f_X12_setOf m_undoable m_undoStart m_s m_remembered v1 v2 v3 = some o) : mI l yX12_setOf wsX12_setOf { frames := 2, cells := 0, slots := 0, locals := 44 } G D (tyA c9) [.ref (ad 0), .int v1, .int v2, .int v3] (wX12 ad c9 m_undoable m_undoStart m_thrown m_inputLength m_position m_start m_token m_value m_letters m_code m_place m_outputLength m_s m_parsed m_tried m_remembered m_slots m_kept m_away m_input m_halfway m_output) [] 0 0 o.1 (wX12 ad c9 o.2.1 o.2.2.1 m_thrown m_inputLength m_position m_start m_token m_value m_letters m_code m_place m_outputLength o.2.2.2.1 m_parsed m_tried o.2.2.2.2 m_slots m_kept m_away m_input m_halfway m_output) := by
  refine mI_of hG (cc := cX12_setOf) (maxL := 5) (ty := .int) (by decide) rfl (Nat.le_of_ble_eq_true rfl) ?_
  intro p e s m args below meth c A X
  have X : vX p s m args meth c cX12_setOf 5 (some .int) RX12 wsX12_setOf D (tyA c9) G A := X
  refine v_eq (lv2 := [(0, .ref (ad 0)), (1, .int v1), (2, .int v2), (3, .int v3)]) rfl rfl rfl rfl ?_
  rw [f_X12_setOf] at hf
  refine v_aload_n X dX12_setOf_0 0 rfl rfl 1 rfl ?_
  obtain ⟨o1, ho1, hf⟩ := bnd hf
  refine v_callVv X (ci := 11) (T := TX12) (C := RX12) (As := []) (rest := []) (ws' := (wX12 ad c9 o1.1 o1.2.1 m_thrown m_inputLength m_position m_start m_token m_value m_letters m_code m_place m_outputLength m_s m_parsed m_tried o1.2.2 m_slots m_kept m_away m_input m_halfway m_output)) (c_X12_remember l hG D c9 ad m_undoable m_undoStart m_thrown m_inputLength m_position m_start m_token m_value m_letters m_code m_place m_outputLength m_s m_parsed m_tried m_remembered m_slots m_kept m_away m_input m_halfway m_output ho1) 0 gX12_setOf_X12_remember rfl rfl rfl ⟨rfl, pd_X12_remember⟩ ⟨Nat.le_of_ble_eq_true rfl, Nat.le_of_ble_eq_true rfl⟩ 0 rfl rfl rfl rfl (Nat.le_of_ble_eq_true rfl) ⟨Nat.zero_le _, Nat.zero_le _⟩ [0, 1, 2, 3, 4, 5, 6, 7, 8, 9, 10] [] [0, 1, 2, 3, 4, 5, 6, 7, 8, 9, 10] rfl rfl rfl rfl dX12_setOf_1 4 rfl ?_
  refine v_aload_n X dX12_setOf_4 0 rfl rfl 5 rfl ?_
  refine v_get X (C := RX12) (T := TX12) (N := 22) (ci := 11) (v := _) dX12_setOf_5 k_X12_setOf_w12 0 rfl rfl 0 (by decide) k_X12_setOf_1 rfl rfl 8 rfl ?_
  refine v_iload_n X dX12_setOf_8 1 rfl rfl 9 rfl ?_
  obtain ⟨o2, ho2, hf⟩ := bnd hf
  refine v_callSi X (As := [.int v1]) (rest := [.ref (ad 1)]) (ws' := (wX12 ad c9 o1.1 o1.2.1 m_thrown m_inputLength m_position m_start m_token m_value m_letters m_code m_place m_outputLength m_s m_parsed m_tried o1.2.2 m_slots m_kept m_away m_input m_halfway m_output)) (c_X12_ofUser l hG D c9 v1 ho2) 1 gX12_setOf_X12_ofUser rfl rfl rfl pd_X12_ofUser ⟨Nat.le_of_ble_eq_true rfl, Nat.le_of_ble_eq_true rfl⟩ rfl rfl (Nat.le_of_ble_eq_true rfl) ⟨Nat.zero_le _, Nat.zero_le _⟩ [] [0, 1, 2, 3, 4, 5, 6, 7, 8, 9, 10] [0, 1, 2, 3, 4, 5, 6, 7, 8, 9, 10] rfl rfl rfl rfl dX12_setOf_9 12 rfl ?_
  refine v_iload_n X dX12_setOf_12 2 rfl rfl 13 rfl ?_
  refine v_iadd X dX12_setOf_13 14 rfl ?_
  obtain ⟨x3, hx3, hf⟩ := bnd hf
  refine v_iald X dX12_setOf_14 1 0 rfl rfl hx3 15 rfl ?_
  refine v_istore X (lv' := [(4, .int x3), (0, .ref (ad 0)), (1, .int v1), (2, .int v2), (3, .int v3)]) dX12_setOf_15 (by decide) rfl 17 rfl ?_
  refine v_aload_n X dX12_setOf_17 1 rfl rfl 18 rfl ?_
  refine v_get X (C := RX12) (T := TX12) (N := 22) (ci := 11) (v := _) dX12_setOf_18 k_X12_setOf_w12 0 rfl rfl 0 (by decide) k_X12_setOf_1 rfl rfl 21 rfl ?_
  refine v_iload_n X dX12_setOf_21 2 rfl rfl 22 rfl ?_
  obtain ⟨o4, ho4, hf⟩ := bnd hf
  refine v_callSi X (As := [.int v1]) (rest := [.ref (ad 1)]) (ws' := (wX12 ad c9 o1.1 o1.2.1 m_thrown m_inputLength m_position m_start m_token m_value m_letters m_code m_place m_outputLength m_s m_parsed m_tried o1.2.2 m_slots m_kept m_away m_input m_halfway m_output)) (c_X12_ofUser l hG D c9 v1 ho4) 1 gX12_setOf_X12_ofUser rfl rfl rfl pd_X12_ofUser ⟨Nat.le_of_ble_eq_true rfl, Nat.le_of_ble_eq_true rfl⟩ rfl rfl (Nat.le_of_ble_eq_true rfl) ⟨Nat.zero_le _, Nat.zero_le _⟩ [] [0, 1, 2, 3, 4, 5, 6, 7, 8, 9, 10] [0, 1, 2, 3, 4, 5, 6, 7, 8, 9, 10] rfl rfl rfl rfl dX12_setOf_22 25 rfl ?_
  refine v_iload_n X dX12_setOf_25 3 rfl rfl 26 rfl ?_
  refine v_iadd X dX12_setOf_26 27 rfl ?_
  refine v_iload_n X dX12_setOf_27 4 rfl rfl 28 rfl ?_
  obtain ⟨g5, hg5, hf⟩ := bnd hf
  refine v_iast X (ws' := (wX12 ad c9 o1.1 o1.2.1 m_thrown m_inputLength m_position m_start m_token m_value m_letters m_code m_place m_outputLength g5 m_parsed m_tried o1.2.2 m_slots m_kept m_away m_input m_halfway m_output)) dX12_setOf_28 1 0 rfl rfl hg5 rfl 29 rfl ?_
  refine v_iload X dX12_setOf_29 0 rfl 31 rfl ?_
  cases hf
  exact v_iret X (Nat.zero_le _) (Nat.zero_le _) dX12_setOf_31
theorem pd_X12_setOf : yX12_setOf.cls ≠ "java/lang/invoke/MethodHandle" ∧ yX12_setOf.cls ≠ "java/lang/invoke/VarHandle" ∧ (parseMethodDescriptor yX12_setOf.desc).map (fun d => d.parameters.length) = some 3 := by decide +kernel
def f_X12_setPassword (m_undoable : Int32) (m_undoStart : Int32) (m_thrown : Int32) (m_s : Nat → Int32) (m_remembered : Nat → Int32) (v1 : Int32) (v2 : Int32) : Option (Int32 × Int32 × Int32 × Int32 × (Nat → Int32) × (Nat → Int32)) :=
  (f_X12_noUser m_thrown m_s v1).bind fun o1 =>
  if o1.1 = 0 then (
    (f_X12_out o1.2 v2 0 9999).bind fun o2 =>
    if o2.1 = 0 then (
      (f_X12_setOf m_undoable m_undoStart m_s m_remembered v1 2 v2).bind fun o3 =>
      some (o3.1, o3.2.1, o3.2.2.1, o2.2, o3.2.2.2.1, o3.2.2.2.2))
    else (
      some (0, m_undoable, m_undoStart, o2.2, m_s, m_remembered)))
  else (
    some (0, m_undoable, m_undoStart, o1.2, m_s, m_remembered))
set_option maxRecDepth 100000 in
set_option maxHeartbeats 4000000 in
theorem c_X12_setPassword (l : Launch) {G : (Nat → Prop) → State → Heap → Prop} (hG : vG G) (D : va_G) (c9 : Nat → ClassId) (ad : Nat → Nat) (m_undoable : Int32) (m_undoStart : Int32) (m_thrown : Int32) (m_inputLength : Int32) (m_position : Int32) (m_start : Int32) (m_token : Int32) (m_value : Int32) (m_letters : Int32) (m_code : Int32) (m_place : Int32) (m_outputLength : Int32) (m_s : Nat → Int32) (m_parsed : Nat → Int32) (m_tried : Nat → Int32) (m_remembered : Nat → Int32) (m_slots : Nat → Int32) (m_kept : Nat → Int32) (m_away : Nat → Int32) (m_input : Nat → Int32) (m_halfway : Nat → Int32) (m_output : Nat → Int32) (v1 : Int32) (v2 : Int32) {o : Int32 × Int32 × Int32 × Int32 × (Nat → Int32) × (Nat → Int32)} (hf : f_X12_setPassword m_undoable m_undoStart m_thrown m_s m_remembered v1 v2 = some o) : mI l yX12_setPassword wsX12_setPassword { frames := 3, cells := 0, slots := 0, locals := 68 } G D (tyA c9) [.ref (ad 0), .int v1, .int v2] (wX12 ad c9 m_undoable m_undoStart m_thrown m_inputLength m_position m_start m_token m_value m_letters m_code m_place m_outputLength m_s m_parsed m_tried m_remembered m_slots m_kept m_away m_input m_halfway m_output) [] 0 0 o.1 (wX12 ad c9 o.2.1 o.2.2.1 o.2.2.2.1 m_inputLength m_position m_start m_token m_value m_letters m_code m_place m_outputLength o.2.2.2.2.1 m_parsed m_tried o.2.2.2.2.2 m_slots m_kept m_away m_input m_halfway m_output) := by
  refine mI_of hG (cc := cX12_setPassword) (maxL := 3) (ty := .int) (by decide) rfl (Nat.le_of_ble_eq_true rfl) ?_
  intro p e s m args below meth c A X
  have X : vX p s m args meth c cX12_setPassword 3 (some .int) RX12 wsX12_setPassword D (tyA c9) G A := X
  refine v_eq (lv2 := [(0, .ref (ad 0)), (1, .int v1), (2, .int v2)]) rfl rfl rfl rfl ?_
  rw [f_X12_setPassword] at hf
  refine v_aload_n X dX12_setPassword_0 0 rfl rfl 1 rfl ?_
  refine v_iload_n X dX12_setPassword_1 1 rfl rfl 2 rfl ?_
  obtain ⟨o1, ho1, hf⟩ := bnd hf
  refine v_callVi X (ci := 11) (T := TX12) (C := RX12) (As := [.int v1]) (rest := []) (ws' := (wX12 ad c9 m_undoable m_undoStart o1.2 m_inputLength m_position m_start m_token m_value m_letters m_code m_place m_outputLength m_s m_parsed m_tried m_remembered m_slots m_kept m_away m_input m_halfway m_output)) (c_X12_noUser l hG D c9 ad m_undoable m_undoStart m_thrown m_inputLength m_position m_start m_token m_value m_letters m_code m_place m_outputLength m_s m_parsed m_tried m_remembered m_slots m_kept m_away m_input m_halfway m_output v1 ho1) 1 gX12_setPassword_X12_noUser rfl rfl rfl ⟨rfl, pd_X12_noUser⟩ ⟨Nat.le_of_ble_eq_true rfl, Nat.le_of_ble_eq_true rfl⟩ 0 rfl rfl rfl rfl (Nat.le_of_ble_eq_true rfl) ⟨Nat.zero_le _, Nat.zero_le _⟩ [0, 1, 2, 3, 4, 5, 6, 7, 8, 9, 10] [] [0, 1, 2, 3, 4, 5, 6, 7, 8, 9, 10] rfl rfl rfl rfl dX12_setPassword_2 5 rfl ?_
  refine v_if_ne X (tgt := 20) dX12_setPassword_5 rfl 8 rfl hf (fun hf => ?_) (fun hf => ?_)
  · refine v_iconst X dX12_setPassword_20 ic_0 21 rfl ?_
    cases hf
    exact v_iret X (Nat.zero_le _) (Nat.zero_le _) dX12_setPassword_21
  · refine v_aload_n X dX12_setPassword_8 0 rfl rfl 9 rfl ?_
    refine v_iload_n X dX12_setPassword_9 2 rfl rfl 10 rfl ?_
    refine v_iconst X dX12_setPassword_10 ic_0 11 rfl ?_
    refine v_sipush X dX12_setPassword_11 sp_9999 14 rfl ?_
    obtain ⟨o2, ho2, hf⟩ := bnd hf
    refine v_callVi X (ci := 11) (T := TX12) (C := RX12) (As := [.int v2, .int 0, .int 9999]) (rest := []) (ws' := (wX12 ad c9 m_undoable m_undoStart o2.2 m_inputLength m_position m_start m_token m_value m_letters m_code m_place m_outputLength m_s m_parsed m_tried m_remembered m_slots m_kept m_away m_input m_halfway m_output)) (c_X12_out l hG D c9 ad m_undoable m_undoStart o1.2 m_inputLength m_position m_start m_token m_value m_letters m_code m_place m_outputLength m_s m_parsed m_tried m_remembered m_slots m_kept m_away m_input m_halfway m_output v2 0 9999 ho2) 3 gX12_setPassword_X12_out rfl rfl rfl ⟨rfl, pd_X12_out⟩ ⟨Nat.le_of_ble_eq_true rfl, Nat.le_of_ble_eq_true rfl⟩ 0 rfl rfl rfl rfl (Nat.le_of_ble_eq_true rfl) ⟨Nat.zero_le _, Nat.zero_le _⟩ [0, 1, 2, 3, 4, 5, 6, 7, 8, 9, 10] [] [0, 1, 2, 3, 4, 5, 6, 7, 8, 9, 10] rfl rfl rfl rfl dX12_setPassword_14 17 rfl ?_
    refine v_if_eq X (tgt := 22) dX12_setPassword_17 rfl 20 rfl hf (fun hf => ?_) (fun hf => ?_)
    · refine v_aload_n X dX12_setPassword_22 0 rfl rfl 23 rfl ?_
      refine v_iload_n X dX12_setPassword_23 1 rfl rfl 24 rfl ?_
      refine v_iconst X dX12_setPassword_24 ic_2 25 rfl ?_
      refine v_iload_n X dX12_setPassword_25 2 rfl rfl 26 rfl ?_
      obtain ⟨o3, ho3, hf⟩ := bnd hf
      refine v_callVi X (ci := 11) (T := TX12) (C := RX12) (As := [.int v1, .int 2, .int v2]) (rest := []) (ws' := (wX12 ad c9 o3.2.1 o3.2.2.1 o2.2 m_inputLength m_position m_start m_token m_value m_letters m_code m_place m_outputLength o3.2.2.2.1 m_parsed m_tried o3.2.2.2.2 m_slots m_kept m_away m_input m_halfway m_output)) (c_X12_setOf l hG D c9 ad m_undoable m_undoStart o2.2 m_inputLength m_position m_start m_token m_value m_letters m_code m_place m_outputLength m_s m_parsed m_tried m_remembered m_slots m_kept m_away m_input m_halfway m_output v1 2 v2 ho3) 3 gX12_setPassword_X12_setOf rfl rfl rfl ⟨rfl, pd_X12_setOf⟩ ⟨Nat.le_of_ble_eq_true rfl, Nat.le_of_ble_eq_true rfl⟩ 0 rfl rfl rfl rfl (Nat.le_of_ble_eq_true rfl) ⟨Nat.zero_le _, Nat.zero_le _⟩ [0, 1, 2, 3, 4, 5, 6, 7, 8, 9, 10] [] [0, 1, 2, 3, 4, 5, 6, 7, 8, 9, 10] rfl rfl rfl rfl dX12_setPassword_26 29 rfl ?_
      cases hf
      exact v_iret X (Nat.zero_le _) (Nat.zero_le _) dX12_setPassword_29
    · refine v_iconst X dX12_setPassword_20 ic_0 21 rfl ?_
      cases hf
      exact v_iret X (Nat.zero_le _) (Nat.zero_le _) dX12_setPassword_21
theorem pd_X12_setPassword : yX12_setPassword.cls ≠ "java/lang/invoke/MethodHandle" ∧ yX12_setPassword.cls ≠ "java/lang/invoke/VarHandle" ∧ (parseMethodDescriptor yX12_setPassword.desc).map (fun d => d.parameters.length) = some 2 := by decide +kernel
def f_X12_setClock (m_undoable : Int32) (m_undoStart : Int32) (m_thrown : Int32) (m_s : Nat → Int32) (m_remembered : Nat → Int32) (v1 : Int32) (v2 : Int32) : Option (Int32 × Int32 × Int32 × Int32 × (Nat → Int32) × (Nat → Int32)) :=
  (f_X12_noUser m_thrown m_s v1).bind fun o1 =>
  if o1.1 = 0 then (
    (f_X12_out o1.2 v2 (-9) 9).bind fun o2 =>
    if o2.1 = 0 then (
      (f_X12_setOf m_undoable m_undoStart m_s m_remembered v1 3 v2).bind fun o3 =>
      some (o3.1, o3.2.1, o3.2.2.1, o2.2, o3.2.2.2.1, o3.2.2.2.2))
    else (
      some (0, m_undoable, m_undoStart, o2.2, m_s, m_remembered)))
  else (
    some (0, m_undoable, m_undoStart, o1.2, m_s, m_remembered))
set_option maxRecDepth 100000 in
set_option maxHeartbeats 4000000 in
theorem c_X12_setClock (l : Launch) {G : (Nat → Prop) → State → Heap → Prop} (hG : vG G) (D : va_G) (c9 : Nat → ClassId) (ad : Nat → Nat) (m_undoable : Int32) (m_undoStart : Int32) (m_thrown : Int32) (m_inputLength : Int32) (m_position : Int32) (m_start : Int32) (m_token : Int32) (m_value : Int32) (m_letters : Int32) (m_code : Int32) (m_place : Int32) (m_outputLength : Int32) (m_s : Nat → Int32) (m_parsed : Nat → Int32) (m_tried : Nat → Int32) (m_remembered : Nat → Int32) (m_slots : Nat → Int32) (m_kept : Nat → Int32) (m_away : Nat → Int32) (m_input : Nat → Int32) (m_halfway : Nat → Int32) (m_output : Nat → Int32) (v1 : Int32) (v2 : Int32) {o : Int32 × Int32 × Int32 × Int32 × (Nat → Int32) × (Nat → Int32)} (hf : f_X12_setClock m_undoable m_undoStart m_thrown m_s m_remembered v1 v2 = some o) : mI l yX12_setClock wsX12_setClock { frames := 3, cells := 0, slots := 0, locals := 68 } G D (tyA c9) [.ref (ad 0), .int v1, .int v2] (wX12 ad c9 m_undoable m_undoStart m_thrown m_inputLength m_position m_start m_token m_value m_letters m_code m_place m_outputLength m_s m_parsed m_tried m_remembered m_slots m_kept m_away m_input m_halfway m_output) [] 0 0 o.1 (wX12 ad c9 o.2.1 o.2.2.1 o.2.2.2.1 m_inputLength m_position m_start m_token m_value m_letters m_code m_place m_outputLength o.2.2.2.2.1 m_parsed m_tried o.2.2.2.2.2 m_slots m_kept m_away m_input m_halfway m_output) := by
  refine mI_of hG (cc := cX12_setClock) (maxL := 3) (ty := .int) (by decide) rfl (Nat.le_of_ble_eq_true rfl) ?_
  intro p e s m args below meth c A X
  have X : vX p s m args meth c cX12_setClock 3 (some .int) RX12 wsX12_setClock D (tyA c9) G A := X
  refine v_eq (lv2 := [(0, .ref (ad 0)), (1, .int v1), (2, .int v2)]) rfl rfl rfl rfl ?_
  rw [f_X12_setClock] at hf
  refine v_aload_n X dX12_setClock_0 0 rfl rfl 1 rfl ?_
  refine v_iload_n X dX12_setClock_1 1 rfl rfl 2 rfl ?_
  obtain ⟨o1, ho1, hf⟩ := bnd hf
  refine v_callVi X (ci := 11) (T := TX12) (C := RX12) (As := [.int v1]) (rest := []) (ws' := (wX12 ad c9 m_undoable m_undoStart o1.2 m_inputLength m_position m_start m_token m_value m_letters m_code m_place m_outputLength m_s m_parsed m_tried m_remembered m_slots m_kept m_away m_input m_halfway m_output)) (c_X12_noUser l hG D c9 ad m_undoable m_undoStart m_thrown m_inputLength m_position m_start m_token m_value m_letters m_code m_place m_outputLength m_s m_parsed m_tried m_remembered m_slots m_kept m_away m_input m_halfway m_output v1 ho1) 1 gX12_setClock_X12_noUser rfl rfl rfl ⟨rfl, pd_X12_noUser⟩ ⟨Nat.le_of_ble_eq_true rfl, Nat.le_of_ble_eq_true rfl⟩ 0 rfl rfl rfl rfl (Nat.le_of_ble_eq_true rfl) ⟨Nat.zero_le _, Nat.zero_le _⟩ [0, 1, 2, 3, 4, 5, 6, 7, 8, 9, 10] [] [0, 1, 2, 3, 4, 5, 6, 7, 8, 9, 10] rfl rfl rfl rfl dX12_setClock_2 5 rfl ?_
  refine v_if_ne X (tgt := 20) dX12_setClock_5 rfl 8 rfl hf (fun hf => ?_) (fun hf => ?_)
  · refine v_iconst X dX12_setClock_20 ic_0 21 rfl ?_
    cases hf
    exact v_iret X (Nat.zero_le _) (Nat.zero_le _) dX12_setClock_21
  · refine v_aload_n X dX12_setClock_8 0 rfl rfl 9 rfl ?_
    refine v_iload_n X dX12_setClock_9 2 rfl rfl 10 rfl ?_
    refine v_bipush X dX12_setClock_10 bp_m9 12 rfl ?_
    refine v_bipush X dX12_setClock_12 bp_9 14 rfl ?_
    obtain ⟨o2, ho2, hf⟩ := bnd hf
    refine v_callVi X (ci := 11) (T := TX12) (C := RX12) (As := [.int v2, .int (-9), .int 9]) (rest := []) (ws' := (wX12 ad c9 m_undoable m_undoStart o2.2 m_inputLength m_position m_start m_token m_value m_letters m_code m_place m_outputLength m_s m_parsed m_tried m_remembered m_slots m_kept m_away m_input m_halfway m_output)) (c_X12_out l hG D c9 ad m_undoable m_undoStart o1.2 m_inputLength m_position m_start m_token m_value m_letters m_code m_place m_outputLength m_s m_parsed m_tried m_remembered m_slots m_kept m_away m_input m_halfway m_output v2 (-9) 9 ho2) 3 gX12_setClock_X12_out rfl rfl rfl ⟨rfl, pd_X12_out⟩ ⟨Nat.le_of_ble_eq_true rfl, Nat.le_of_ble_eq_true rfl⟩ 0 rfl rfl rfl rfl (Nat.le_of_ble_eq_true rfl) ⟨Nat.zero_le _, Nat.zero_le _⟩ [0, 1, 2, 3, 4, 5, 6, 7, 8, 9, 10] [] [0, 1, 2, 3, 4, 5, 6, 7, 8, 9, 10] rfl rfl rfl rfl dX12_setClock_14 17 rfl ?_
    refine v_if_eq X (tgt := 22) dX12_setClock_17 rfl 20 rfl hf (fun hf => ?_) (fun hf => ?_)
    · refine v_aload_n X dX12_setClock_22 0 rfl rfl 23 rfl ?_
      refine v_iload_n X dX12_setClock_23 1 rfl rfl 24 rfl ?_
      refine v_iconst X dX12_setClock_24 ic_3 25 rfl ?_
      refine v_iload_n X dX12_setClock_25 2 rfl rfl 26 rfl ?_
      obtain ⟨o3, ho3, hf⟩ := bnd hf
      refine v_callVi X (ci := 11) (T := TX12) (C := RX12) (As := [.int v1, .int 3, .int v2]) (rest := []) (ws' := (wX12 ad c9 o3.2.1 o3.2.2.1 o2.2 m_inputLength m_position m_start m_token m_value m_letters m_code m_place m_outputLength o3.2.2.2.1 m_parsed m_tried o3.2.2.2.2 m_slots m_kept m_away m_input m_halfway m_output)) (c_X12_setOf l hG D c9 ad m_undoable m_undoStart o2.2 m_inputLength m_position m_start m_token m_value m_letters m_code m_place m_outputLength m_s m_parsed m_tried m_remembered m_slots m_kept m_away m_input m_halfway m_output v1 3 v2 ho3) 3 gX12_setClock_X12_setOf rfl rfl rfl ⟨rfl, pd_X12_setOf⟩ ⟨Nat.le_of_ble_eq_true rfl, Nat.le_of_ble_eq_true rfl⟩ 0 rfl rfl rfl rfl (Nat.le_of_ble_eq_true rfl) ⟨Nat.zero_le _, Nat.zero_le _⟩ [0, 1, 2, 3, 4, 5, 6, 7, 8, 9, 10] [] [0, 1, 2, 3, 4, 5, 6, 7, 8, 9, 10] rfl rfl rfl rfl dX12_setClock_26 29 rfl ?_
      cases hf
      exact v_iret X (Nat.zero_le _) (Nat.zero_le _) dX12_setClock_29
    · refine v_iconst X dX12_setClock_20 ic_0 21 rfl ?_
      cases hf
      exact v_iret X (Nat.zero_le _) (Nat.zero_le _) dX12_setClock_21
theorem pd_X12_setClock : yX12_setClock.cls ≠ "java/lang/invoke/MethodHandle" ∧ yX12_setClock.cls ≠ "java/lang/invoke/VarHandle" ∧ (parseMethodDescriptor yX12_setClock.desc).map (fun d => d.parameters.length) = some 2 := by decide +kernel
theorem k_X12_pass_w12 : ∀ w ∈ u_ws RX12 TX12 22, w ∈ wsX12_pass := in_r _ [43, 44, 45, 46, 47, 48, 49, 50, 51, 52, 53, 54, 55, 56, 57, 58, 59, 60, 61, 62, 63, 64] rfl
theorem k_X12_pass_1 : Cond.fieldLink RX12 7 "TicketGateModel" "s" "[I" ∈ wsX12_pass := List.mem_of_getElem? (i := 1) rfl
def f_X12_pass (m_undoable : Int32) (m_undoStart : Int32) (m_thrown : Int32) (m_s : Nat → Int32) (m_remembered : Nat → Int32) (v1 : Int32) : Option (Int32 × Int32 × Int32 × Int32 × (Nat → Int32) × (Nat → Int32)) :=
  (f_X12_noNumber m_thrown v1 1 999).bind fun o1 =>
  if o1.1 = 0 then (
    (f_X12_remember m_undoable m_undoStart m_s m_remembered).bind fun o2 =>
    (f_X12_passes m_s v1).bind fun o3 =>
    some (o3.1, o2.1, o2.2.1, o1.2, o3.2, o2.2.2))
  else (
    some (0, m_undoable, m_undoStart, o1.2, m_s, m_remembered))
set_option maxRecDepth 100000 in
set_option maxHeartbeats 4000000 in
theorem c_X12_pass (l : Launch) {G : (Nat → Prop) → State → Heap → Prop} (hG : vG G) (D : va_G) (c9 : Nat → ClassId) (ad : Nat → Nat) (m_undoable : Int32) (m_undoStart : Int32) (m_thrown : Int32) (m_inputLength : Int32) (m_position : Int32) (m_start : Int32) (m_token : Int32) (m_value : Int32) (m_letters : Int32) (m_code : Int32) (m_place : Int32) (m_outputLength : Int32) (m_s : Nat → Int32) (m_parsed : Nat → Int32) (m_tried : Nat → Int32) (m_remembered : Nat → Int32) (m_slots : Nat → Int32) (m_kept : Nat → Int32) (m_away : Nat → Int32) (m_input : Nat → Int32) (m_halfway : Nat → Int32) (m_output : Nat → Int32) (v1 : Int32) {o : Int32 × Int32 × Int32 × Int32 × (Nat → Int32) × (Nat → Int32)} (hf : f_X12_pass m_undoable m_undoStart m_thrown m_s m_remembered v1 = some o) : mI l yX12_pass wsX12_pass { frames := 4, cells := 0, slots := 0, locals := 85 } G D (tyA c9) [.ref (ad 0), .int v1] (wX12 ad c9 m_undoable m_undoStart m_thrown m_inputLength m_position m_start m_token m_value m_letters m_code m_place m_outputLength m_s m_parsed m_tried m_remembered m_slots m_kept m_away m_input m_halfway m_output) [] 0 0 o.1 (wX12 ad c9 o.2.1 o.2.2.1 o.2.2.2.1 m_inputLength m_position m_start m_token m_value m_letters m_code m_place m_outputLength o.2.2.2.2.1 m_parsed m_tried o.2.2.2.2.2 m_slots m_kept m_away m_input m_halfway m_output) := by
  refine mI_of hG (cc := cX12_pass) (maxL := 2) (ty := .int) (by decide) rfl (Nat.le_of_ble_eq_true rfl) ?_
  intro p e s m args below meth c A X
  have X : vX p s m args meth c cX12_pass 2 (some .int) RX12 wsX12_pass D (tyA c9) G A := X
  refine v_eq (lv2 := [(0, .ref (ad 0)), (1, .int v1)]) rfl rfl rfl rfl ?_
  rw [f_X12_pass] at hf
  refine v_aload_n X dX12_pass_0 0 rfl rfl 1 rfl ?_
  refine v_iload_n X dX12_pass_1 1 rfl rfl 2 rfl ?_
  refine v_iconst X dX12_pass_2 ic_1 3 rfl ?_
  refine v_sipush X dX12_pass_3 sp_999 6 rfl ?_
  obtain ⟨o1, ho1, hf⟩ := bnd hf
  refine v_callVi X (ci := 11) (T := TX12) (C := RX12) (As := [.int v1, .int 1, .int 999]) (rest := []) (ws' := (wX12 ad c9 m_undoable m_undoStart o1.2 m_inputLength m_position m_start m_token m_value m_letters m_code m_place m_outputLength m_s m_parsed m_tried m_remembered m_slots m_kept m_away m_input m_halfway m_output)) (c_X12_noNumber l hG D c9 ad m_undoable m_undoStart m_thrown m_inputLength m_position m_start m_token m_value m_letters m_code m_place m_outputLength m_s m_parsed m_tried m_remembered m_slots m_kept m_away m_input m_halfway m_output v1 1 999 ho1) 3 gX12_pass_X12_noNumber rfl rfl rfl ⟨rfl, pd_X12_noNumber⟩ ⟨Nat.le_of_ble_eq_true rfl, Nat.le_of_ble_eq_true rfl⟩ 0 rfl rfl rfl rfl (Nat.le_of_ble_eq_true rfl) ⟨Nat.zero_le _, Nat.zero_le _⟩ [0, 1, 2, 3, 4, 5, 6, 7, 8, 9, 10] [] [0, 1, 2, 3, 4, 5, 6, 7, 8, 9, 10] rfl rfl rfl rfl dX12_pass_6 9 rfl ?_
  refine v_if_eq X (tgt := 14) dX12_pass_9 rfl 12 rfl hf (fun hf => ?_) (fun hf => ?_)
  · refine v_aload_n X dX12_pass_14 0 rfl rfl 15 rfl ?_
    obtain ⟨o2, ho2, hf⟩ := bnd hf
    refine v_callVv X (ci := 11) (T := TX12) (C := RX12) (As := []) (rest := []) (ws' := (wX12 ad c9 o2.1 o2.2.1 o1.2 m_inputLength m_position m_start m_token m_value m_letters m_code m_place m_outputLength m_s m_parsed m_tried o2.2.2 m_slots m_kept m_away m_input m_halfway m_output)) (c_X12_remember l hG D c9 ad m_undoable m_undoStart o1.2 m_inputLength m_position m_start m_token m_value m_letters m_code m_place m_outputLength m_s m_parsed m_tried m_remembered m_slots m_kept m_away m_input m_halfway m_output ho2) 0 gX12_pass_X12_remember rfl rfl rfl ⟨rfl, pd_X12_remember⟩ ⟨Nat.le_of_ble_eq_true rfl, Nat.le_of_ble_eq_true rfl⟩ 0 rfl rfl rfl rfl (Nat.le_of_ble_eq_true rfl) ⟨Nat.zero_le _, Nat.zero_le _⟩ [0, 1, 2, 3, 4, 5, 6, 7, 8, 9, 10] [] [0, 1, 2, 3, 4, 5, 6, 7, 8, 9, 10] rfl rfl rfl rfl dX12_pass_15 18 rfl ?_
    refine v_aload_n X dX12_pass_18 0 rfl rfl 19 rfl ?_
    refine v_get X (C := RX12) (T := TX12) (N := 22) (ci := 11) (v := _) dX12_pass_19 k_X12_pass_w12 0 rfl rfl 0 (by decide) k_X12_pass_1 rfl rfl 22 rfl ?_
    refine v_iload_n X dX12_pass_22 1 rfl rfl 23 rfl ?_
    obtain ⟨o3, ho3, hf⟩ := bnd hf
    refine v_callSi X (As := [.ref (ad 1), .int v1]) (rest := []) (ws' := (wX12 ad c9 o2.1 o2.2.1 o1.2 m_inputLength m_position m_start m_token m_value m_letters m_code m_place m_outputLength o3.2 m_parsed m_tried o2.2.2 m_slots m_kept m_away m_input m_halfway m_output)) (c_X12_passes l hG D c9 (ad 1) m_s v1 ho3) 2 gX12_pass_X12_passes rfl rfl rfl pd_X12_passes ⟨Nat.le_of_ble_eq_true rfl, Nat.le_of_ble_eq_true rfl⟩ rfl rfl (Nat.le_of_ble_eq_true rfl) ⟨Nat.zero_le _, Nat.zero_le _⟩ [1] [0, 2, 3, 4, 5, 6, 7, 8, 9, 10] [0, 10, 1, 2, 3, 4, 5, 6, 7, 8, 9] rfl rfl rfl rfl dX12_pass_23 26 rfl ?_
    cases hf
    exact v_iret X (Nat.zero_le _) (Nat.zero_le _) dX12_pass_26
  · refine v_iconst X dX12_pass_12 ic_0 13 rfl ?_
    cases hf
    exact v_iret X (Nat.zero_le _) (Nat.zero_le _) dX12_pass_13
theorem pd_X12_pass : yX12_pass.cls ≠ "java/lang/invoke/MethodHandle" ∧ yX12_pass.cls ≠ "java/lang/invoke/VarHandle" ∧ (parseMethodDescriptor yX12_pass.desc).map (fun d => d.parameters.length) = some 1 := by decide +kernel
theorem k_X12_print_w12 : ∀ w ∈ u_ws RX12 TX12 22, w ∈ wsX12_print := in_r _ [3, 4, 5, 6, 7, 8, 9, 10, 11, 12, 13, 14, 15, 16, 17, 18, 19, 20, 21, 22, 23, 24] rfl
theorem k_X12_print_1 : Cond.fieldLink RX12 42 "TicketGateModel" "output" "[B" ∈ wsX12_print := List.mem_of_getElem? (i := 1) rfl
theorem k_X12_print_2 : Cond.fieldLink RX12 410 "TicketGateModel" "outputLength" "I" ∈ wsX12_print := List.mem_of_getElem? (i := 2) rfl
def f_X12_print (m_outputLength : Int32) (m_output : Nat → Int32) (v1 : Int32) : Option (Int32 × (Nat → Int32)) :=
  (wr m_output 60 m_outputLength v1.toInt8.toInt32.toInt8.toInt32).bind fun g1 =>
  some ((m_outputLength + 1), g1)
set_option maxRecDepth 100000 in
set_option maxHeartbeats 4000000 in
theorem c_X12_print (l : Launch) {G : (Nat → Prop) → State → Heap → Prop} (hG : vG G) (D : va_G) (c9 : Nat → ClassId) (ad : Nat → Nat) (m_undoable : Int32) (m_undoStart : Int32) (m_thrown : Int32) (m_inputLength : Int32) (m_position : Int32) (m_start : Int32) (m_token : Int32) (m_value : Int32) (m_letters : Int32) (m_code : Int32) (m_place : Int32) (m_outputLength : Int32) (m_s : Nat → Int32) (m_parsed : Nat → Int32) (m_tried : Nat → Int32) (m_remembered : Nat → Int32) (m_slots : Nat → Int32) (m_kept : Nat → Int32) (m_away : Nat → Int32) (m_input : Nat → Int32) (m_halfway : Nat → Int32) (m_output : Nat → Int32) (v1 : Int32) {o : Int32 × (Nat → Int32)} (hf : f_X12_print m_outputLength m_output v1 = some o) : mV l yX12_print wsX12_print { frames := 0, cells := 0, slots := 0, locals := 0 } G D (tyA c9) [.ref (ad 0), .int v1] (wX12 ad c9 m_undoable m_undoStart m_thrown m_inputLength m_position m_start m_token m_value m_letters m_code m_place m_outputLength m_s m_parsed m_tried m_remembered m_slots m_kept m_away m_input m_halfway m_output) [] 0 0 (wX12 ad c9 m_undoable m_undoStart m_thrown m_inputLength m_position m_start m_token m_value m_letters m_code m_place o.1 m_s m_parsed m_tried m_remembered m_slots m_kept m_away m_input m_halfway o.2) := by
  refine mV_of hG (cc := cX12_print) (maxL := 2) (by decide) rfl (Nat.le_of_ble_eq_true rfl) ?_
  intro p e s m args below meth c A hnm X
  have X : vX p s m args meth c cX12_print 2 none RX12 wsX12_print D (tyA c9) G A := X
  refine v_eq (lv2 := [(0, .ref (ad 0)), (1, .int v1)]) rfl rfl rfl rfl ?_
  rw [f_X12_print] at hf
  refine v_aload_n X dX12_print_0 0 rfl rfl 1 rfl ?_
  refine v_get X (C := RX12) (T := TX12) (N := 22) (ci := 11) (v := _) dX12_print_1 k_X12_print_w12 0 rfl rfl 20 (by decide) k_X12_print_1 rfl rfl 4 rfl ?_
  refine v_aload_n X dX12_print_4 0 rfl rfl 5 rfl ?_
  refine v_get X (C := RX12) (T := TX12) (N := 22) (ci := 11) (v := _) dX12_print_5 k_X12_print_w12 0 rfl rfl 21 (by decide) k_X12_print_2 rfl rfl 8 rfl ?_
  refine v_iload_n X dX12_print_8 1 rfl rfl 9 rfl ?_
  refine v_i2b X dX12_print_9 10 rfl ?_
  obtain ⟨g1, hg1, hf⟩ := bnd hf
  refine v_bast X (ws' := (wX12 ad c9 m_undoable m_undoStart m_thrown m_inputLength m_position m_start m_token m_value m_letters m_code m_place m_outputLength m_s m_parsed m_tried m_remembered m_slots m_kept m_away m_input m_halfway g1)) dX12_print_10 10 2 rfl rfl hg1 rfl 11 rfl ?_
  refine v_aload_n X dX12_print_11 0 rfl rfl 12 rfl ?_
  refine v_dup X dX12_print_12 rfl 13 rfl ?_
  refine v_get X (C := RX12) (T := TX12) (N := 22) (ci := 11) (v := _) dX12_print_13 k_X12_print_w12 0 rfl rfl 21 (by decide) k_X12_print_2 rfl rfl 16 rfl ?_
  refine v_iconst X dX12_print_16 ic_1 17 rfl ?_
  refine v_iadd X dX12_print_17 18 rfl ?_
  refine v_put X (C := RX12) (T := TX12) (N := 22) (ci := 11) (ty := tyX12 21) (ws' := (wX12 ad c9 m_undoable m_undoStart m_thrown m_inputLength m_position m_start m_token m_value m_letters m_code m_place (m_outputLength + 1) m_s m_parsed m_tried m_remembered m_slots m_kept m_away m_input m_halfway g1)) dX12_print_18 k_X12_print_w12 0 rfl rfl 21 (by decide) tyX12 tyX12_ok nmX12 k_X12_print_2 rfl rfl (tyX12_ok 21 (by decide)) rfl rfl (by decide) rfl 21 rfl ?_
  cases hf
  exact v_vret X (Nat.zero_le _) (Nat.zero_le _) dX12_print_21
theorem pd_X12_print : yX12_print.cls ≠ "java/lang/invoke/MethodHandle" ∧ yX12_print.cls ≠ "java/lang/invoke/VarHandle" ∧ (parseMethodDescriptor yX12_print.desc).map (fun d => d.parameters.length) = some 1 := by decide +kernel
def f_X12_printNumber_L2 (v1 : Int32) : Nat → Int32 → Option (Int32)
  | 0, _ => none
  | n + 1, v2 =>
    (dv v1 v2).bind fun x1 =>
    if x1 ≤ 9 then (
      some (v2))
    else (
      f_X12_printNumber_L2 v1 n  (v2 * 10))
def f_X12_printNumber_L20 (v1 : Int32) : Nat → Int32 → (Nat → Int32) → Int32 → Option (Int32 × (Nat → Int32))
  | 0, _, _, _ => none
  | n + 1, m_outputLength, m_output, v3 =>
    if v3 ≤ 0 then (
      some (m_outputLength, m_output))
    else (
      (dv v1 v3).bind fun x3 =>
      (f_X12_print m_outputLength m_output (48 + (irm x3 10))).bind fun o4 =>
      f_X12_printNumber_L20 v1 n o4.1 o4.2 (v3 / 10))
def f_X12_printNumber (m_outputLength : Int32) (m_output : Nat → Int32) (v1 : Int32) : Option (Int32 × (Nat → Int32)) :=
  (f_X12_printNumber_L2 v1 5000 1).bind fun o2 =>
  (f_X12_printNumber_L20 v1 5000 m_outputLength m_output o2).bind fun o5 =>
  some (o5.1, o5.2)
set_option maxRecDepth 100000 in
set_option maxHeartbeats 4000000 in
theorem l_X12_printNumber_L2 (l : Launch) {G : (Nat → Prop) → State → Heap → Prop} (hG : vG G) (D : va_G) (c9 : Nat → ClassId) (ad : Nat → Nat) (m_undoable : Int32) (m_undoStart : Int32) (m_thrown : Int32) (m_inputLength : Int32) (m_position : Int32) (m_start : Int32) (m_token : Int32) (m_value : Int32) (m_letters : Int32) (m_code : Int32) (m_place : Int32) (m_outputLength : Int32) (m_s : Nat → Int32) (m_parsed : Nat → Int32) (m_tried : Nat → Int32) (m_remembered : Nat → Int32) (m_slots : Nat → Int32) (m_kept : Nat → Int32) (m_away : Nat → Int32) (m_input : Nat → Int32) (m_halfway : Nat → Int32) (m_output : Nat → Int32) (v1 : Int32) {p : Program} {e : Env} {s : State} {m : MethodId} {args : Array Value} {below : List Frame} {meth : Method} {c : Code} {A : Nat → Prop} {F : va_W} (X : vX p s m args meth c cX12_printNumber 4 none RX12 wsX12_printNumber D (tyA c9) G A) {Q : State → Prop} (o : Int32) (K : vW p l e { frames := 1, cells := 0, slots := 0, locals := 21 } s m args below meth c 4 D A F 0 0 Q (wX12 ad c9 m_undoable m_undoStart m_thrown m_inputLength m_position m_start m_token m_value m_letters m_code m_place m_outputLength m_s m_parsed m_tried m_remembered m_slots m_kept m_away m_input m_halfway m_output) 18 [(0, .ref (ad 0)), (1, .int v1), (2, .int o)] []) :
    ∀ (n : Nat) (v2 : Int32), f_X12_printNumber_L2 v1 n v2 = some o → vW p l e { frames := 1, cells := 0, slots := 0, locals := 21 } s m args below meth c 4 D A F 0 0 Q (wX12 ad c9 m_undoable m_undoStart m_thrown m_inputLength m_position m_start m_token m_value m_letters m_code m_place m_outputLength m_s m_parsed m_tried m_remembered m_slots m_kept m_away m_input m_halfway m_output) 2 [(0, .ref (ad 0)), (1, .int v1), (2, .int v2)] [] := by
  intro n
  induction n with
  | zero =>
    intro v2 hf
    rw [f_X12_printNumber_L2] at hf
    cases hf
  | succ n ih =>
    intro v2 hf
    rw [f_X12_printNumber_L2] at hf
    refine v_iload_n X dX12_printNumber_2 1 rfl rfl 3 rfl ?_
    refine v_iload_n X dX12_printNumber_3 2 rfl rfl 4 rfl ?_
    obtain ⟨x1, hx1, hf⟩ := bnd hf
    refine v_idivq X dX12_printNumber_4 hx1 5 rfl ?_
    refine v_bipush X dX12_printNumber_5 bp_9 7 rfl ?_
    refine v_icmp_le X (tgt := 18) dX12_printNumber_7 rfl 10 rfl hf (fun hf => ?_) (fun hf => ?_)
    · cases hf
      exact K
    · refine v_iload_n X dX12_printNumber_10 2 rfl rfl 11 rfl ?_
      refine v_bipush X dX12_printNumber_11 bp_10 13 rfl ?_
      refine v_imul X dX12_printNumber_13 14 rfl ?_
      refine v_istore_n X (lv' := [(2, .int (v2 * 10)), (0, .ref (ad 0)), (1, .int v1)]) dX12_printNumber_14 rfl (by decide) rfl 15 rfl ?_
      refine v_goto X (tgt := 2) dX12_printNumber_15 rfl ?_
      refine v_sub (lv' := [(0, .ref (ad 0)), (1, .int v1), (2, .int (v2 * 10))]) [1, 2, 0] rfl ?_
      exact ih (v2 * 10) hf
set_option maxRecDepth 100000 in
set_option maxHeartbeats 4000000 in
theorem l_X12_printNumber_L20 (l : Launch) {G : (Nat → Prop) → State → Heap → Prop} (hG : vG G) (D : va_G) (c9 : Nat → ClassId) (ad : Nat → Nat) (m_undoable : Int32) (m_undoStart : Int32) (m_thrown : Int32) (m_inputLength : Int32) (m_position : Int32) (m_start : Int32) (m_token : Int32) (m_value : Int32) (m_letters : Int32) (m_code : Int32) (m_place : Int32) (m_s : Nat → Int32) (m_parsed : Nat → Int32) (m_tried : Nat → Int32) (m_remembered : Nat → Int32) (m_slots : Nat → Int32) (m_kept : Nat → Int32) (m_away : Nat → Int32) (m_input : Nat → Int32) (m_halfway : Nat → Int32) (v1 : Int32) {p : Program} {e : Env} {s : State} {m : MethodId} {args : Array Value} {below : List Frame} {meth : Method} {c : Code} {A : Nat → Prop} {F : va_W} (X : vX p s m args meth c cX12_printNumber 4 none RX12 wsX12_printNumber D (tyA c9) G A) {Q : State → Prop} (o : Int32 × (Nat → Int32)) (K : vW p l e { frames := 1, cells := 0, slots := 0, locals := 21 } s m args below meth c 4 D A F 0 0 Q (wX12 ad c9 m_undoable m_undoStart m_thrown m_inputLength m_position m_start m_token m_value m_letters m_code m_place o.1 m_s m_parsed m_tried m_remembered m_slots m_kept m_away m_input m_halfway o.2) 45 [] []) :
    ∀ (n : Nat) (m_outputLength : Int32) (m_output : Nat → Int32) (v3 : Int32), f_X12_printNumber_L20 v1 n m_outputLength m_output v3 = some o → vW p l e { frames := 1, cells := 0, slots := 0, locals := 21 } s m args below meth c 4 D A F 0 0 Q (wX12 ad c9 m_undoable m_undoStart m_thrown m_inputLength m_position m_start m_token m_value m_letters m_code m_place m_outputLength m_s m_parsed m_tried m_remembered m_slots m_kept m_away m_input m_halfway m_output) 20 [(0, .ref (ad 0)), (1, .int v1), (3, .int v3)] [] := by
  intro n
  induction n with
  | zero =>
    intro m_outputLength m_output v3 hf
    rw [f_X12_printNumber_L20] at hf
    cases hf
  | succ n ih =>
    intro m_outputLength m_output v3 hf
    rw [f_X12_printNumber_L20] at hf
    refine v_iload_n X dX12_printNumber_20 2 rfl rfl 21 rfl ?_
    refine v_if_le X (tgt := 45) dX12_printNumber_21 rfl 24 rfl hf (fun hf => ?_) (fun hf => ?_)
    · cases hf
      refine v_sub (lv' := []) [] rfl ?_
      exact K
    · refine v_aload_n X dX12_printNumber_24 0 rfl rfl 25 rfl ?_
      refine v_bipush X dX12_printNumber_25 bp_48 27 rfl ?_
      refine v_iload_n X dX12_printNumber_27 1 rfl rfl 28 rfl ?_
      refine v_iload_n X dX12_printNumber_28 2 rfl rfl 29 rfl ?_
      obtain ⟨x3, hx3, hf⟩ := bnd hf
      refine v_idivq X dX12_printNumber_29 hx3 30 rfl ?_
      refine v_bipush X dX12_printNumber_30 bp_10 32 rfl ?_
      refine v_irem X dX12_printNumber_32 (by decide) 33 rfl ?_
      refine v_iadd X dX12_printNumber_33 34 rfl ?_
      obtain ⟨o4, ho4, hf⟩ := bnd hf
      refine v_callVv X (ci := 11) (T := TX12) (C := RX12) (As := [.int (48 + (irm x3 10))]) (rest := []) (ws' := (wX12 ad c9 m_undoable m_undoStart m_thrown m_inputLength m_position m_start m_token m_value m_letters m_code m_place o4.1 m_s m_parsed m_tried m_remembered m_slots m_kept m_away m_input m_halfway o4.2)) (c_X12_print l hG D c9 ad m_undoable m_undoStart m_thrown m_inputLength m_position m_start m_token m_value m_letters m_code m_place m_outputLength m_s m_parsed m_tried m_remembered m_slots m_kept m_away m_input m_halfway m_output (48 + (irm x3 10)) ho4) 1 gX12_printNumber_X12_print rfl rfl rfl ⟨rfl, pd_X12_print⟩ ⟨Nat.le_of_ble_eq_true rfl, Nat.le_of_ble_eq_true rfl⟩ 0 rfl rfl rfl rfl (Nat.le_of_ble_eq_true rfl) ⟨Nat.zero_le _, Nat.zero_le _⟩ [0, 1, 2, 3, 4, 5, 6, 7, 8, 9, 10] [] [0, 1, 2, 3, 4, 5, 6, 7, 8, 9, 10] rfl rfl rfl rfl dX12_printNumber_34 37 rfl ?_
      refine v_iload_n X dX12_printNumber_37 2 rfl rfl 38 rfl ?_
      refine v_bipush X dX12_printNumber_38 bp_10 40 rfl ?_
      refine v_idiv X dX12_printNumber_40 (by decide) 41 rfl ?_
      refine v_istore_n X (lv' := [(3, .int (v3 / 10)), (0, .ref (ad 0)), (1, .int v1)]) dX12_printNumber_41 rfl (by decide) rfl 42 rfl ?_
      refine v_goto X (tgt := 20) dX12_printNumber_42 rfl ?_
      refine v_sub (lv' := [(0, .ref (ad 0)), (1, .int v1), (3, .int (v3 / 10))]) [1, 2, 0] rfl ?_
      exact ih o4.1 o4.2 (v3 / 10) hf
set_option maxRecDepth 100000 in
set_option maxHeartbeats 4000000 in
theorem c_X12_printNumber (l : Launch) {G : (Nat → Prop) → State → Heap → Prop} (hG : vG G) (D : va_G) (c9 : Nat → ClassId) (ad : Nat → Nat) (m_undoable : Int32) (m_undoStart : Int32) (m_thrown : Int32) (m_inputLength : Int32) (m_position : Int32) (m_start : Int32) (m_token : Int32) (m_value : Int32) (m_letters : Int32) (m_code : Int32) (m_place : Int32) (m_outputLength : Int32) (m_s : Nat → Int32) (m_parsed : Nat → Int32) (m_tried : Nat → Int32) (m_remembered : Nat → Int32) (m_slots : Nat → Int32) (m_kept : Nat → Int32) (m_away : Nat → Int32) (m_input : Nat → Int32) (m_halfway : Nat → Int32) (m_output : Nat → Int32) (v1 : Int32) {o : Int32 × (Nat → Int32)} (hf : f_X12_printNumber m_outputLength m_output v1 = some o) : mV l yX12_printNumber wsX12_printNumber { frames := 1, cells := 0, slots := 0, locals := 21 } G D (tyA c9) [.ref (ad 0), .int v1] (wX12 ad c9 m_undoable m_undoStart m_thrown m_inputLength m_position m_start m_token m_value m_letters m_code m_place m_outputLength m_s m_parsed m_tried m_remembered m_slots m_kept m_away m_input m_halfway m_output) [] 0 0 (wX12 ad c9 m_undoable m_undoStart m_thrown m_inputLength m_position m_start m_token m_value m_letters m_code m_place o.1 m_s m_parsed m_tried m_remembered m_slots m_kept m_away m_input m_halfway o.2) := by
  refine mV_of hG (cc := cX12_printNumber) (maxL := 4) (by decide) rfl (Nat.le_of_ble_eq_true rfl) ?_
  intro p e s m args below meth c A hnm X
  have X : vX p s m args meth c cX12_printNumber 4 none RX12 wsX12_printNumber D (tyA c9) G A := X
  refine v_eq (lv2 := [(0, .ref (ad 0)), (1, .int v1)]) rfl rfl rfl rfl ?_
  rw [f_X12_printNumber] at hf
  refine v_iconst X dX12_printNumber_0 ic_1 1 rfl ?_
  refine v_istore_n X (lv' := [(2, .int 1), (0, .ref (ad 0)), (1, .int v1)]) dX12_printNumber_1 rfl (by decide) rfl 2 rfl ?_
  obtain ⟨o2, ho2, hf⟩ := bnd hf
  refine v_sub (lv' := [(0, .ref (ad 0)), (1, .int v1), (2, .int 1)]) [1, 2, 0] rfl ?_
  refine l_X12_printNumber_L2 l hG D c9 ad m_undoable m_undoStart m_thrown m_inputLength m_position m_start m_token m_value m_letters m_code m_place m_outputLength m_s m_parsed m_tried m_remembered m_slots m_kept m_away m_input m_halfway m_output v1 X o2 ?_ 5000 1 ho2
  refine v_iload_n X dX12_printNumber_18 2 rfl rfl 19 rfl ?_
  refine v_istore_n X (lv' := [(3, .int o2), (0, .ref (ad 0)), (1, .int v1), (2, .int o2)]) dX12_printNumber_19 rfl (by decide) rfl 20 rfl ?_
  obtain ⟨o5, ho5, hf⟩ := bnd hf
  refine v_sub (lv' := [(0, .ref (ad 0)), (1, .int v1), (3, .int o2)]) [1, 2, 0] rfl ?_
  refine l_X12_printNumber_L20 l hG D c9 ad m_undoable m_undoStart m_thrown m_inputLength m_position m_start m_token m_value m_letters m_code m_place m_s m_parsed m_tried m_remembered m_slots m_kept m_away m_input m_halfway v1 X o5 ?_ 5000 m_outputLength m_output o2 ho5
  cases hf
  exact v_vret X (Nat.zero_le _) (Nat.zero_le _) dX12_printNumber_45
theorem pd_X12_printNumber : yX12_printNumber.cls ≠ "java/lang/invoke/MethodHandle" ∧ yX12_printNumber.cls ≠ "java/lang/invoke/VarHandle" ∧ (parseMethodDescriptor yX12_printNumber.desc).map (fun d => d.parameters.length) = some 1 := by decide +kernel
def f_X12_printName_L4 (v1 : Int32) : Nat → Int32 → (Nat → Int32) → Int32 → Option (Int32 × (Nat → Int32))
  | 0, _, _, _ => none
  | n + 1, m_outputLength, m_output, v2 =>
    if v2 ≤ 0 then (
      some (m_outputLength, m_output))
    else (
      (dv v1 v2).bind fun x1 =>
      Option.bind (if (irm x1 27) ≤ 0 then (
        some (m_outputLength, m_output))
      else (
        (f_X12_print m_outputLength m_output (96 + (irm x1 27))).bind fun o3 =>
        some (o3.1, o3.2)) : Option (Int32 × (Nat → Int32))) fun j2 =>
      f_X12_printName_L4 v1 n j2.1 j2.2 (v2 / 27))
def f_X12_printName (m_outputLength : Int32) (m_output : Nat → Int32) (v1 : Int32) : Option (Int32 × (Nat → Int32)) :=
  (f_X12_printName_L4 v1 5000 m_outputLength m_output 19683).bind fun o4 =>
  some (o4.1, o4.2)
set_option maxRecDepth 100000 in
set_option maxHeartbeats 4000000 in
theorem l_X12_printName_L4 (l : Launch) {G : (Nat → Prop) → State → Heap → Prop} (hG : vG G) (D : va_G) (c9 : Nat → ClassId) (ad : Nat → Nat) (m_undoable : Int32) (m_undoStart : Int32) (m_thrown : Int32) (m_inputLength : Int32) (m_position : Int32) (m_start : Int32) (m_token : Int32) (m_value : Int32) (m_letters : Int32) (m_code : Int32) (m_place : Int32) (m_s : Nat → Int32) (m_parsed : Nat → Int32) (m_tried : Nat → Int32) (m_remembered : Nat → Int32) (m_slots : Nat → Int32) (m_kept : Nat → Int32) (m_away : Nat → Int32) (m_input : Nat → Int32) (m_halfway : Nat → Int32) (v1 : Int32) {p : Program} {e : Env} {s : State} {m : MethodId} {args : Array Value} {below : List Frame} {meth : Method} {c : Code} {A : Nat → Prop} {F : va_W} (X : vX p s m args meth c cX12_printName 4 none RX12 wsX12_printName D (tyA c9) G A) {Q : State → Prop} (o : Int32 × (Nat → Int32)) (K : vW p l e { frames := 1, cells := 0, slots := 0, locals := 21 } s m args below meth c 4 D A F 0 0 Q (wX12 ad c9 m_undoable m_undoStart m_thrown m_inputLength m_position m_start m_token m_value m_letters m_code m_place o.1 m_s m_parsed m_tried m_remembered m_slots m_kept m_away m_input m_halfway o.2) 35 [] []) :
    ∀ (n : Nat) (m_outputLength : Int32) (m_output : Nat → Int32) (v2 : Int32), f_X12_printName_L4 v1 n m_outputLength m_output v2 = some o → vW p l e { frames := 1, cells := 0, slots := 0, locals := 21 } s m args below meth c 4 D A F 0 0 Q (wX12 ad c9 m_undoable m_undoStart m_thrown m_inputLength m_position m_start m_token m_value m_letters m_code m_place m_outputLength m_s m_parsed m_tried m_remembered m_slots m_kept m_away m_input m_halfway m_output) 4 [(0, .ref (ad 0)), (1, .int v1), (2, .int v2)] [] := by
  intro n
  induction n with
  | zero =>
    intro m_outputLength m_output v2 hf
    rw [f_X12_printName_L4] at hf
    cases hf
  | succ n ih =>
    intro m_outputLength m_output v2 hf
    rw [f_X12_printName_L4] at hf
    refine v_iload_n X dX12_printName_4 2 rfl rfl 5 rfl ?_
    refine v_if_le X (tgt := 35) dX12_printName_5 rfl 8 rfl hf (fun hf => ?_) (fun hf => ?_)
    · cases hf
      refine v_sub (lv' := []) [] rfl ?_
      exact K
    · refine v_iload_n X dX12_printName_8 1 rfl rfl 9 rfl ?_
      refine v_iload_n X dX12_printName_9 2 rfl rfl 10 rfl ?_
      obtain ⟨x1, hx1, hf⟩ := bnd hf
      refine v_idivq X dX12_printName_10 hx1 11 rfl ?_
      refine v_bipush X dX12_printName_11 bp_27 13 rfl ?_
      refine v_irem X dX12_printName_13 (by decide) 14 rfl ?_
      refine v_istore_n X (lv' := [(3, .int (irm x1 27)), (0, .ref (ad 0)), (1, .int v1), (2, .int v2)]) dX12_printName_14 rfl (by decide) rfl 15 rfl ?_
      refine v_iload_n X dX12_printName_15 0 rfl rfl 16 rfl ?_
      obtain ⟨j2, hj2, hf⟩ := bnd hf
      have Jj2 : vW p l e { frames := 1, cells := 0, slots := 0, locals := 21 } s m args below meth c 4 D A F 0 0 Q (wX12 ad c9 m_undoable m_undoStart m_thrown m_inputLength m_position m_start m_token m_value m_letters m_code m_place j2.1 m_s m_parsed m_tried m_remembered m_slots m_kept m_away m_input m_halfway j2.2) 27 [(0, .ref (ad 0)), (1, .int v1), (2, .int v2)] [] := by
        refine v_iload_n X dX12_printName_27 2 rfl rfl 28 rfl ?_
        refine v_bipush X dX12_printName_28 bp_27 30 rfl ?_
        refine v_idiv X dX12_printName_30 (by decide) 31 rfl ?_
        refine v_istore_n X (lv' := [(2, .int (v2 / 27)), (0, .ref (ad 0)), (1, .int v1)]) dX12_printName_31 rfl (by decide) rfl 32 rfl ?_
        refine v_goto X (tgt := 4) dX12_printName_32 rfl ?_
        refine v_sub (lv' := [(0, .ref (ad 0)), (1, .int v1), (2, .int (v2 / 27))]) [1, 2, 0] rfl ?_
        exact ih j2.1 j2.2 (v2 / 27) hf
      clear hf
      refine v_if_le X (tgt := 27) dX12_printName_16 rfl 19 rfl hj2 (fun hf => ?_) (fun hf => ?_)
      · cases hf
        refine v_sub (lv' := [(0, .ref (ad 0)), (1, .int v1), (2, .int v2)]) [1, 2, 3] rfl ?_
        exact Jj2
      · refine v_aload_n X dX12_printName_19 1 rfl rfl 20 rfl ?_
        refine v_bipush X dX12_printName_20 bp_96 22 rfl ?_
        refine v_iload_n X dX12_printName_22 0 rfl rfl 23 rfl ?_
        refine v_iadd X dX12_printName_23 24 rfl ?_
        obtain ⟨o3, ho3, hf⟩ := bnd hf
        refine v_callVv X (ci := 11) (T := TX12) (C := RX12) (As := [.int (96 + (irm x1 27))]) (rest := []) (ws' := (wX12 ad c9 m_undoable m_undoStart m_thrown m_inputLength m_position m_start m_token m_value m_letters m_code m_place o3.1 m_s m_parsed m_tried m_remembered m_slots m_kept m_away m_input m_halfway o3.2)) (c_X12_print l hG D c9 ad m_undoable m_undoStart m_thrown m_inputLength m_position m_start m_token m_value m_letters m_code m_place m_outputLength m_s m_parsed m_tried m_remembered m_slots m_kept m_away m_input m_halfway m_output (96 + (irm x1 27)) ho3) 1 gX12_printName_X12_print rfl rfl rfl ⟨rfl, pd_X12_print⟩ ⟨Nat.le_of_ble_eq_true rfl, Nat.le_of_ble_eq_true rfl⟩ 0 rfl rfl rfl rfl (Nat.le_of_ble_eq_true rfl) ⟨Nat.zero_le _, Nat.zero_le _⟩ [0, 1, 2, 3, 4, 5, 6, 7, 8, 9, 10] [] [0, 1, 2, 3, 4, 5, 6, 7, 8, 9, 10] rfl rfl rfl rfl dX12_printName_24 27 rfl ?_
        cases hf
        refine v_sub (lv' := [(0, .ref (ad 0)), (1, .int v1), (2, .int v2)]) [1, 2, 3] rfl ?_
        exact Jj2
set_option maxRecDepth 100000 in
set_option maxHeartbeats 4000000 in
theorem c_X12_printName (l : Launch) {G : (Nat → Prop) → State → Heap → Prop} (hG : vG G) (D : va_G) (c9 : Nat → ClassId) (ad : Nat → Nat) (m_undoable : Int32) (m_undoStart : Int32) (m_thrown : Int32) (m_inputLength : Int32) (m_position : Int32) (m_start : Int32) (m_token : Int32) (m_value : Int32) (m_letters : Int32) (m_code : Int32) (m_place : Int32) (m_outputLength : Int32) (m_s : Nat → Int32) (m_parsed : Nat → Int32) (m_tried : Nat → Int32) (m_remembered : Nat → Int32) (m_slots : Nat → Int32) (m_kept : Nat → Int32) (m_away : Nat → Int32) (m_input : Nat → Int32) (m_halfway : Nat → Int32) (m_output : Nat → Int32) (v1 : Int32) {o : Int32 × (Nat → Int32)} (hf : f_X12_printName m_outputLength m_output v1 = some o) : mV l yX12_printName wsX12_printName { frames := 1, cells := 0, slots := 0, locals := 21 } G D (tyA c9) [.ref (ad 0), .int v1] (wX12 ad c9 m_undoable m_undoStart m_thrown m_inputLength m_position m_start m_token m_value m_letters m_code m_place m_outputLength m_s m_parsed m_tried m_remembered m_slots m_kept m_away m_input m_halfway m_output) [] 0 0 (wX12 ad c9 m_undoable m_undoStart m_thrown m_inputLength m_position m_start m_token m_value m_letters m_code m_place o.1 m_s m_parsed m_tried m_remembered m_slots m_kept m_away m_input m_halfway o.2) := by
  refine mV_of hG (cc := cX12_printName) (maxL := 4) (by decide) rfl (Nat.le_of_ble_eq_true rfl) ?_
  intro p e s m args below meth c A hnm X
  have X : vX p s m args meth c cX12_printName 4 none RX12 wsX12_printName D (tyA c9) G A := X
  refine v_eq (lv2 := [(0, .ref (ad 0)), (1, .int v1)]) rfl rfl rfl rfl ?_
  rw [f_X12_printName] at hf
  refine v_sipush X dX12_printName_0 sp_19683 3 rfl ?_
  refine v_istore_n X (lv' := [(2, .int 19683), (0, .ref (ad 0)), (1, .int v1)]) dX12_printName_3 rfl (by decide) rfl 4 rfl ?_
  obtain ⟨o4, ho4, hf⟩ := bnd hf
  refine v_sub (lv' := [(0, .ref (ad 0)), (1, .int v1), (2, .int 19683)]) [1, 2, 0] rfl ?_
  refine l_X12_printName_L4 l hG D c9 ad m_undoable m_undoStart m_thrown m_inputLength m_position m_start m_token m_value m_letters m_code m_place m_s m_parsed m_tried m_remembered m_slots m_kept m_away m_input m_halfway v1 X o4 ?_ 5000 m_outputLength m_output 19683 ho4
  cases hf
  exact v_vret X (Nat.zero_le _) (Nat.zero_le _) dX12_printName_35
theorem pd_X12_printName : yX12_printName.cls ≠ "java/lang/invoke/MethodHandle" ∧ yX12_printName.cls ≠ "java/lang/invoke/VarHandle" ∧ (parseMethodDescriptor yX12_printName.desc).map (fun d => d.parameters.length) = some 1 := by decide +kernel
theorem k_X12_writeTicket_w12 : ∀ w ∈ u_ws RX12 TX12 22, w ∈ wsX12_writeTicket := in_r _ [41, 42, 43, 44, 45, 46, 47, 48, 49, 50, 51, 52, 53, 54, 55, 56, 57, 58, 59, 60, 61, 62] rfl
theorem k_X12_writeTicket_1 : Cond.fieldLink RX12 7 "TicketGateModel" "s" "[I" ∈ wsX12_writeTicket := List.mem_of_getElem? (i := 1) rfl
theorem k_X12_writeTicket_2 : Cond.fieldLink RX12 410 "TicketGateModel" "outputLength" "I" ∈ wsX12_writeTicket := List.mem_of_getElem? (i := 2) rfl
def f_X12_writeTicket (m_thrown : Int32) (m_outputLength : Int32) (m_s : Nat → Int32) (m_output : Nat → Int32) (v1 : Int32) : Option (Int32 × Int32 × Int32 × (Nat → Int32)) :=
  (f_X12_noTicket m_thrown m_s v1).bind fun o1 =>
  if o1.1 = 0 then (
    (f_X12_find m_s v1).bind fun o2 =>
    (f_X12_ofTicket o2).bind fun o3 =>
    (f_X12_printNumber 0 m_output v1).bind fun o4 =>
    (f_X12_print o4.1 o4.2 58).bind fun o5 =>
    (rd m_s 463 (o3 + 2)).bind fun x6 =>
    (f_X12_ofUser x6).bind fun o7 =>
    (rd m_s 463 (o7 + 0)).bind fun x8 =>
    (f_X12_printName o5.1 o5.2 x8).bind fun o9 =>
    (f_X12_print o9.1 o9.2 64).bind fun o10 =>
    (rd m_s 463 (o3 + 3)).bind fun x11 =>
    (f_X12_ofRealm x11).bind fun o12 =>
    (rd m_s 463 (o12 + 0)).bind fun x13 =>
    (f_X12_printName o10.1 o10.2 x13).bind fun o14 =>
    (rd m_s 463 (o3 + 1)).bind fun x15 =>
    Option.bind (if x15 = 1 then (
      (f_X12_print o14.1 o14.2 47).bind fun o17 =>
      (rd m_s 463 (o3 + 4)).bind fun x18 =>
      (f_X12_ofService x18).bind fun o19 =>
      (rd m_s 463 (o19 + 0)).bind fun x20 =>
      (f_X12_printName o17.1 o17.2 x20).bind fun o21 =>
      some (o21.1, o21.2))
    else (
      some (o14.1, o14.2)) : Option (Int32 × (Nat → Int32))) fun j16 =>
    (f_X12_print j16.1 j16.2 32).bind fun o22 =>
    (rd m_s 463 (o3 + 6)).bind fun x23 =>
    (f_X12_printNumber o22.1 o22.2 x23).bind fun o24 =>
    (rd m_s 463 (o3 + 9)).bind fun x25 =>
    if x25 = 1 then (
      (f_X12_print o24.1 o24.2 43).bind fun o26 =>
      some (o26.1, o1.2, o26.1, o26.2))
    else (
      some (o24.1, o1.2, o24.1, o24.2)))
  else (
    some (0, o1.2, m_outputLength, m_output))
set_option maxRecDepth 100000 in
set_option maxHeartbeats 4000000 in
theorem c_X12_writeTicket (l : Launch) {G : (Nat → Prop) → State → Heap → Prop} (hG : vG G) (D : va_G) (c9 : Nat → ClassId) (ad : Nat → Nat) (m_undoable : Int32) (m_undoStart : Int32) (m_thrown : Int32) (m_inputLength : Int32) (m_position : Int32) (m_start : Int32) (m_token : Int32) (m_value : Int32) (m_letters : Int32) (m_code : Int32) (m_place : Int32) (m_outputLength : Int32) (m_s : Nat → Int32) (m_parsed : Nat → Int32) (m_tried : Nat → Int32) (m_remembered : Nat → Int32) (m_slots : Nat → Int32) (m_kept : Nat → Int32) (m_away : Nat → Int32) (m_input : Nat → Int32) (m_halfway : Nat → Int32) (m_output : Nat → Int32) (v1 : Int32) {o : Int32 × Int32 × Int32 × (Nat → Int32)} (hf : f_X12_writeTicket m_thrown m_outputLength m_s m_output v1 = some o) : mI l yX12_writeTicket wsX12_writeTicket { frames := 3, cells := 0, slots := 0, locals := 63 } G D (tyA c9) [.ref (ad 0), .int v1] (wX12 ad c9 m_undoable m_undoStart m_thrown m_inputLength m_position m_start m_token m_value m_letters m_code m_place m_outputLength m_s m_parsed m_tried m_remembered m_slots m_kept m_away m_input m_halfway m_output) [] 0 0 o.1 (wX12 ad c9 m_undoable m_undoStart o.2.1 m_inputLength m_position m_start m_token m_value m_letters m_code m_place o.2.2.1 m_s m_parsed m_tried m_remembered m_slots m_kept m_away m_input m_halfway o.2.2.2) := by
  refine mI_of hG (cc := cX12_writeTicket) (maxL := 3) (ty := .int) (by decide) rfl (Nat.le_of_ble_eq_true rfl) ?_
  intro p e s m args below meth c A X
  have X : vX p s m args meth c cX12_writeTicket 3 (some .int) RX12 wsX12_writeTicket D (tyA c9) G A := X
  refine v_eq (lv2 := [(0, .ref (ad 0)), (1, .int v1)]) rfl rfl rfl rfl ?_
  rw [f_X12_writeTicket] at hf
  refine v_aload_n X dX12_writeTicket_0 0 rfl rfl 1 rfl ?_
  refine v_iload_n X dX12_writeTicket_1 1 rfl rfl 2 rfl ?_
  obtain ⟨o1, ho1, hf⟩ := bnd hf
  refine v_callVi X (ci := 11) (T := TX12) (C := RX12) (As := [.int v1]) (rest := []) (ws' := (wX12 ad c9 m_undoable m_undoStart o1.2 m_inputLength m_position m_start m_token m_value m_letters m_code m_place m_outputLength m_s m_parsed m_tried m_remembered m_slots m_kept m_away m_input m_halfway m_output)) (c_X12_noTicket l hG D c9 ad m_undoable m_undoStart m_thrown m_inputLength m_position m_start m_token m_value m_letters m_code m_place m_outputLength m_s m_parsed m_tried m_remembered m_slots m_kept m_away m_input m_halfway m_output v1 ho1) 1 gX12_writeTicket_X12_noTicket rfl rfl rfl ⟨rfl, pd_X12_noTicket⟩ ⟨Nat.le_of_ble_eq_true rfl, Nat.le_of_ble_eq_true rfl⟩ 0 rfl rfl rfl rfl (Nat.le_of_ble_eq_true rfl) ⟨Nat.zero_le _, Nat.zero_le _⟩ [0, 1, 2, 3, 4, 5, 6, 7, 8, 9, 10] [] [0, 1, 2, 3, 4, 5, 6, 7, 8, 9, 10] rfl rfl rfl rfl dX12_writeTicket_2 5 rfl ?_
  refine v_if_eq X (tgt := 10) dX12_writeTicket_5 rfl 8 rfl hf (fun hf => ?_) (fun hf => ?_)
  · refine v_aload_n X dX12_writeTicket_10 0 rfl rfl 11 rfl ?_
    refine v_get X (C := RX12) (T := TX12) (N := 22) (ci := 11) (v := _) dX12_writeTicket_11 k_X12_writeTicket_w12 0 rfl rfl 0 (by decide) k_X12_writeTicket_1 rfl rfl 14 rfl ?_
    refine v_iload_n X dX12_writeTicket_14 1 rfl rfl 15 rfl ?_
    obtain ⟨o2, ho2, hf⟩ := bnd hf
    refine v_callSi X (As := [.ref (ad 1), .int v1]) (rest := []) (ws' := (wX12 ad c9 m_undoable m_undoStart o1.2 m_inputLength m_position m_start m_token m_value m_letters m_code m_place m_outputLength m_s m_parsed m_tried m_remembered m_slots m_kept m_away m_input m_halfway m_output)) (c_X12_find l hG D c9 (ad 1) m_s v1 ho2) 2 gX12_writeTicket_X12_find rfl rfl rfl pd_X12_find ⟨Nat.le_of_ble_eq_true rfl, Nat.le_of_ble_eq_true rfl⟩ rfl rfl (Nat.le_of_ble_eq_true rfl) ⟨Nat.zero_le _, Nat.zero_le _⟩ [1] [0, 2, 3, 4, 5, 6, 7, 8, 9, 10] [0, 10, 1, 2, 3, 4, 5, 6, 7, 8, 9] rfl rfl rfl rfl dX12_writeTicket_15 18 rfl ?_
    obtain ⟨o3, ho3, hf⟩ := bnd hf
    refine v_callSi X (As := [.int o2]) (rest := []) (ws' := (wX12 ad c9 m_undoable m_undoStart o1.2 m_inputLength m_position m_start m_token m_value m_letters m_code m_place m_outputLength m_s m_parsed m_tried m_remembered m_slots m_kept m_away m_input m_halfway m_output)) (c_X12_ofTicket l hG D c9 o2 ho3) 1 gX12_writeTicket_X12_ofTicket rfl rfl rfl pd_X12_ofTicket ⟨Nat.le_of_ble_eq_true rfl, Nat.le_of_ble_eq_true rfl⟩ rfl rfl (Nat.le_of_ble_eq_true rfl) ⟨Nat.zero_le _, Nat.zero_le _⟩ [] [0, 1, 2, 3, 4, 5, 6, 7, 8, 9, 10] [0, 1, 2, 3, 4, 5, 6, 7, 8, 9, 10] rfl rfl rfl rfl dX12_writeTicket_18 21 rfl ?_
    refine v_istore_n X (lv' := [(2, .int o3), (0, .ref (ad 0)), (1, .int v1)]) dX12_writeTicket_21 rfl (by decide) rfl 22 rfl ?_
    refine v_aload_n X dX12_writeTicket_22 1 rfl rfl 23 rfl ?_
    refine v_iconst X dX12_writeTicket_23 ic_0 24 rfl ?_
    refine v_put X (C := RX12) (T := TX12) (N := 22) (ci := 11) (ty := tyX12 21) (ws' := (wX12 ad c9 m_undoable m_undoStart o1.2 m_inputLength m_position m_start m_token m_value m_letters m_code m_place 0 m_s m_parsed m_tried m_remembered m_slots m_kept m_away m_input m_halfway m_output)) dX12_writeTicket_24 k_X12_writeTicket_w12 0 rfl rfl 21 (by decide) tyX12 tyX12_ok nmX12 k_X12_writeTicket_2 rfl rfl (tyX12_ok 21 (by decide)) rfl rfl (by decide) rfl 27 rfl ?_
    refine v_aload_n X dX12_writeTicket_27 1 rfl rfl 28 rfl ?_
    refine v_iload_n X dX12_writeTicket_28 2 rfl rfl 29 rfl ?_
    obtain ⟨o4, ho4, hf⟩ := bnd hf
    refine v_callVv X (ci := 11) (T := TX12) (C := RX12) (As := [.int v1]) (rest := []) (ws' := (wX12 ad c9 m_undoable m_undoStart o1.2 m_inputLength m_position m_start m_token m_value m_letters m_code m_place o4.1 m_s m_parsed m_tried m_remembered m_slots m_kept m_away m_input m_halfway o4.2)) (c_X12_printNumber l hG D c9 ad m_undoable m_undoStart o1.2 m_inputLength m_position m_start m_token m_value m_letters m_code m_place 0 m_s m_parsed m_tried m_remembered m_slots m_kept m_away m_input m_halfway m_output v1 ho4) 1 gX12_writeTicket_X12_printNumber rfl rfl rfl ⟨rfl, pd_X12_printNumber⟩ ⟨Nat.le_of_ble_eq_true rfl, Nat.le_of_ble_eq_true rfl⟩ 0 rfl rfl rfl rfl (Nat.le_of_ble_eq_true rfl) ⟨Nat.zero_le _, Nat.zero_le _⟩ [0, 1, 2, 3, 4, 5, 6, 7, 8, 9, 10] [] [0, 1, 2, 3, 4, 5, 6, 7, 8, 9, 10] rfl rfl rfl rfl dX12_writeTicket_29 32 rfl ?_
    refine v_aload_n X dX12_writeTicket_32 1 rfl rfl 33 rfl ?_
    refine v_bipush X dX12_writeTicket_33 bp_58 35 rfl ?_
    obtain ⟨o5, ho5, hf⟩ := bnd hf
    refine v_callVv X (ci := 11) (T := TX12) (C := RX12) (As := [.int 58]) (rest := []) (ws' := (wX12 ad c9 m_undoable m_undoStart o1.2 m_inputLength m_position m_start m_token m_value m_letters m_code m_place o5.1 m_s m_parsed m_tried m_remembered m_slots m_kept m_away m_input m_halfway o5.2)) (c_X12_print l hG D c9 ad m_undoable m_undoStart o1.2 m_inputLength m_position m_start m_token m_value m_letters m_code m_place o4.1 m_s m_parsed m_tried m_remembered m_slots m_kept m_away m_input m_halfway o4.2 58 ho5) 1 gX12_writeTicket_X12_print rfl rfl rfl ⟨rfl, pd_X12_print⟩ ⟨Nat.le_of_ble_eq_true rfl, Nat.le_of_ble_eq_true rfl⟩ 0 rfl rfl rfl rfl (Nat.le_of_ble_eq_true rfl) ⟨Nat.zero_le _, Nat.zero_le _⟩ [0, 1, 2, 3, 4, 5, 6, 7, 8, 9, 10] [] [0, 1, 2, 3, 4, 5, 6, 7, 8, 9, 10] rfl rfl rfl rfl dX12_writeTicket_35 38 rfl ?_
    refine v_aload_n X dX12_writeTicket_38 1 rfl rfl 39 rfl ?_
    refine v_aload_n X dX12_writeTicket_39 1 rfl rfl 40 rfl ?_
    refine v_get X (C := RX12) (T := TX12) (N := 22) (ci := 11) (v := _) dX12_writeTicket_40 k_X12_writeTicket_w12 0 rfl rfl 0 (by decide) k_X12_writeTicket_1 rfl rfl 43 rfl ?_
    refine v_aload_n X dX12_writeTicket_43 1 rfl rfl 44 rfl ?_
    refine v_get X (C := RX12) (T := TX12) (N := 22) (ci := 11) (v := _) dX12_writeTicket_44 k_X12_writeTicket_w12 0 rfl rfl 0 (by decide) k_X12_writeTicket_1 rfl rfl 47 rfl ?_
    refine v_iload_n X dX12_writeTicket_47 0 rfl rfl 48 rfl ?_
    refine v_iconst X dX12_writeTicket_48 ic_2 49 rfl ?_
    refine v_iadd X dX12_writeTicket_49 50 rfl ?_
    obtain ⟨x6, hx6, hf⟩ := bnd hf
    refine v_iald X dX12_writeTicket_50 1 0 rfl rfl hx6 51 rfl ?_
    obtain ⟨o7, ho7, hf⟩ := bnd hf
    refine v_callSi X (As := [.int x6]) (rest := [.ref (ad 1), .ref (ad 0)]) (ws' := (wX12 ad c9 m_undoable m_undoStart o1.2 m_inputLength m_position m_start m_token m_value m_letters m_code m_place o5.1 m_s m_parsed m_tried m_remembered m_slots m_kept m_away m_input m_halfway o5.2)) (c_X12_ofUser l hG D c9 x6 ho7) 1 gX12_writeTicket_X12_ofUser rfl rfl rfl pd_X12_ofUser ⟨Nat.le_of_ble_eq_true rfl, Nat.le_of_ble_eq_true rfl⟩ rfl rfl (Nat.le_of_ble_eq_true rfl) ⟨Nat.zero_le _, Nat.zero_le _⟩ [] [0, 1, 2, 3, 4, 5, 6, 7, 8, 9, 10] [0, 1, 2, 3, 4, 5, 6, 7, 8, 9, 10] rfl rfl rfl rfl dX12_writeTicket_51 54 rfl ?_
    refine v_iconst X dX12_writeTicket_54 ic_0 55 rfl ?_
    refine v_iadd X dX12_writeTicket_55 56 rfl ?_
    obtain ⟨x8, hx8, hf⟩ := bnd hf
    refine v_iald X dX12_writeTicket_56 1 0 rfl rfl hx8 57 rfl ?_
    obtain ⟨o9, ho9, hf⟩ := bnd hf
    refine v_callVv X (ci := 11) (T := TX12) (C := RX12) (As := [.int x8]) (rest := []) (ws' := (wX12 ad c9 m_undoable m_undoStart o1.2 m_inputLength m_position m_start m_token m_value m_letters m_code m_place o9.1 m_s m_parsed m_tried m_remembered m_slots m_kept m_away m_input m_halfway o9.2)) (c_X12_printName l hG D c9 ad m_undoable m_undoStart o1.2 m_inputLength m_position m_start m_token m_value m_letters m_code m_place o5.1 m_s m_parsed m_tried m_remembered m_slots m_kept m_away m_input m_halfway o5.2 x8 ho9) 1 gX12_writeTicket_X12_printName rfl rfl rfl ⟨rfl, pd_X12_printName⟩ ⟨Nat.le_of_ble_eq_true rfl, Nat.le_of_ble_eq_true rfl⟩ 0 rfl rfl rfl rfl (Nat.le_of_ble_eq_true rfl) ⟨Nat.zero_le _, Nat.zero_le _⟩ [0, 1, 2, 3, 4, 5, 6, 7, 8, 9, 10] [] [0, 1, 2, 3, 4, 5, 6, 7, 8, 9, 10] rfl rfl rfl rfl dX12_writeTicket_57 60 rfl ?_
    refine v_aload_n X dX12_writeTicket_60 1 rfl rfl 61 rfl ?_
    refine v_bipush X dX12_writeTicket_61 bp_64 63 rfl ?_
    obtain ⟨o10, ho10, hf⟩ := bnd hf
    refine v_callVv X (ci := 11) (T := TX12) (C := RX12) (As := [.int 64]) (rest := []) (ws' := (wX12 ad c9 m_undoable m_undoStart o1.2 m_inputLength m_position m_start m_token m_value m_letters m_code m_place o10.1 m_s m_parsed m_tried m_remembered m_slots m_kept m_away m_input m_halfway o10.2)) (c_X12_print l hG D c9 ad m_undoable m_undoStart o1.2 m_inputLength m_position m_start m_token m_value m_letters m_code m_place o9.1 m_s m_parsed m_tried m_remembered m_slots m_kept m_away m_input m_halfway o9.2 64 ho10) 1 gX12_writeTicket_X12_print rfl rfl rfl ⟨rfl, pd_X12_print⟩ ⟨Nat.le_of_ble_eq_true rfl, Nat.le_of_ble_eq_true rfl⟩ 0 rfl rfl rfl rfl (Nat.le_of_ble_eq_true rfl) ⟨Nat.zero_le _, Nat.zero_le _⟩ [0, 1, 2, 3, 4, 5, 6, 7, 8, 9, 10] [] [0, 1, 2, 3, 4, 5, 6, 7, 8, 9, 10] rfl rfl rfl rfl dX12_writeTicket_63 66 rfl ?_
    refine v_aload_n X dX12_writeTicket_66 1 rfl rfl 67 rfl ?_
    refine v_aload_n X dX12_writeTicket_67 1 rfl rfl 68 rfl ?_
    refine v_get X (C := RX12) (T := TX12) (N := 22) (ci := 11) (v := _) dX12_writeTicket_68 k_X12_writeTicket_w12 0 rfl rfl 0 (by decide) k_X12_writeTicket_1 rfl rfl 71 rfl ?_
    refine v_aload_n X dX12_writeTicket_71 1 rfl rfl 72 rfl ?_
    refine v_get X (C := RX12) (T := TX12) (N := 22) (ci := 11) (v := _) dX12_writeTicket_72 k_X12_writeTicket_w12 0 rfl rfl 0 (by decide) k_X12_writeTicket_1 rfl rfl 75 rfl ?_
    refine v_iload_n X dX12_writeTicket_75 0 rfl rfl 76 rfl ?_
    refine v_iconst X dX12_writeTicket_76 ic_3 77 rfl ?_
    refine v_iadd X dX12_writeTicket_77 78 rfl ?_
    obtain ⟨x11, hx11, hf⟩ := bnd hf
    refine v_iald X dX12_writeTicket_78 1 0 rfl rfl hx11 79 rfl ?_
    obtain ⟨o12, ho12, hf⟩ := bnd hf
    refine v_callSi X (As := [.int x11]) (rest := [.ref (ad 1), .ref (ad 0)]) (ws' := (wX12 ad c9 m_undoable m_undoStart o1.2 m_inputLength m_position m_start m_token m_value m_letters m_code m_place o10.1 m_s m_parsed m_tried m_remembered m_slots m_kept m_away m_input m_halfway o10.2)) (c_X12_ofRealm l hG D c9 x11 ho12) 1 gX12_writeTicket_X12_ofRealm rfl rfl rfl pd_X12_ofRealm ⟨Nat.le_of_ble_eq_true rfl, Nat.le_of_ble_eq_true rfl⟩ rfl rfl (Nat.le_of_ble_eq_true rfl) ⟨Nat.zero_le _, Nat.zero_le _⟩ [] [0, 1, 2, 3, 4, 5, 6, 7, 8, 9, 10] [0, 1, 2, 3, 4, 5, 6, 7, 8, 9, 10] rfl rfl rfl rfl dX12_writeTicket_79 82 rfl ?_
    refine v_iconst X dX12_writeTicket_82 ic_0 83 rfl ?_
    refine v_iadd X dX12_writeTicket_83 84 rfl ?_
    obtain ⟨x13, hx13, hf⟩ := bnd hf
    refine v_iald X dX12_writeTicket_84 1 0 rfl rfl hx13 85 rfl ?_
    obtain ⟨o14, ho14, hf⟩ := bnd hf
    refine v_callVv X (ci := 11) (T := TX12) (C := RX12) (As := [.int x13]) (rest := []) (ws' := (wX12 ad c9 m_undoable m_undoStart o1.2 m_inputLength m_position m_start m_token m_value m_letters m_code m_place o14.1 m_s m_parsed m_tried m_remembered m_slots m_kept m_away m_input m_halfway o14.2)) (c_X12_printName l hG D c9 ad m_undoable m_undoStart o1.2 m_inputLength m_position m_start m_token m_value m_letters m_code m_place o10.1 m_s m_parsed m_tried m_remembered m_slots m_kept m_away m_input m_halfway o10.2 x13 ho14) 1 gX12_writeTicket_X12_printName rfl rfl rfl ⟨rfl, pd_X12_printName⟩ ⟨Nat.le_of_ble_eq_true rfl, Nat.le_of_ble_eq_true rfl⟩ 0 rfl rfl rfl rfl (Nat.le_of_ble_eq_true rfl) ⟨Nat.zero_le _, Nat.zero_le _⟩ [0, 1, 2, 3, 4, 5, 6, 7, 8, 9, 10] [] [0, 1, 2, 3, 4, 5, 6, 7, 8, 9, 10] rfl rfl rfl rfl dX12_writeTicket_85 88 rfl ?_
    refine v_aload_n X dX12_writeTicket_88 1 rfl rfl 89 rfl ?_
    refine v_get X (C := RX12) (T := TX12) (N := 22) (ci := 11) (v := _) dX12_writeTicket_89 k_X12_writeTicket_w12 0 rfl rfl 0 (by decide) k_X12_writeTicket_1 rfl rfl 92 rfl ?_
    refine v_iload_n X dX12_writeTicket_92 0 rfl rfl 93 rfl ?_
    refine v_iconst X dX12_writeTicket_93 ic_1 94 rfl ?_
    refine v_iadd X dX12_writeTicket_94 95 rfl ?_
    obtain ⟨x15, hx15, hf⟩ := bnd hf
    refine v_iald X dX12_writeTicket_95 1 0 rfl rfl hx15 96 rfl ?_
    refine v_iconst X dX12_writeTicket_96 ic_1 97 rfl ?_
    obtain ⟨j16, hj16, hf⟩ := bnd hf
    have Jj16 : vW p l e { frames := 3, cells := 0, slots := 0, locals := 63 } s m args below meth c 3 D A [] 0 0 (MQ below (eI D (tyA c9) A o.1 ((wX12 ad c9 m_undoable m_undoStart o.2.1 m_inputLength m_position m_start m_token m_value m_letters m_code m_place o.2.2.1 m_s m_parsed m_tried m_remembered m_slots m_kept m_away m_input m_halfway o.2.2.2) ++ [])) args s 0 0 A) (wX12 ad c9 m_undoable m_undoStart o1.2 m_inputLength m_position m_start m_token m_value m_letters m_code m_place j16.1 m_s m_parsed m_tried m_remembered m_slots m_kept m_away m_input m_halfway j16.2) 128 [(0, .ref (ad 0)), (2, .int o3)] [] := by
      refine v_aload_n X dX12_writeTicket_128 0 rfl rfl 129 rfl ?_
      refine v_bipush X dX12_writeTicket_129 bp_32 131 rfl ?_
      obtain ⟨o22, ho22, hf⟩ := bnd hf
      refine v_callVv X (ci := 11) (T := TX12) (C := RX12) (As := [.int 32]) (rest := []) (ws' := (wX12 ad c9 m_undoable m_undoStart o1.2 m_inputLength m_position m_start m_token m_value m_letters m_code m_place o22.1 m_s m_parsed m_tried m_remembered m_slots m_kept m_away m_input m_halfway o22.2)) (c_X12_print l hG D c9 ad m_undoable m_undoStart o1.2 m_inputLength m_position m_start m_token m_value m_letters m_code m_place j16.1 m_s m_parsed m_tried m_remembered m_slots m_kept m_away m_input m_halfway j16.2 32 ho22) 1 gX12_writeTicket_X12_print rfl rfl rfl ⟨rfl, pd_X12_print⟩ ⟨Nat.le_of_ble_eq_true rfl, Nat.le_of_ble_eq_true rfl⟩ 0 rfl rfl rfl rfl (Nat.le_of_ble_eq_true rfl) ⟨Nat.zero_le _, Nat.zero_le _⟩ [0, 1, 2, 3, 4, 5, 6, 7, 8, 9, 10] [] [0, 1, 2, 3, 4, 5, 6, 7, 8, 9, 10] rfl rfl rfl rfl dX12_writeTicket_131 134 rfl ?_
      refine v_aload_n X dX12_writeTicket_134 0 rfl rfl 135 rfl ?_
      refine v_aload_n X dX12_writeTicket_135 0 rfl rfl 136 rfl ?_
      refine v_get X (C := RX12) (T := TX12) (N := 22) (ci := 11) (v := _) dX12_writeTicket_136 k_X12_writeTicket_w12 0 rfl rfl 0 (by decide) k_X12_writeTicket_1 rfl rfl 139 rfl ?_
      refine v_iload_n X dX12_writeTicket_139 1 rfl rfl 140 rfl ?_
      refine v_bipush X dX12_writeTicket_140 bp_6 142 rfl ?_
      refine v_iadd X dX12_writeTicket_142 143 rfl ?_
      obtain ⟨x23, hx23, hf⟩ := bnd hf
      refine v_iald X dX12_writeTicket_143 1 0 rfl rfl hx23 144 rfl ?_
      obtain ⟨o24, ho24, hf⟩ := bnd hf
      refine v_callVv X (ci := 11) (T := TX12) (C := RX12) (As := [.int x23]) (rest := []) (ws' := (wX12 ad c9 m_undoable m_undoStart o1.2 m_inputLength m_position m_start m_token m_value m_letters m_code m_place o24.1 m_s m_parsed m_tried m_remembered m_slots m_kept m_away m_input m_halfway o24.2)) (c_X12_printNumber l hG D c9 ad m_undoable m_undoStart o1.2 m_inputLength m_position m_start m_token m_value m_letters m_code m_place o22.1 m_s m_parsed m_tried m_remembered m_slots m_kept m_away m_input m_halfway o22.2 x23 ho24) 1 gX12_writeTicket_X12_printNumber rfl rfl rfl ⟨rfl, pd_X12_printNumber⟩ ⟨Nat.le_of_ble_eq_true rfl, Nat.le_of_ble_eq_true rfl⟩ 0 rfl rfl rfl rfl (Nat.le_of_ble_eq_true rfl) ⟨Nat.zero_le _, Nat.zero_le _⟩ [0, 1, 2, 3, 4, 5, 6, 7, 8, 9, 10] [] [0, 1, 2, 3, 4, 5, 6, 7, 8, 9, 10] rfl rfl rfl rfl dX12_writeTicket_144 147 rfl ?_
      refine v_aload_n X dX12_writeTicket_147 0 rfl rfl 148 rfl ?_
      refine v_get X (C := RX12) (T := TX12) (N := 22) (ci := 11) (v := _) dX12_writeTicket_148 k_X12_writeTicket_w12 0 rfl rfl 0 (by decide) k_X12_writeTicket_1 rfl rfl 151 rfl ?_
      refine v_iload_n X dX12_writeTicket_151 1 rfl rfl 152 rfl ?_
      refine v_bipush X dX12_writeTicket_152 bp_9 154 rfl ?_
      refine v_iadd X dX12_writeTicket_154 155 rfl ?_
      obtain ⟨x25, hx25, hf⟩ := bnd hf
      refine v_iald X dX12_writeTicket_155 1 0 rfl rfl hx25 156 rfl ?_
      refine v_iconst X dX12_writeTicket_156 ic_1 157 rfl ?_
      refine v_icmp_ne X (tgt := 166) dX12_writeTicket_157 rfl 160 rfl hf (fun hf => ?_) (fun hf => ?_)
      · refine v_aload_n X dX12_writeTicket_166 0 rfl rfl 167 rfl ?_
        refine v_get X (C := RX12) (T := TX12) (N := 22) (ci := 11) (v := _) dX12_writeTicket_167 k_X12_writeTicket_w12 0 rfl rfl 21 (by decide) k_X12_writeTicket_2 rfl rfl 170 rfl ?_
        cases hf
        exact v_iret X (Nat.zero_le _) (Nat.zero_le _) dX12_writeTicket_170
      · refine v_aload_n X dX12_writeTicket_160 0 rfl rfl 161 rfl ?_
        refine v_bipush X dX12_writeTicket_161 bp_43 163 rfl ?_
        obtain ⟨o26, ho26, hf⟩ := bnd hf
        refine v_callVv X (ci := 11) (T := TX12) (C := RX12) (As := [.int 43]) (rest := []) (ws' := (wX12 ad c9 m_undoable m_undoStart o1.2 m_inputLength m_position m_start m_token m_value m_letters m_code m_place o26.1 m_s m_parsed m_tried m_remembered m_slots m_kept m_away m_input m_halfway o26.2)) (c_X12_print l hG D c9 ad m_undoable m_undoStart o1.2 m_inputLength m_position m_start m_token m_value m_letters m_code m_place o24.1 m_s m_parsed m_tried m_remembered m_slots m_kept m_away m_input m_halfway o24.2 43 ho26) 1 gX12_writeTicket_X12_print rfl rfl rfl ⟨rfl, pd_X12_print⟩ ⟨Nat.le_of_ble_eq_true rfl, Nat.le_of_ble_eq_true rfl⟩ 0 rfl rfl rfl rfl (Nat.le_of_ble_eq_true rfl) ⟨Nat.zero_le _, Nat.zero_le _⟩ [0, 1, 2, 3, 4, 5, 6, 7, 8, 9, 10] [] [0, 1, 2, 3, 4, 5, 6, 7, 8, 9, 10] rfl rfl rfl rfl dX12_writeTicket_163 166 rfl ?_
        refine v_aload_n X dX12_writeTicket_166 0 rfl rfl 167 rfl ?_
        refine v_get X (C := RX12) (T := TX12) (N := 22) (ci := 11) (v := _) dX12_writeTicket_167 k_X12_writeTicket_w12 0 rfl rfl 21 (by decide) k_X12_writeTicket_2 rfl rfl 170 rfl ?_
        cases hf
        exact v_iret X (Nat.zero_le _) (Nat.zero_le _) dX12_writeTicket_170
    clear hf
    refine v_icmp_ne X (tgt := 128) dX12_writeTicket_97 rfl 100 rfl hj16 (fun hf => ?_) (fun hf => ?_)
    · cases hf
      refine v_sub (lv' := [(0, .ref (ad 0)), (2, .int o3)]) [1, 0] rfl ?_
      exact Jj16
    · refine v_aload_n X dX12_writeTicket_100 1 rfl rfl 101 rfl ?_
      refine v_bipush X dX12_writeTicket_101 bp_47 103 rfl ?_
      obtain ⟨o17, ho17, hf⟩ := bnd hf
      refine v_callVv X (ci := 11) (T := TX12) (C := RX12) (As := [.int 47]) (rest := []) (ws' := (wX12 ad c9 m_undoable m_undoStart o1.2 m_inputLength m_position m_start m_token m_value m_letters m_code m_place o17.1 m_s m_parsed m_tried m_remembered m_slots m_kept m_away m_input m_halfway o17.2)) (c_X12_print l hG D c9 ad m_undoable m_undoStart o1.2 m_inputLength m_position m_start m_token m_value m_letters m_code m_place o14.1 m_s m_parsed m_tried m_remembered m_slots m_kept m_away m_input m_halfway o14.2 47 ho17) 1 gX12_writeTicket_X12_print rfl rfl rfl ⟨rfl, pd_X12_print⟩ ⟨Nat.le_of_ble_eq_true rfl, Nat.le_of_ble_eq_true rfl⟩ 0 rfl rfl rfl rfl (Nat.le_of_ble_eq_true rfl) ⟨Nat.zero_le _, Nat.zero_le _⟩ [0, 1, 2, 3, 4, 5, 6, 7, 8, 9, 10] [] [0, 1, 2, 3, 4, 5, 6, 7, 8, 9, 10] rfl rfl rfl rfl dX12_writeTicket_103 106 rfl ?_
      refine v_aload_n X dX12_writeTicket_106 1 rfl rfl 107 rfl ?_
      refine v_aload_n X dX12_writeTicket_107 1 rfl rfl 108 rfl ?_
      refine v_get X (C := RX12) (T := TX12) (N := 22) (ci := 11) (v := _) dX12_writeTicket_108 k_X12_writeTicket_w12 0 rfl rfl 0 (by decide) k_X12_writeTicket_1 rfl rfl 111 rfl ?_
      refine v_aload_n X dX12_writeTicket_111 1 rfl rfl 112 rfl ?_
      refine v_get X (C := RX12) (T := TX12) (N := 22) (ci := 11) (v := _) dX12_writeTicket_112 k_X12_writeTicket_w12 0 rfl rfl 0 (by decide) k_X12_writeTicket_1 rfl rfl 115 rfl ?_
      refine v_iload_n X dX12_writeTicket_115 0 rfl rfl 116 rfl ?_
      refine v_iconst X dX12_writeTicket_116 ic_4 117 rfl ?_
      refine v_iadd X dX12_writeTicket_117 118 rfl ?_
      obtain ⟨x18, hx18, hf⟩ := bnd hf
      refine v_iald X dX12_writeTicket_118 1 0 rfl rfl hx18 119 rfl ?_
      obtain ⟨o19, ho19, hf⟩ := bnd hf
      refine v_callSi X (As := [.int x18]) (rest := [.ref (ad 1), .ref (ad 0)]) (ws' := (wX12 ad c9 m_undoable m_undoStart o1.2 m_inputLength m_position m_start m_token m_value m_letters m_code m_place o17.1 m_s m_parsed m_tried m_remembered m_slots m_kept m_away m_input m_halfway o17.2)) (c_X12_ofService l hG D c9 x18 ho19) 1 gX12_writeTicket_X12_ofService rfl rfl rfl pd_X12_ofService ⟨Nat.le_of_ble_eq_true rfl, Nat.le_of_ble_eq_true rfl⟩ rfl rfl (Nat.le_of_ble_eq_true rfl) ⟨Nat.zero_le _, Nat.zero_le _⟩ [] [0, 1, 2, 3, 4, 5, 6, 7, 8, 9, 10] [0, 1, 2, 3, 4, 5, 6, 7, 8, 9, 10] rfl rfl rfl rfl dX12_writeTicket_119 122 rfl ?_
      refine v_iconst X dX12_writeTicket_122 ic_0 123 rfl ?_
      refine v_iadd X dX12_writeTicket_123 124 rfl ?_
      obtain ⟨x20, hx20, hf⟩ := bnd hf
      refine v_iald X dX12_writeTicket_124 1 0 rfl rfl hx20 125 rfl ?_
      obtain ⟨o21, ho21, hf⟩ := bnd hf
      refine v_callVv X (ci := 11) (T := TX12) (C := RX12) (As := [.int x20]) (rest := []) (ws' := (wX12 ad c9 m_undoable m_undoStart o1.2 m_inputLength m_position m_start m_token m_value m_letters m_code m_place o21.1 m_s m_parsed m_tried m_remembered m_slots m_kept m_away m_input m_halfway o21.2)) (c_X12_printName l hG D c9 ad m_undoable m_undoStart o1.2 m_inputLength m_position m_start m_token m_value m_letters m_code m_place o17.1 m_s m_parsed m_tried m_remembered m_slots m_kept m_away m_input m_halfway o17.2 x20 ho21) 1 gX12_writeTicket_X12_printName rfl rfl rfl ⟨rfl, pd_X12_printName⟩ ⟨Nat.le_of_ble_eq_true rfl, Nat.le_of_ble_eq_true rfl⟩ 0 rfl rfl rfl rfl (Nat.le_of_ble_eq_true rfl) ⟨Nat.zero_le _, Nat.zero_le _⟩ [0, 1, 2, 3, 4, 5, 6, 7, 8, 9, 10] [] [0, 1, 2, 3, 4, 5, 6, 7, 8, 9, 10] rfl rfl rfl rfl dX12_writeTicket_125 128 rfl ?_
      cases hf
      refine v_sub (lv' := [(0, .ref (ad 0)), (2, .int o3)]) [1, 0] rfl ?_
      exact Jj16
  · refine v_iconst X dX12_writeTicket_8 ic_0 9 rfl ?_
    cases hf
    exact v_iret X (Nat.zero_le _) (Nat.zero_le _) dX12_writeTicket_9
theorem pd_X12_writeTicket : yX12_writeTicket.cls ≠ "java/lang/invoke/MethodHandle" ∧ yX12_writeTicket.cls ≠ "java/lang/invoke/VarHandle" ∧ (parseMethodDescriptor yX12_writeTicket.desc).map (fun d => d.parameters.length) = some 1 := by decide +kernel
theorem k_X12_outputByte_w12 : ∀ w ∈ u_ws RX12 TX12 22, w ∈ wsX12_outputByte := in_r _ [16, 17, 18, 19, 20, 21, 22, 23, 24, 25, 26, 27, 28, 29, 30, 31, 32, 33, 34, 35, 36, 37] rfl
theorem k_X12_outputByte_1 : Cond.fieldLink RX12 410 "TicketGateModel" "outputLength" "I" ∈ wsX12_outputByte := List.mem_of_getElem? (i := 1) rfl
theorem k_X12_outputByte_2 : Cond.fieldLink RX12 42 "TicketGateModel" "output" "[B" ∈ wsX12_outputByte := List.mem_of_getElem? (i := 2) rfl
def f_X12_outputByte (m_thrown : Int32) (m_outputLength : Int32) (m_output : Nat → Int32) (v1 : Int32) : Option (Int32 × Int32) :=
  (f_X12_noNumber m_thrown v1 0 (m_outputLength - 1)).bind fun o1 =>
  if o1.1 = 0 then (
    (rd m_output 60 v1).bind fun x2 =>
    some (x2, o1.2))
  else (
    some (0, o1.2))
set_option maxRecDepth 100000 in
set_option maxHeartbeats 4000000 in
theorem c_X12_outputByte (l : Launch) {G : (Nat → Prop) → State → Heap → Prop} (hG : vG G) (D : va_G) (c9 : Nat → ClassId) (ad : Nat → Nat) (m_undoable : Int32) (m_undoStart : Int32) (m_thrown : Int32) (m_inputLength : Int32) (m_position : Int32) (m_start : Int32) (m_token : Int32) (m_value : Int32) (m_letters : Int32) (m_code : Int32) (m_place : Int32) (m_outputLength : Int32) (m_s : Nat → Int32) (m_parsed : Nat → Int32) (m_tried : Nat → Int32) (m_remembered : Nat → Int32) (m_slots : Nat → Int32) (m_kept : Nat → Int32) (m_away : Nat → Int32) (m_input : Nat → Int32) (m_halfway : Nat → Int32) (m_output : Nat → Int32) (v1 : Int32) {o : Int32 × Int32} (hf : f_X12_outputByte m_thrown m_outputLength m_output v1 = some o) : mI l yX12_outputByte wsX12_outputByte { frames := 2, cells := 0, slots := 0, locals := 45 } G D (tyA c9) [.ref (ad 0), .int v1] (wX12 ad c9 m_undoable m_undoStart m_thrown m_inputLength m_position m_start m_token m_value m_letters m_code m_place m_outputLength m_s m_parsed m_tried m_remembered m_slots m_kept m_away m_input m_halfway m_output) [] 0 0 o.1 (wX12 ad c9 m_undoable m_undoStart o.2 m_inputLength m_position m_start m_token m_value m_letters m_code m_place m_outputLength m_s m_parsed m_tried m_remembered m_slots m_kept m_away m_input m_halfway m_output) := by
  refine mI_of hG (cc := cX12_outputByte) (maxL := 2) (ty := .int) (by decide) rfl (Nat.le_of_ble_eq_true rfl) ?_
  intro p e s m args below meth c A X
  have X : vX p s m args meth c cX12_outputByte 2 (some .int) RX12 wsX12_outputByte D (tyA c9) G A := X
  refine v_eq (lv2 := [(0, .ref (ad 0)), (1, .int v1)]) rfl rfl rfl rfl ?_
  rw [f_X12_outputByte] at hf
  refine v_aload_n X dX12_outputByte_0 0 rfl rfl 1 rfl ?_
  refine v_iload_n X dX12_outputByte_1 1 rfl rfl 2 rfl ?_
  refine v_iconst X dX12_outputByte_2 ic_0 3 rfl ?_
  refine v_aload_n X dX12_outputByte_3 0 rfl rfl 4 rfl ?_
  refine v_get X (C := RX12) (T := TX12) (N := 22) (ci := 11) (v := _) dX12_outputByte_4 k_X12_outputByte_w12 0 rfl rfl 21 (by decide) k_X12_outputByte_1 rfl rfl 7 rfl ?_
  refine v_iconst X dX12_outputByte_7 ic_1 8 rfl ?_
  refine v_isub X dX12_outputByte_8 9 rfl ?_
  obtain ⟨o1, ho1, hf⟩ := bnd hf
  refine v_callVi X (ci := 11) (T := TX12) (C := RX12) (As := [.int v1, .int 0, .int (m_outputLength - 1)]) (rest := []) (ws' := (wX12 ad c9 m_undoable m_undoStart o1.2 m_inputLength m_position m_start m_token m_value m_letters m_code m_place m_outputLength m_s m_parsed m_tried m_remembered m_slots m_kept m_away m_input m_halfway m_output)) (c_X12_noNumber l hG D c9 ad m_undoable m_undoStart m_thrown m_inputLength m_position m_start m_token m_value m_letters m_code m_place m_outputLength m_s m_parsed m_tried m_remembered m_slots m_kept m_away m_input m_halfway m_output v1 0 (m_outputLength - 1) ho1) 3 gX12_outputByte_X12_noNumber rfl rfl rfl ⟨rfl, pd_X12_noNumber⟩ ⟨Nat.le_of_ble_eq_true rfl, Nat.le_of_ble_eq_true rfl⟩ 0 rfl rfl rfl rfl (Nat.le_of_ble_eq_true rfl) ⟨Nat.zero_le _, Nat.zero_le _⟩ [0, 1, 2, 3, 4, 5, 6, 7, 8, 9, 10] [] [0, 1, 2, 3, 4, 5, 6, 7, 8, 9, 10] rfl rfl rfl rfl dX12_outputByte_9 12 rfl ?_
  refine v_if_eq X (tgt := 17) dX12_outputByte_12 rfl 15 rfl hf (fun hf => ?_) (fun hf => ?_)
  · refine v_aload_n X dX12_outputByte_17 0 rfl rfl 18 rfl ?_
    refine v_get X (C := RX12) (T := TX12) (N := 22) (ci := 11) (v := _) dX12_outputByte_18 k_X12_outputByte_w12 0 rfl rfl 20 (by decide) k_X12_outputByte_2 rfl rfl 21 rfl ?_
    refine v_iload_n X dX12_outputByte_21 1 rfl rfl 22 rfl ?_
    obtain ⟨x2, hx2, hf⟩ := bnd hf
    refine v_bald X dX12_outputByte_22 10 2 rfl rfl hx2 23 rfl ?_
    cases hf
    exact v_iret X (Nat.zero_le _) (Nat.zero_le _) dX12_outputByte_23
  · refine v_iconst X dX12_outputByte_15 ic_0 16 rfl ?_
    cases hf
    exact v_iret X (Nat.zero_le _) (Nat.zero_le _) dX12_outputByte_16
theorem pd_X12_outputByte : yX12_outputByte.cls ≠ "java/lang/invoke/MethodHandle" ∧ yX12_outputByte.cls ≠ "java/lang/invoke/VarHandle" ∧ (parseMethodDescriptor yX12_outputByte.desc).map (fun d => d.parameters.length) = some 1 := by decide +kernel
