def f_X12_named (ga : Nat → Int32) (v1 : Int32) : Option (Int32) :=
  (f_X12_realmNamed ga v1).bind fun o1 =>
  if o1 = (-1) then (
    (f_X12_userNamed ga v1).bind fun o2 =>
    if o2 = (-1) then (
      (f_X12_serviceNamed ga v1).bind fun o3 =>
      if o3 = (-1) then (
        some ((-1)))
      else (
        some ((200 + o3))))
    else (
      some ((100 + o2))))
  else (
    some (o1))
set_option maxRecDepth 100000 in
set_option maxHeartbeats 4000000 in
theorem c_X12_named (l : Launch) {G : (Nat → Prop) → State → Heap → Prop} (hG : vG G) (D : va_G) (c9 : Nat → ClassId) (a_ga : Nat) (ga : Nat → Int32) (v1 : Int32) {o : Int32} (hf : f_X12_named ga v1 = some o) : mI l yX12_named wsX12_named { frames := 2, cells := 0, slots := 0, locals := 42 } G D (tyA c9) [.ref a_ga, .int v1] ([(a_ga, .inl (c9 0, 463, .inl ga))]) [] 0 0 o ([(a_ga, .inl (c9 0, 463, .inl ga))]) := by
  refine mI_of hG (cc := cX12_named) (maxL := 5) (ty := .int) (by decide) rfl (Nat.le_of_ble_eq_true rfl) ?_
  intro p e s m args below meth c A X
  have X : vX p s m args meth c cX12_named 5 (some .int) RX12 wsX12_named D (tyA c9) G A := X
  refine v_eq (lv2 := [(0, .ref a_ga), (1, .int v1)]) rfl rfl rfl rfl ?_
  rw [f_X12_named] at hf
  refine v_aload_n X dX12_named_0 0 rfl rfl 1 rfl ?_
  refine v_iload_n X dX12_named_1 1 rfl rfl 2 rfl ?_
  obtain ⟨o1, ho1, hf⟩ := bnd hf
  refine v_callSi X (As := [.ref a_ga, .int v1]) (rest := []) (ws' := ([(a_ga, .inl (c9 0, 463, .inl ga))])) (c_X12_realmNamed l hG D c9 a_ga ga v1 ho1) 2 gX12_named_X12_realmNamed rfl rfl rfl pd_X12_realmNamed ⟨Nat.le_of_ble_eq_true rfl, Nat.le_of_ble_eq_true rfl⟩ rfl rfl (Nat.le_of_ble_eq_true rfl) ⟨Nat.zero_le _, Nat.zero_le _⟩ [0] [] [0] rfl rfl rfl rfl dX12_named_2 5 rfl ?_
  refine v_istore_n X (lv' := [(2, .int o1), (0, .ref a_ga), (1, .int v1)]) dX12_named_5 rfl (by decide) rfl 6 rfl ?_
  refine v_iload_n X dX12_named_6 0 rfl rfl 7 rfl ?_
  refine v_iconst X dX12_named_7 ic_m1 8 rfl ?_
  refine v_icmp_eq X (tgt := 13) dX12_named_8 rfl 11 rfl hf (fun hf => ?_) (fun hf => ?_)
  · refine v_aload_n X dX12_named_13 1 rfl rfl 14 rfl ?_
    refine v_iload_n X dX12_named_14 2 rfl rfl 15 rfl ?_
    obtain ⟨o2, ho2, hf⟩ := bnd hf
    refine v_callSi X (As := [.ref a_ga, .int v1]) (rest := []) (ws' := ([(a_ga, .inl (c9 0, 463, .inl ga))])) (c_X12_userNamed l hG D c9 a_ga ga v1 ho2) 2 gX12_named_X12_userNamed rfl rfl rfl pd_X12_userNamed ⟨Nat.le_of_ble_eq_true rfl, Nat.le_of_ble_eq_true rfl⟩ rfl rfl (Nat.le_of_ble_eq_true rfl) ⟨Nat.zero_le _, Nat.zero_le _⟩ [0] [] [0] rfl rfl rfl rfl dX12_named_15 18 rfl ?_
    refine v_istore_n X (lv' := [(3, .int o2), (2, .int o1), (0, .ref a_ga), (1, .int v1)]) dX12_named_18 rfl (by decide) rfl 19 rfl ?_
    refine v_iload_n X dX12_named_19 0 rfl rfl 20 rfl ?_
    refine v_iconst X dX12_named_20 ic_m1 21 rfl ?_
    refine v_icmp_eq X (tgt := 29) dX12_named_21 rfl 24 rfl hf (fun hf => ?_) (fun hf => ?_)
    · refine v_aload_n X dX12_named_29 2 rfl rfl 30 rfl ?_
      refine v_iload_n X dX12_named_30 3 rfl rfl 31 rfl ?_
      obtain ⟨o3, ho3, hf⟩ := bnd hf
      refine v_callSi X (As := [.ref a_ga, .int v1]) (rest := []) (ws' := ([(a_ga, .inl (c9 0, 463, .inl ga))])) (c_X12_serviceNamed l hG D c9 a_ga ga v1 ho3) 2 gX12_named_X12_serviceNamed rfl rfl rfl pd_X12_serviceNamed ⟨Nat.le_of_ble_eq_true rfl, Nat.le_of_ble_eq_true rfl⟩ rfl rfl (Nat.le_of_ble_eq_true rfl) ⟨Nat.zero_le _, Nat.zero_le _⟩ [0] [] [0] rfl rfl rfl rfl dX12_named_31 34 rfl ?_
      refine v_istore X (lv' := [(4, .int o3), (3, .int o2), (2, .int o1), (0, .ref a_ga), (1, .int v1)]) dX12_named_34 (by decide) rfl 36 rfl ?_
      refine v_iload X dX12_named_36 0 rfl 38 rfl ?_
      refine v_iconst X dX12_named_38 ic_m1 39 rfl ?_
      refine v_icmp_ne X (tgt := 46) dX12_named_39 rfl 42 rfl hf (fun hf => ?_) (fun hf => ?_)
      · refine v_sipush X dX12_named_46 sp_200 49 rfl ?_
        refine v_iload X dX12_named_49 0 rfl 51 rfl ?_
        refine v_iadd X dX12_named_51 52 rfl ?_
        cases hf
        exact v_iret X (Nat.zero_le _) (Nat.zero_le _) dX12_named_52
      · refine v_iconst X dX12_named_42 ic_m1 43 rfl ?_
        refine v_goto X (tgt := 52) dX12_named_43 rfl ?_
        cases hf
        exact v_iret X (Nat.zero_le _) (Nat.zero_le _) dX12_named_52
    · refine v_bipush X dX12_named_24 bp_100 26 rfl ?_
      refine v_iload_n X dX12_named_26 0 rfl rfl 27 rfl ?_
      refine v_iadd X dX12_named_27 28 rfl ?_
      cases hf
      exact v_iret X (Nat.zero_le _) (Nat.zero_le _) dX12_named_28
  · refine v_iload_n X dX12_named_11 0 rfl rfl 12 rfl ?_
    cases hf
    exact v_iret X (Nat.zero_le _) (Nat.zero_le _) dX12_named_12
theorem pd_X12_named : yX12_named.cls ≠ "java/lang/invoke/MethodHandle" ∧ yX12_named.cls ≠ "java/lang/invoke/VarHandle" ∧ (parseMethodDescriptor yX12_named.desc).map (fun d => d.parameters.length) = some 2 := by decide +kernel
theorem k_X12_newName_w12 : ∀ w ∈ u_ws RX12 TX12 22, w ∈ wsX12_newName := in_r _ [60, 61, 62, 63, 64, 65, 66, 67, 68, 69, 70, 71, 72, 73, 74, 75, 76, 77, 78, 79, 80, 81] rfl
theorem k_X12_newName_1 : Cond.fieldLink RX12 185 "TicketGateModel" "token" "I" ∈ wsX12_newName := List.mem_of_getElem? (i := 1) rfl
theorem k_X12_newName_2 : Cond.fieldLink RX12 164 "TicketGateModel" "code" "I" ∈ wsX12_newName := List.mem_of_getElem? (i := 2) rfl
theorem k_X12_newName_3 : Cond.fieldLink RX12 176 "TicketGateModel" "start" "I" ∈ wsX12_newName := List.mem_of_getElem? (i := 3) rfl
theorem k_X12_newName_4 : Cond.fieldLink RX12 179 "TicketGateModel" "letters" "I" ∈ wsX12_newName := List.mem_of_getElem? (i := 4) rfl
theorem k_X12_newName_5 : Cond.fieldLink RX12 13 "TicketGateModel" "parsed" "[I" ∈ wsX12_newName := List.mem_of_getElem? (i := 5) rfl
def f_X12_newName (m_inputLength : Int32) (m_position : Int32) (m_start : Int32) (m_token : Int32) (m_value : Int32) (m_letters : Int32) (m_code : Int32) (m_place : Int32) (m_parsed : Nat → Int32) (m_input : Nat → Int32) : Option (Int32 × Int32 × Int32 × Int32 × Int32 × Int32 × Int32 × Int32) :=
  Option.bind (if m_token = 3 then (
    some (1))
  else (
    some (0)) : Option (Int32)) fun j1 =>
  (f_X12_check m_start m_code m_place j1 1).bind fun o2 =>
  Option.bind (if o2.2.1 = 0 then (
    (f_X12_nameFrom m_input m_start m_letters).bind fun o4 =>
    some (o4))
  else (
    some (0)) : Option (Int32)) fun j3 =>
  Option.bind (if j3 = (-1) then (
    some (0))
  else (
    some (1)) : Option (Int32)) fun j5 =>
  (f_X12_check m_start o2.2.1 o2.2.2 j5 2).bind fun o6 =>
  Option.bind (if o6.2.1 = 0 then (
    (f_X12_named m_parsed j3).bind fun o8 =>
    if o8 = (-1) then (
      some (1))
    else (
      some (0)))
  else (
    some (1)) : Option (Int32)) fun j7 =>
  (f_X12_check m_start o6.2.1 o6.2.2 j7 3).bind fun o9 =>
  (f_X12_next m_inputLength m_position m_start m_token m_value m_letters o9.2.1 m_input).bind fun o10 =>
  some (j3, o10.1, o10.2.1, o10.2.2.1, o10.2.2.2.1, o10.2.2.2.2, o9.2.1, o9.2.2)
set_option maxRecDepth 100000 in
set_option maxHeartbeats 4000000 in
theorem c_X12_newName (l : Launch) {G : (Nat → Prop) → State → Heap → Prop} (hG : vG G) (D : va_G) (c9 : Nat → ClassId) (ad : Nat → Nat) (m_undoable : Int32) (m_undoStart : Int32) (m_thrown : Int32) (m_inputLength : Int32) (m_position : Int32) (m_start : Int32) (m_token : Int32) (m_value : Int32) (m_letters : Int32) (m_code : Int32) (m_place : Int32) (m_outputLength : Int32) (m_s : Nat → Int32) (m_parsed : Nat → Int32) (m_tried : Nat → Int32) (m_remembered : Nat → Int32) (m_slots : Nat → Int32) (m_kept : Nat → Int32) (m_away : Nat → Int32) (m_input : Nat → Int32) (m_halfway : Nat → Int32) (m_output : Nat → Int32)  {o : Int32 × Int32 × Int32 × Int32 × Int32 × Int32 × Int32 × Int32} (hf : f_X12_newName m_inputLength m_position m_start m_token m_value m_letters m_code m_place m_parsed m_input = some o) : mI l yX12_newName wsX12_newName { frames := 4, cells := 0, slots := 0, locals := 83 } G D (tyA c9) [.ref (ad 0)] (wX12 ad c9 m_undoable m_undoStart m_thrown m_inputLength m_position m_start m_token m_value m_letters m_code m_place m_outputLength m_s m_parsed m_tried m_remembered m_slots m_kept m_away m_input m_halfway m_output) [] 0 0 o.1 (wX12 ad c9 m_undoable m_undoStart m_thrown m_inputLength o.2.1 o.2.2.1 o.2.2.2.1 o.2.2.2.2.1 o.2.2.2.2.2.1 o.2.2.2.2.2.2.1 o.2.2.2.2.2.2.2 m_outputLength m_s m_parsed m_tried m_remembered m_slots m_kept m_away m_input m_halfway m_output) := by
  refine mI_of hG (cc := cX12_newName) (maxL := 2) (ty := .int) (by decide) rfl (Nat.le_of_ble_eq_true rfl) ?_
  intro p e s m args below meth c A X
  have X : vX p s m args meth c cX12_newName 2 (some .int) RX12 wsX12_newName D (tyA c9) G A := X
  refine v_eq (lv2 := [(0, .ref (ad 0))]) rfl rfl rfl rfl ?_
  rw [f_X12_newName] at hf
  refine v_aload_n X dX12_newName_0 0 rfl rfl 1 rfl ?_
  refine v_aload_n X dX12_newName_1 0 rfl rfl 2 rfl ?_
  refine v_get X (C := RX12) (T := TX12) (N := 22) (ci := 11) (v := _) dX12_newName_2 k_X12_newName_w12 0 rfl rfl 14 (by decide) k_X12_newName_1 rfl rfl 5 rfl ?_
  refine v_iconst X dX12_newName_5 ic_3 6 rfl ?_
  obtain ⟨j1, hj1, hf⟩ := bnd hf
  have Jj1 : vW p l e { frames := 4, cells := 0, slots := 0, locals := 83 } s m args below meth c 2 D A [] 0 0 (MQ below (eI D (tyA c9) A o.1 ((wX12 ad c9 m_undoable m_undoStart m_thrown m_inputLength o.2.1 o.2.2.1 o.2.2.2.1 o.2.2.2.2.1 o.2.2.2.2.2.1 o.2.2.2.2.2.2.1 o.2.2.2.2.2.2.2 m_outputLength m_s m_parsed m_tried m_remembered m_slots m_kept m_away m_input m_halfway m_output) ++ [])) args s 0 0 A) (wX12 ad c9 m_undoable m_undoStart m_thrown m_inputLength m_position m_start m_token m_value m_letters m_code m_place m_outputLength m_s m_parsed m_tried m_remembered m_slots m_kept m_away m_input m_halfway m_output) 14 [(0, .ref (ad 0))] [.int j1, .ref (ad 0)] := by
    refine v_iconst X dX12_newName_14 ic_1 15 rfl ?_
    obtain ⟨o2, ho2, hf⟩ := bnd hf
    refine v_callVi X (ci := 11) (T := TX12) (C := RX12) (As := [.int j1, .int 1]) (rest := []) (ws' := (wX12 ad c9 m_undoable m_undoStart m_thrown m_inputLength m_position m_start m_token m_value m_letters o2.2.1 o2.2.2 m_outputLength m_s m_parsed m_tried m_remembered m_slots m_kept m_away m_input m_halfway m_output)) (c_X12_check l hG D c9 ad m_undoable m_undoStart m_thrown m_inputLength m_position m_start m_token m_value m_letters m_code m_place m_outputLength m_s m_parsed m_tried m_remembered m_slots m_kept m_away m_input m_halfway m_output j1 1 ho2) 2 gX12_newName_X12_check rfl rfl rfl ⟨rfl, pd_X12_check⟩ ⟨Nat.le_of_ble_eq_true rfl, Nat.le_of_ble_eq_true rfl⟩ 0 rfl rfl rfl rfl (Nat.le_of_ble_eq_true rfl) ⟨Nat.zero_le _, Nat.zero_le _⟩ [0, 1, 2, 3, 4, 5, 6, 7, 8, 9, 10] [] [0, 1, 2, 3, 4, 5, 6, 7, 8, 9, 10] rfl rfl rfl rfl dX12_newName_15 18 rfl ?_
    refine v_pop X dX12_newName_18 rfl 19 rfl ?_
    refine v_aload_n X dX12_newName_19 0 rfl rfl 20 rfl ?_
    refine v_get X (C := RX12) (T := TX12) (N := 22) (ci := 11) (v := _) dX12_newName_20 k_X12_newName_w12 0 rfl rfl 17 (by decide) k_X12_newName_2 rfl rfl 23 rfl ?_
    obtain ⟨j3, hj3, hf⟩ := bnd hf
    have Jj3 : vW p l e { frames := 4, cells := 0, slots := 0, locals := 83 } s m args below meth c 2 D A [] 0 0 (MQ below (eI D (tyA c9) A o.1 ((wX12 ad c9 m_undoable m_undoStart m_thrown m_inputLength o.2.1 o.2.2.1 o.2.2.2.1 o.2.2.2.2.1 o.2.2.2.2.2.1 o.2.2.2.2.2.2.1 o.2.2.2.2.2.2.2 m_outputLength m_s m_parsed m_tried m_remembered m_slots m_kept m_away m_input m_halfway m_output) ++ [])) args s 0 0 A) (wX12 ad c9 m_undoable m_undoStart m_thrown m_inputLength m_position m_start m_token m_value m_letters o2.2.1 o2.2.2 m_outputLength m_s m_parsed m_tried m_remembered m_slots m_kept m_away m_input m_halfway m_output) 42 [(0, .ref (ad 0))] [.int j3] := by
      refine v_istore_n X (lv' := [(1, .int j3), (0, .ref (ad 0))]) dX12_newName_42 rfl (by decide) rfl 43 rfl ?_
      refine v_aload_n X dX12_newName_43 1 rfl rfl 44 rfl ?_
      refine v_iload_n X dX12_newName_44 0 rfl rfl 45 rfl ?_
      refine v_iconst X dX12_newName_45 ic_m1 46 rfl ?_
      obtain ⟨j5, hj5, hf⟩ := bnd hf
      have Jj5 : vW p l e { frames := 4, cells := 0, slots := 0, locals := 83 } s m args below meth c 2 D A [] 0 0 (MQ below (eI D (tyA c9) A o.1 ((wX12 ad c9 m_undoable m_undoStart m_thrown m_inputLength o.2.1 o.2.2.1 o.2.2.2.1 o.2.2.2.2.1 o.2.2.2.2.2.1 o.2.2.2.2.2.2.1 o.2.2.2.2.2.2.2 m_outputLength m_s m_parsed m_tried m_remembered m_slots m_kept m_away m_input m_halfway m_output) ++ [])) args s 0 0 A) (wX12 ad c9 m_undoable m_undoStart m_thrown m_inputLength m_position m_start m_token m_value m_letters o2.2.1 o2.2.2 m_outputLength m_s m_parsed m_tried m_remembered m_slots m_kept m_away m_input m_halfway m_output) 54 [(0, .ref (ad 0)), (1, .int j3)] [.int j5, .ref (ad 0)] := by
        refine v_iconst X dX12_newName_54 ic_2 55 rfl ?_
        obtain ⟨o6, ho6, hf⟩ := bnd hf
        refine v_callVi X (ci := 11) (T := TX12) (C := RX12) (As := [.int j5, .int 2]) (rest := []) (ws' := (wX12 ad c9 m_undoable m_undoStart m_thrown m_inputLength m_position m_start m_token m_value m_letters o6.2.1 o6.2.2 m_outputLength m_s m_parsed m_tried m_remembered m_slots m_kept m_away m_input m_halfway m_output)) (c_X12_check l hG D c9 ad m_undoable m_undoStart m_thrown m_inputLength m_position m_start m_token m_value m_letters o2.2.1 o2.2.2 m_outputLength m_s m_parsed m_tried m_remembered m_slots m_kept m_away m_input m_halfway m_output j5 2 ho6) 2 gX12_newName_X12_check rfl rfl rfl ⟨rfl, pd_X12_check⟩ ⟨Nat.le_of_ble_eq_true rfl, Nat.le_of_ble_eq_true rfl⟩ 0 rfl rfl rfl rfl (Nat.le_of_ble_eq_true rfl) ⟨Nat.zero_le _, Nat.zero_le _⟩ [0, 1, 2, 3, 4, 5, 6, 7, 8, 9, 10] [] [0, 1, 2, 3, 4, 5, 6, 7, 8, 9, 10] rfl rfl rfl rfl dX12_newName_55 58 rfl ?_
        refine v_pop X dX12_newName_58 rfl 59 rfl ?_
        refine v_aload_n X dX12_newName_59 0 rfl rfl 60 rfl ?_
        refine v_aload_n X dX12_newName_60 0 rfl rfl 61 rfl ?_
        refine v_get X (C := RX12) (T := TX12) (N := 22) (ci := 11) (v := _) dX12_newName_61 k_X12_newName_w12 0 rfl rfl 17 (by decide) k_X12_newName_2 rfl rfl 64 rfl ?_
        obtain ⟨j7, hj7, hf⟩ := bnd hf
        have Jj7 : vW p l e { frames := 4, cells := 0, slots := 0, locals := 83 } s m args below meth c 2 D A [] 0 0 (MQ below (eI D (tyA c9) A o.1 ((wX12 ad c9 m_undoable m_undoStart m_thrown m_inputLength o.2.1 o.2.2.1 o.2.2.2.1 o.2.2.2.2.1 o.2.2.2.2.2.1 o.2.2.2.2.2.2.1 o.2.2.2.2.2.2.2 m_outputLength m_s m_parsed m_tried m_remembered m_slots m_kept m_away m_input m_halfway m_output) ++ [])) args s 0 0 A) (wX12 ad c9 m_undoable m_undoStart m_thrown m_inputLength m_position m_start m_token m_value m_letters o6.2.1 o6.2.2 m_outputLength m_s m_parsed m_tried m_remembered m_slots m_kept m_away m_input m_halfway m_output) 84 [(0, .ref (ad 0)), (1, .int j3)] [.int j7, .ref (ad 0)] := by
          refine v_iconst X dX12_newName_84 ic_3 85 rfl ?_
          obtain ⟨o9, ho9, hf⟩ := bnd hf
          refine v_callVi X (ci := 11) (T := TX12) (C := RX12) (As := [.int j7, .int 3]) (rest := []) (ws' := (wX12 ad c9 m_undoable m_undoStart m_thrown m_inputLength m_position m_start m_token m_value m_letters o9.2.1 o9.2.2 m_outputLength m_s m_parsed m_tried m_remembered m_slots m_kept m_away m_input m_halfway m_output)) (c_X12_check l hG D c9 ad m_undoable m_undoStart m_thrown m_inputLength m_position m_start m_token m_value m_letters o6.2.1 o6.2.2 m_outputLength m_s m_parsed m_tried m_remembered m_slots m_kept m_away m_input m_halfway m_output j7 3 ho9) 2 gX12_newName_X12_check rfl rfl rfl ⟨rfl, pd_X12_check⟩ ⟨Nat.le_of_ble_eq_true rfl, Nat.le_of_ble_eq_true rfl⟩ 0 rfl rfl rfl rfl (Nat.le_of_ble_eq_true rfl) ⟨Nat.zero_le _, Nat.zero_le _⟩ [0, 1, 2, 3, 4, 5, 6, 7, 8, 9, 10] [] [0, 1, 2, 3, 4, 5, 6, 7, 8, 9, 10] rfl rfl rfl rfl dX12_newName_85 88 rfl ?_
          refine v_pop X dX12_newName_88 rfl 89 rfl ?_
          refine v_aload_n X dX12_newName_89 0 rfl rfl 90 rfl ?_
          obtain ⟨o10, ho10, hf⟩ := bnd hf
          refine v_callVv X (ci := 11) (T := TX12) (C := RX12) (As := []) (rest := []) (ws' := (wX12 ad c9 m_undoable m_undoStart m_thrown m_inputLength o10.1 o10.2.1 o10.2.2.1 o10.2.2.2.1 o10.2.2.2.2 o9.2.1 o9.2.2 m_outputLength m_s m_parsed m_tried m_remembered m_slots m_kept m_away m_input m_halfway m_output)) (c_X12_next l hG D c9 ad m_undoable m_undoStart m_thrown m_inputLength m_position m_start m_token m_value m_letters o9.2.1 o9.2.2 m_outputLength m_s m_parsed m_tried m_remembered m_slots m_kept m_away m_input m_halfway m_output ho10) 0 gX12_newName_X12_next rfl rfl rfl ⟨rfl, pd_X12_next⟩ ⟨Nat.le_of_ble_eq_true rfl, Nat.le_of_ble_eq_true rfl⟩ 0 rfl rfl rfl rfl (Nat.le_of_ble_eq_true rfl) ⟨Nat.zero_le _, Nat.zero_le _⟩ [0, 1, 2, 3, 4, 5, 6, 7, 8, 9, 10] [] [0, 1, 2, 3, 4, 5, 6, 7, 8, 9, 10] rfl rfl rfl rfl dX12_newName_90 93 rfl ?_
          refine v_iload_n X dX12_newName_93 1 rfl rfl 94 rfl ?_
          cases hf
          exact v_iret X (Nat.zero_le _) (Nat.zero_le _) dX12_newName_94
        clear hf
        refine v_if_ne X (tgt := 79) dX12_newName_64 rfl 67 rfl hj7 (fun hf => ?_) (fun hf => ?_)
        · refine v_iconst X dX12_newName_79 ic_1 80 rfl ?_
          refine v_goto X (tgt := 84) dX12_newName_80 rfl ?_
          cases hf
          exact Jj7
        · refine v_aload_n X dX12_newName_67 0 rfl rfl 68 rfl ?_
          refine v_get X (C := RX12) (T := TX12) (N := 22) (ci := 11) (v := _) dX12_newName_68 k_X12_newName_w12 0 rfl rfl 1 (by decide) k_X12_newName_5 rfl rfl 71 rfl ?_
          refine v_iload_n X dX12_newName_71 1 rfl rfl 72 rfl ?_
          obtain ⟨o8, ho8, hf⟩ := bnd hf
          refine v_callSi X (As := [.ref (ad 2), .int j3]) (rest := [.ref (ad 0)]) (ws' := (wX12 ad c9 m_undoable m_undoStart m_thrown m_inputLength m_position m_start m_token m_value m_letters o6.2.1 o6.2.2 m_outputLength m_s m_parsed m_tried m_remembered m_slots m_kept m_away m_input m_halfway m_output)) (c_X12_named l hG D c9 (ad 2) m_parsed j3 ho8) 2 gX12_newName_X12_named rfl rfl rfl pd_X12_named ⟨Nat.le_of_ble_eq_true rfl, Nat.le_of_ble_eq_true rfl⟩ rfl rfl (Nat.le_of_ble_eq_true rfl) ⟨Nat.zero_le _, Nat.zero_le _⟩ [2] [0, 1, 3, 4, 5, 6, 7, 8, 9, 10] [0, 1, 10, 2, 3, 4, 5, 6, 7, 8, 9] rfl rfl rfl rfl dX12_newName_72 75 rfl ?_
          refine v_iconst X dX12_newName_75 ic_m1 76 rfl ?_
          refine v_icmp_ne X (tgt := 83) dX12_newName_76 rfl 79 rfl hf (fun hf => ?_) (fun hf => ?_)
          · refine v_iconst X dX12_newName_83 ic_0 84 rfl ?_
            cases hf
            exact Jj7
          · refine v_iconst X dX12_newName_79 ic_1 80 rfl ?_
            refine v_goto X (tgt := 84) dX12_newName_80 rfl ?_
            cases hf
            exact Jj7
      clear hf
      refine v_icmp_eq X (tgt := 53) dX12_newName_46 rfl 49 rfl hj5 (fun hf => ?_) (fun hf => ?_)
      · refine v_iconst X dX12_newName_53 ic_0 54 rfl ?_
        cases hf
        refine v_sub (lv' := [(0, .ref (ad 0)), (1, .int j3)]) [1, 0] rfl ?_
        exact Jj5
      · refine v_iconst X dX12_newName_49 ic_1 50 rfl ?_
        refine v_goto X (tgt := 54) dX12_newName_50 rfl ?_
        cases hf
        refine v_sub (lv' := [(0, .ref (ad 0)), (1, .int j3)]) [1, 0] rfl ?_
        exact Jj5
    clear hf
    refine v_if_ne X (tgt := 41) dX12_newName_23 rfl 26 rfl hj3 (fun hf => ?_) (fun hf => ?_)
    · refine v_iconst X dX12_newName_41 ic_0 42 rfl ?_
      cases hf
      exact Jj3
    · refine v_aload_n X dX12_newName_26 0 rfl rfl 27 rfl ?_
      refine v_aload_n X dX12_newName_27 0 rfl rfl 28 rfl ?_
      refine v_get X (C := RX12) (T := TX12) (N := 22) (ci := 11) (v := _) dX12_newName_28 k_X12_newName_w12 0 rfl rfl 13 (by decide) k_X12_newName_3 rfl rfl 31 rfl ?_
      refine v_aload_n X dX12_newName_31 0 rfl rfl 32 rfl ?_
      refine v_get X (C := RX12) (T := TX12) (N := 22) (ci := 11) (v := _) dX12_newName_32 k_X12_newName_w12 0 rfl rfl 16 (by decide) k_X12_newName_4 rfl rfl 35 rfl ?_
      obtain ⟨o4, ho4, hf⟩ := bnd hf
      refine v_callVi X (ci := 11) (T := TX12) (C := RX12) (As := [.int m_start, .int m_letters]) (rest := []) (ws' := (wX12 ad c9 m_undoable m_undoStart m_thrown m_inputLength m_position m_start m_token m_value m_letters o2.2.1 o2.2.2 m_outputLength m_s m_parsed m_tried m_remembered m_slots m_kept m_away m_input m_halfway m_output)) (c_X12_nameFrom l hG D c9 ad m_undoable m_undoStart m_thrown m_inputLength m_position m_start m_token m_value m_letters o2.2.1 o2.2.2 m_outputLength m_s m_parsed m_tried m_remembered m_slots m_kept m_away m_input m_halfway m_output m_start m_letters ho4) 2 gX12_newName_X12_nameFrom rfl rfl rfl ⟨rfl, pd_X12_nameFrom⟩ ⟨Nat.le_of_ble_eq_true rfl, Nat.le_of_ble_eq_true rfl⟩ 0 rfl rfl rfl rfl (Nat.le_of_ble_eq_true rfl) ⟨Nat.zero_le _, Nat.zero_le _⟩ [0, 1, 2, 3, 4, 5, 6, 7, 8, 9, 10] [] [0, 1, 2, 3, 4, 5, 6, 7, 8, 9, 10] rfl rfl rfl rfl dX12_newName_35 38 rfl ?_
      refine v_goto X (tgt := 42) dX12_newName_38 rfl ?_
      cases hf
      exact Jj3
  clear hf
  refine v_icmp_ne X (tgt := 13) dX12_newName_6 rfl 9 rfl hj1 (fun hf => ?_) (fun hf => ?_)
  · refine v_iconst X dX12_newName_13 ic_0 14 rfl ?_
    cases hf
    exact Jj1
  · refine v_iconst X dX12_newName_9 ic_1 10 rfl ?_
    refine v_goto X (tgt := 14) dX12_newName_10 rfl ?_
    cases hf
    exact Jj1
theorem pd_X12_newName : yX12_newName.cls ≠ "java/lang/invoke/MethodHandle" ∧ yX12_newName.cls ≠ "java/lang/invoke/VarHandle" ∧ (parseMethodDescriptor yX12_newName.desc).map (fun d => d.parameters.length) = some 0 := by decide +kernel
theorem k_X12_nameHere_w12 : ∀ w ∈ u_ws RX12 TX12 22, w ∈ wsX12_nameHere := in_r _ [22, 23, 24, 25, 26, 27, 28, 29, 30, 31, 32, 33, 34, 35, 36, 37, 38, 39, 40, 41, 42, 43] rfl
theorem k_X12_nameHere_1 : Cond.fieldLink RX12 185 "TicketGateModel" "token" "I" ∈ wsX12_nameHere := List.mem_of_getElem? (i := 1) rfl
theorem k_X12_nameHere_2 : Cond.fieldLink RX12 164 "TicketGateModel" "code" "I" ∈ wsX12_nameHere := List.mem_of_getElem? (i := 2) rfl
theorem k_X12_nameHere_3 : Cond.fieldLink RX12 176 "TicketGateModel" "start" "I" ∈ wsX12_nameHere := List.mem_of_getElem? (i := 3) rfl
theorem k_X12_nameHere_4 : Cond.fieldLink RX12 179 "TicketGateModel" "letters" "I" ∈ wsX12_nameHere := List.mem_of_getElem? (i := 4) rfl
def f_X12_nameHere (m_start : Int32) (m_token : Int32) (m_letters : Int32) (m_code : Int32) (m_place : Int32) (m_input : Nat → Int32) : Option (Int32 × Int32 × Int32) :=
  Option.bind (if m_token = 3 then (
    some (1))
  else (
    some (0)) : Option (Int32)) fun j1 =>
  (f_X12_check m_start m_code m_place j1 1).bind fun o2 =>
  if o2.2.1 = 0 then (
    (f_X12_nameFrom m_input m_start m_letters).bind fun o3 =>
    some (o3, o2.2.1, o2.2.2))
  else (
    some (0, o2.2.1, o2.2.2))
set_option maxRecDepth 100000 in
set_option maxHeartbeats 4000000 in
theorem c_X12_nameHere (l : Launch) {G : (Nat → Prop) → State → Heap → Prop} (hG : vG G) (D : va_G) (c9 : Nat → ClassId) (ad : Nat → Nat) (m_undoable : Int32) (m_undoStart : Int32) (m_thrown : Int32) (m_inputLength : Int32) (m_position : Int32) (m_start : Int32) (m_token : Int32) (m_value : Int32) (m_letters : Int32) (m_code : Int32) (m_place : Int32) (m_outputLength : Int32) (m_s : Nat → Int32) (m_parsed : Nat → Int32) (m_tried : Nat → Int32) (m_remembered : Nat → Int32) (m_slots : Nat → Int32) (m_kept : Nat → Int32) (m_away : Nat → Int32) (m_input : Nat → Int32) (m_halfway : Nat → Int32) (m_output : Nat → Int32)  {o : Int32 × Int32 × Int32} (hf : f_X12_nameHere m_start m_token m_letters m_code m_place m_input = some o) : mI l yX12_nameHere wsX12_nameHere { frames := 3, cells := 0, slots := 0, locals := 66 } G D (tyA c9) [.ref (ad 0)] (wX12 ad c9 m_undoable m_undoStart m_thrown m_inputLength m_position m_start m_token m_value m_letters m_code m_place m_outputLength m_s m_parsed m_tried m_remembered m_slots m_kept m_away m_input m_halfway m_output) [] 0 0 o.1 (wX12 ad c9 m_undoable m_undoStart m_thrown m_inputLength m_position m_start m_token m_value m_letters o.2.1 o.2.2 m_outputLength m_s m_parsed m_tried m_remembered m_slots m_kept m_away m_input m_halfway m_output) := by
  refine mI_of hG (cc := cX12_nameHere) (maxL := 1) (ty := .int) (by decide) rfl (Nat.le_of_ble_eq_true rfl) ?_
  intro p e s m args below meth c A X
  have X : vX p s m args meth c cX12_nameHere 1 (some .int) RX12 wsX12_nameHere D (tyA c9) G A := X
  refine v_eq (lv2 := [(0, .ref (ad 0))]) rfl rfl rfl rfl ?_
  rw [f_X12_nameHere] at hf
  refine v_aload_n X dX12_nameHere_0 0 rfl rfl 1 rfl ?_
  refine v_aload_n X dX12_nameHere_1 0 rfl rfl 2 rfl ?_
  refine v_get X (C := RX12) (T := TX12) (N := 22) (ci := 11) (v := _) dX12_nameHere_2 k_X12_nameHere_w12 0 rfl rfl 14 (by decide) k_X12_nameHere_1 rfl rfl 5 rfl ?_
  refine v_iconst X dX12_nameHere_5 ic_3 6 rfl ?_
  obtain ⟨j1, hj1, hf⟩ := bnd hf
  have Jj1 : vW p l e { frames := 3, cells := 0, slots := 0, locals := 66 } s m args below meth c 1 D A [] 0 0 (MQ below (eI D (tyA c9) A o.1 ((wX12 ad c9 m_undoable m_undoStart m_thrown m_inputLength m_position m_start m_token m_value m_letters o.2.1 o.2.2 m_outputLength m_s m_parsed m_tried m_remembered m_slots m_kept m_away m_input m_halfway m_output) ++ [])) args s 0 0 A) (wX12 ad c9 m_undoable m_undoStart m_thrown m_inputLength m_position m_start m_token m_value m_letters m_code m_place m_outputLength m_s m_parsed m_tried m_remembered m_slots m_kept m_away m_input m_halfway m_output) 14 [(0, .ref (ad 0))] [.int j1, .ref (ad 0)] := by
    refine v_iconst X dX12_nameHere_14 ic_1 15 rfl ?_
    obtain ⟨o2, ho2, hf⟩ := bnd hf
    refine v_callVi X (ci := 11) (T := TX12) (C := RX12) (As := [.int j1, .int 1]) (rest := []) (ws' := (wX12 ad c9 m_undoable m_undoStart m_thrown m_inputLength m_position m_start m_token m_value m_letters o2.2.1 o2.2.2 m_outputLength m_s m_parsed m_tried m_remembered m_slots m_kept m_away m_input m_halfway m_output)) (c_X12_check l hG D c9 ad m_undoable m_undoStart m_thrown m_inputLength m_position m_start m_token m_value m_letters m_code m_place m_outputLength m_s m_parsed m_tried m_remembered m_slots m_kept m_away m_input m_halfway m_output j1 1 ho2) 2 gX12_nameHere_X12_check rfl rfl rfl ⟨rfl, pd_X12_check⟩ ⟨Nat.le_of_ble_eq_true rfl, Nat.le_of_ble_eq_true rfl⟩ 0 rfl rfl rfl rfl (Nat.le_of_ble_eq_true rfl) ⟨Nat.zero_le _, Nat.zero_le _⟩ [0, 1, 2, 3, 4, 5, 6, 7, 8, 9, 10] [] [0, 1, 2, 3, 4, 5, 6, 7, 8, 9, 10] rfl rfl rfl rfl dX12_nameHere_15 18 rfl ?_
    refine v_pop X dX12_nameHere_18 rfl 19 rfl ?_
    refine v_aload_n X dX12_nameHere_19 0 rfl rfl 20 rfl ?_
    refine v_get X (C := RX12) (T := TX12) (N := 22) (ci := 11) (v := _) dX12_nameHere_20 k_X12_nameHere_w12 0 rfl rfl 17 (by decide) k_X12_nameHere_2 rfl rfl 23 rfl ?_
    refine v_if_ne X (tgt := 41) dX12_nameHere_23 rfl 26 rfl hf (fun hf => ?_) (fun hf => ?_)
    · refine v_iconst X dX12_nameHere_41 ic_0 42 rfl ?_
      cases hf
      exact v_iret X (Nat.zero_le _) (Nat.zero_le _) dX12_nameHere_42
    · refine v_aload_n X dX12_nameHere_26 0 rfl rfl 27 rfl ?_
      refine v_aload_n X dX12_nameHere_27 0 rfl rfl 28 rfl ?_
      refine v_get X (C := RX12) (T := TX12) (N := 22) (ci := 11) (v := _) dX12_nameHere_28 k_X12_nameHere_w12 0 rfl rfl 13 (by decide) k_X12_nameHere_3 rfl rfl 31 rfl ?_
      refine v_aload_n X dX12_nameHere_31 0 rfl rfl 32 rfl ?_
      refine v_get X (C := RX12) (T := TX12) (N := 22) (ci := 11) (v := _) dX12_nameHere_32 k_X12_nameHere_w12 0 rfl rfl 16 (by decide) k_X12_nameHere_4 rfl rfl 35 rfl ?_
      obtain ⟨o3, ho3, hf⟩ := bnd hf
      refine v_callVi X (ci := 11) (T := TX12) (C := RX12) (As := [.int m_start, .int m_letters]) (rest := []) (ws' := (wX12 ad c9 m_undoable m_undoStart m_thrown m_inputLength m_position m_start m_token m_value m_letters o2.2.1 o2.2.2 m_outputLength m_s m_parsed m_tried m_remembered m_slots m_kept m_away m_input m_halfway m_output)) (c_X12_nameFrom l hG D c9 ad m_undoable m_undoStart m_thrown m_inputLength m_position m_start m_token m_value m_letters o2.2.1 o2.2.2 m_outputLength m_s m_parsed m_tried m_remembered m_slots m_kept m_away m_input m_halfway m_output m_start m_letters ho3) 2 gX12_nameHere_X12_nameFrom rfl rfl rfl ⟨rfl, pd_X12_nameFrom⟩ ⟨Nat.le_of_ble_eq_true rfl, Nat.le_of_ble_eq_true rfl⟩ 0 rfl rfl rfl rfl (Nat.le_of_ble_eq_true rfl) ⟨Nat.zero_le _, Nat.zero_le _⟩ [0, 1, 2, 3, 4, 5, 6, 7, 8, 9, 10] [] [0, 1, 2, 3, 4, 5, 6, 7, 8, 9, 10] rfl rfl rfl rfl dX12_nameHere_35 38 rfl ?_
      refine v_goto X (tgt := 42) dX12_nameHere_38 rfl ?_
      cases hf
      exact v_iret X (Nat.zero_le _) (Nat.zero_le _) dX12_nameHere_42
  clear hf
  refine v_icmp_ne X (tgt := 13) dX12_nameHere_6 rfl 9 rfl hj1 (fun hf => ?_) (fun hf => ?_)
  · refine v_iconst X dX12_nameHere_13 ic_0 14 rfl ?_
    cases hf
    exact Jj1
  · refine v_iconst X dX12_nameHere_9 ic_1 10 rfl ?_
    refine v_goto X (tgt := 14) dX12_nameHere_10 rfl ?_
    cases hf
    exact Jj1
theorem pd_X12_nameHere : yX12_nameHere.cls ≠ "java/lang/invoke/MethodHandle" ∧ yX12_nameHere.cls ≠ "java/lang/invoke/VarHandle" ∧ (parseMethodDescriptor yX12_nameHere.desc).map (fun d => d.parameters.length) = some 0 := by decide +kernel
theorem k_X12_exists_w12 : ∀ w ∈ u_ws RX12 TX12 22, w ∈ wsX12_exists := in_r _ [34, 35, 36, 37, 38, 39, 40, 41, 42, 43, 44, 45, 46, 47, 48, 49, 50, 51, 52, 53, 54, 55] rfl
theorem k_X12_exists_1 : Cond.fieldLink RX12 164 "TicketGateModel" "code" "I" ∈ wsX12_exists := List.mem_of_getElem? (i := 1) rfl
def f_X12_exists (m_inputLength : Int32) (m_position : Int32) (m_start : Int32) (m_token : Int32) (m_value : Int32) (m_letters : Int32) (m_code : Int32) (m_place : Int32) (m_input : Nat → Int32) (v1 : Int32) : Option (Int32 × Int32 × Int32 × Int32 × Int32 × Int32 × Int32 × Int32) :=
  Option.bind (if m_code = 0 then (
    if v1 = (-1) then (
      some (0))
    else (
      some (1)))
  else (
    some (1)) : Option (Int32)) fun j1 =>
  (f_X12_check m_start m_code m_place j1 4).bind fun o2 =>
  (f_X12_next m_inputLength m_position m_start m_token m_value m_letters o2.2.1 m_input).bind fun o3 =>
  if o2.2.1 = 0 then (
    some (v1, o3.1, o3.2.1, o3.2.2.1, o3.2.2.2.1, o3.2.2.2.2, o2.2.1, o2.2.2))
  else (
    some (0, o3.1, o3.2.1, o3.2.2.1, o3.2.2.2.1, o3.2.2.2.2, o2.2.1, o2.2.2))
set_option maxRecDepth 100000 in
set_option maxHeartbeats 4000000 in
theorem c_X12_exists (l : Launch) {G : (Nat → Prop) → State → Heap → Prop} (hG : vG G) (D : va_G) (c9 : Nat → ClassId) (ad : Nat → Nat) (m_undoable : Int32) (m_undoStart : Int32) (m_thrown : Int32) (m_inputLength : Int32) (m_position : Int32) (m_start : Int32) (m_token : Int32) (m_value : Int32) (m_letters : Int32) (m_code : Int32) (m_place : Int32) (m_outputLength : Int32) (m_s : Nat → Int32) (m_parsed : Nat → Int32) (m_tried : Nat → Int32) (m_remembered : Nat → Int32) (m_slots : Nat → Int32) (m_kept : Nat → Int32) (m_away : Nat → Int32) (m_input : Nat → Int32) (m_halfway : Nat → Int32) (m_output : Nat → Int32) (v1 : Int32) {o : Int32 × Int32 × Int32 × Int32 × Int32 × Int32 × Int32 × Int32} (hf : f_X12_exists m_inputLength m_position m_start m_token m_value m_letters m_code m_place m_input v1 = some o) : mI l yX12_exists wsX12_exists { frames := 4, cells := 0, slots := 0, locals := 83 } G D (tyA c9) [.ref (ad 0), .int v1] (wX12 ad c9 m_undoable m_undoStart m_thrown m_inputLength m_position m_start m_token m_value m_letters m_code m_place m_outputLength m_s m_parsed m_tried m_remembered m_slots m_kept m_away m_input m_halfway m_output) [] 0 0 o.1 (wX12 ad c9 m_undoable m_undoStart m_thrown m_inputLength o.2.1 o.2.2.1 o.2.2.2.1 o.2.2.2.2.1 o.2.2.2.2.2.1 o.2.2.2.2.2.2.1 o.2.2.2.2.2.2.2 m_outputLength m_s m_parsed m_tried m_remembered m_slots m_kept m_away m_input m_halfway m_output) := by
  refine mI_of hG (cc := cX12_exists) (maxL := 2) (ty := .int) (by decide) rfl (Nat.le_of_ble_eq_true rfl) ?_
  intro p e s m args below meth c A X
  have X : vX p s m args meth c cX12_exists 2 (some .int) RX12 wsX12_exists D (tyA c9) G A := X
  refine v_eq (lv2 := [(0, .ref (ad 0)), (1, .int v1)]) rfl rfl rfl rfl ?_
  rw [f_X12_exists] at hf
  refine v_aload_n X dX12_exists_0 0 rfl rfl 1 rfl ?_
  refine v_aload_n X dX12_exists_1 0 rfl rfl 2 rfl ?_
  refine v_get X (C := RX12) (T := TX12) (N := 22) (ci := 11) (v := _) dX12_exists_2 k_X12_exists_w12 0 rfl rfl 17 (by decide) k_X12_exists_1 rfl rfl 5 rfl ?_
  obtain ⟨j1, hj1, hf⟩ := bnd hf
  have Jj1 : vW p l e { frames := 4, cells := 0, slots := 0, locals := 83 } s m args below meth c 2 D A [] 0 0 (MQ below (eI D (tyA c9) A o.1 ((wX12 ad c9 m_undoable m_undoStart m_thrown m_inputLength o.2.1 o.2.2.1 o.2.2.2.1 o.2.2.2.2.1 o.2.2.2.2.2.1 o.2.2.2.2.2.2.1 o.2.2.2.2.2.2.2 m_outputLength m_s m_parsed m_tried m_remembered m_slots m_kept m_away m_input m_halfway m_output) ++ [])) args s 0 0 A) (wX12 ad c9 m_undoable m_undoStart m_thrown m_inputLength m_position m_start m_token m_value m_letters m_code m_place m_outputLength m_s m_parsed m_tried m_remembered m_slots m_kept m_away m_input m_halfway m_output) 18 [(0, .ref (ad 0)), (1, .int v1)] [.int j1, .ref (ad 0)] := by
    refine v_iconst X dX12_exists_18 ic_4 19 rfl ?_
    obtain ⟨o2, ho2, hf⟩ := bnd hf
    refine v_callVi X (ci := 11) (T := TX12) (C := RX12) (As := [.int j1, .int 4]) (rest := []) (ws' := (wX12 ad c9 m_undoable m_undoStart m_thrown m_inputLength m_position m_start m_token m_value m_letters o2.2.1 o2.2.2 m_outputLength m_s m_parsed m_tried m_remembered m_slots m_kept m_away m_input m_halfway m_output)) (c_X12_check l hG D c9 ad m_undoable m_undoStart m_thrown m_inputLength m_position m_start m_token m_value m_letters m_code m_place m_outputLength m_s m_parsed m_tried m_remembered m_slots m_kept m_away m_input m_halfway m_output j1 4 ho2) 2 gX12_exists_X12_check rfl rfl rfl ⟨rfl, pd_X12_check⟩ ⟨Nat.le_of_ble_eq_true rfl, Nat.le_of_ble_eq_true rfl⟩ 0 rfl rfl rfl rfl (Nat.le_of_ble_eq_true rfl) ⟨Nat.zero_le _, Nat.zero_le _⟩ [0, 1, 2, 3, 4, 5, 6, 7, 8, 9, 10] [] [0, 1, 2, 3, 4, 5, 6, 7, 8, 9, 10] rfl rfl rfl rfl dX12_exists_19 22 rfl ?_
    refine v_pop X dX12_exists_22 rfl 23 rfl ?_
    refine v_aload_n X dX12_exists_23 0 rfl rfl 24 rfl ?_
    obtain ⟨o3, ho3, hf⟩ := bnd hf
    refine v_callVv X (ci := 11) (T := TX12) (C := RX12) (As := []) (rest := []) (ws' := (wX12 ad c9 m_undoable m_undoStart m_thrown m_inputLength o3.1 o3.2.1 o3.2.2.1 o3.2.2.2.1 o3.2.2.2.2 o2.2.1 o2.2.2 m_outputLength m_s m_parsed m_tried m_remembered m_slots m_kept m_away m_input m_halfway m_output)) (c_X12_next l hG D c9 ad m_undoable m_undoStart m_thrown m_inputLength m_position m_start m_token m_value m_letters o2.2.1 o2.2.2 m_outputLength m_s m_parsed m_tried m_remembered m_slots m_kept m_away m_input m_halfway m_output ho3) 0 gX12_exists_X12_next rfl rfl rfl ⟨rfl, pd_X12_next⟩ ⟨Nat.le_of_ble_eq_true rfl, Nat.le_of_ble_eq_true rfl⟩ 0 rfl rfl rfl rfl (Nat.le_of_ble_eq_true rfl) ⟨Nat.zero_le _, Nat.zero_le _⟩ [0, 1, 2, 3, 4, 5, 6, 7, 8, 9, 10] [] [0, 1, 2, 3, 4, 5, 6, 7, 8, 9, 10] rfl rfl rfl rfl dX12_exists_24 27 rfl ?_
    refine v_aload_n X dX12_exists_27 0 rfl rfl 28 rfl ?_
    refine v_get X (C := RX12) (T := TX12) (N := 22) (ci := 11) (v := _) dX12_exists_28 k_X12_exists_w12 0 rfl rfl 17 (by decide) k_X12_exists_1 rfl rfl 31 rfl ?_
    refine v_if_ne X (tgt := 38) dX12_exists_31 rfl 34 rfl hf (fun hf => ?_) (fun hf => ?_)
    · refine v_iconst X dX12_exists_38 ic_0 39 rfl ?_
      cases hf
      exact v_iret X (Nat.zero_le _) (Nat.zero_le _) dX12_exists_39
    · refine v_iload_n X dX12_exists_34 1 rfl rfl 35 rfl ?_
      refine v_goto X (tgt := 39) dX12_exists_35 rfl ?_
      cases hf
      exact v_iret X (Nat.zero_le _) (Nat.zero_le _) dX12_exists_39
  clear hf
  refine v_if_ne X (tgt := 13) dX12_exists_5 rfl 8 rfl hj1 (fun hf => ?_) (fun hf => ?_)
  · refine v_iconst X dX12_exists_13 ic_1 14 rfl ?_
    refine v_goto X (tgt := 18) dX12_exists_14 rfl ?_
    cases hf
    exact Jj1
  · refine v_iload_n X dX12_exists_8 1 rfl rfl 9 rfl ?_
    refine v_iconst X dX12_exists_9 ic_m1 10 rfl ?_
    refine v_icmp_eq X (tgt := 17) dX12_exists_10 rfl 13 rfl hf (fun hf => ?_) (fun hf => ?_)
    · refine v_iconst X dX12_exists_17 ic_0 18 rfl ?_
      cases hf
      exact Jj1
    · refine v_iconst X dX12_exists_13 ic_1 14 rfl ?_
      refine v_goto X (tgt := 18) dX12_exists_14 rfl ?_
      cases hf
      exact Jj1
theorem pd_X12_exists : yX12_exists.cls ≠ "java/lang/invoke/MethodHandle" ∧ yX12_exists.cls ≠ "java/lang/invoke/VarHandle" ∧ (parseMethodDescriptor yX12_exists.desc).map (fun d => d.parameters.length) = some 1 := by decide +kernel
theorem k_X12_realmHere_w12 : ∀ w ∈ u_ws RX12 TX12 22, w ∈ wsX12_realmHere := in_r _ [53, 54, 55, 56, 57, 58, 59, 60, 61, 62, 63, 64, 65, 66, 67, 68, 69, 70, 71, 72, 73, 74] rfl
theorem k_X12_realmHere_1 : Cond.fieldLink RX12 13 "TicketGateModel" "parsed" "[I" ∈ wsX12_realmHere := List.mem_of_getElem? (i := 1) rfl
def f_X12_realmHere (m_inputLength : Int32) (m_position : Int32) (m_start : Int32) (m_token : Int32) (m_value : Int32) (m_letters : Int32) (m_code : Int32) (m_place : Int32) (m_parsed : Nat → Int32) (m_input : Nat → Int32) : Option (Int32 × Int32 × Int32 × Int32 × Int32 × Int32 × Int32 × Int32) :=
  (f_X12_nameHere m_start m_token m_letters m_code m_place m_input).bind fun o1 =>
  (f_X12_realmNamed m_parsed o1.1).bind fun o2 =>
  (f_X12_exists m_inputLength m_position m_start m_token m_value m_letters o1.2.1 o1.2.2 m_input o2).bind fun o3 =>
  some (o3.1, o3.2.1, o3.2.2.1, o3.2.2.2.1, o3.2.2.2.2.1, o3.2.2.2.2.2.1, o3.2.2.2.2.2.2.1, o3.2.2.2.2.2.2.2)
set_option maxRecDepth 100000 in
set_option maxHeartbeats 4000000 in
theorem c_X12_realmHere (l : Launch) {G : (Nat → Prop) → State → Heap → Prop} (hG : vG G) (D : va_G) (c9 : Nat → ClassId) (ad : Nat → Nat) (m_undoable : Int32) (m_undoStart : Int32) (m_thrown : Int32) (m_inputLength : Int32) (m_position : Int32) (m_start : Int32) (m_token : Int32) (m_value : Int32) (m_letters : Int32) (m_code : Int32) (m_place : Int32) (m_outputLength : Int32) (m_s : Nat → Int32) (m_parsed : Nat → Int32) (m_tried : Nat → Int32) (m_remembered : Nat → Int32) (m_slots : Nat → Int32) (m_kept : Nat → Int32) (m_away : Nat → Int32) (m_input : Nat → Int32) (m_halfway : Nat → Int32) (m_output : Nat → Int32)  {o : Int32 × Int32 × Int32 × Int32 × Int32 × Int32 × Int32 × Int32} (hf : f_X12_realmHere m_inputLength m_position m_start m_token m_value m_letters m_code m_place m_parsed m_input = some o) : mI l yX12_realmHere wsX12_realmHere { frames := 5, cells := 0, slots := 0, locals := 104 } G D (tyA c9) [.ref (ad 0)] (wX12 ad c9 m_undoable m_undoStart m_thrown m_inputLength m_position m_start m_token m_value m_letters m_code m_place m_outputLength m_s m_parsed m_tried m_remembered m_slots m_kept m_away m_input m_halfway m_output) [] 0 0 o.1 (wX12 ad c9 m_undoable m_undoStart m_thrown m_inputLength o.2.1 o.2.2.1 o.2.2.2.1 o.2.2.2.2.1 o.2.2.2.2.2.1 o.2.2.2.2.2.2.1 o.2.2.2.2.2.2.2 m_outputLength m_s m_parsed m_tried m_remembered m_slots m_kept m_away m_input m_halfway m_output) := by
  refine mI_of hG (cc := cX12_realmHere) (maxL := 1) (ty := .int) (by decide) rfl (Nat.le_of_ble_eq_true rfl) ?_
  intro p e s m args below meth c A X
  have X : vX p s m args meth c cX12_realmHere 1 (some .int) RX12 wsX12_realmHere D (tyA c9) G A := X
  refine v_eq (lv2 := [(0, .ref (ad 0))]) rfl rfl rfl rfl ?_
  rw [f_X12_realmHere] at hf
  refine v_aload_n X dX12_realmHere_0 0 rfl rfl 1 rfl ?_
  refine v_aload_n X dX12_realmHere_1 0 rfl rfl 2 rfl ?_
  refine v_get X (C := RX12) (T := TX12) (N := 22) (ci := 11) (v := _) dX12_realmHere_2 k_X12_realmHere_w12 0 rfl rfl 1 (by decide) k_X12_realmHere_1 rfl rfl 5 rfl ?_
  refine v_aload_n X dX12_realmHere_5 0 rfl rfl 6 rfl ?_
  obtain ⟨o1, ho1, hf⟩ := bnd hf
  refine v_callVi X (ci := 11) (T := TX12) (C := RX12) (As := []) (rest := [.ref (ad 2), .ref (ad 0)]) (ws' := (wX12 ad c9 m_undoable m_undoStart m_thrown m_inputLength m_position m_start m_token m_value m_letters o1.2.1 o1.2.2 m_outputLength m_s m_parsed m_tried m_remembered m_slots m_kept m_away m_input m_halfway m_output)) (c_X12_nameHere l hG D c9 ad m_undoable m_undoStart m_thrown m_inputLength m_position m_start m_token m_value m_letters m_code m_place m_outputLength m_s m_parsed m_tried m_remembered m_slots m_kept m_away m_input m_halfway m_output ho1) 0 gX12_realmHere_X12_nameHere rfl rfl rfl ⟨rfl, pd_X12_nameHere⟩ ⟨Nat.le_of_ble_eq_true rfl, Nat.le_of_ble_eq_true rfl⟩ 0 rfl rfl rfl rfl (Nat.le_of_ble_eq_true rfl) ⟨Nat.zero_le _, Nat.zero_le _⟩ [0, 1, 2, 3, 4, 5, 6, 7, 8, 9, 10] [] [0, 1, 2, 3, 4, 5, 6, 7, 8, 9, 10] rfl rfl rfl rfl dX12_realmHere_6 9 rfl ?_
  obtain ⟨o2, ho2, hf⟩ := bnd hf
  refine v_callSi X (As := [.ref (ad 2), .int o1.1]) (rest := [.ref (ad 0)]) (ws' := (wX12 ad c9 m_undoable m_undoStart m_thrown m_inputLength m_position m_start m_token m_value m_letters o1.2.1 o1.2.2 m_outputLength m_s m_parsed m_tried m_remembered m_slots m_kept m_away m_input m_halfway m_output)) (c_X12_realmNamed l hG D c9 (ad 2) m_parsed o1.1 ho2) 2 gX12_realmHere_X12_realmNamed rfl rfl rfl pd_X12_realmNamed ⟨Nat.le_of_ble_eq_true rfl, Nat.le_of_ble_eq_true rfl⟩ rfl rfl (Nat.le_of_ble_eq_true rfl) ⟨Nat.zero_le _, Nat.zero_le _⟩ [2] [0, 1, 3, 4, 5, 6, 7, 8, 9, 10] [0, 1, 10, 2, 3, 4, 5, 6, 7, 8, 9] rfl rfl rfl rfl dX12_realmHere_9 12 rfl ?_
  obtain ⟨o3, ho3, hf⟩ := bnd hf
  refine v_callVi X (ci := 11) (T := TX12) (C := RX12) (As := [.int o2]) (rest := []) (ws' := (wX12 ad c9 m_undoable m_undoStart m_thrown m_inputLength o3.2.1 o3.2.2.1 o3.2.2.2.1 o3.2.2.2.2.1 o3.2.2.2.2.2.1 o3.2.2.2.2.2.2.1 o3.2.2.2.2.2.2.2 m_outputLength m_s m_parsed m_tried m_remembered m_slots m_kept m_away m_input m_halfway m_output)) (c_X12_exists l hG D c9 ad m_undoable m_undoStart m_thrown m_inputLength m_position m_start m_token m_value m_letters o1.2.1 o1.2.2 m_outputLength m_s m_parsed m_tried m_remembered m_slots m_kept m_away m_input m_halfway m_output o2 ho3) 1 gX12_realmHere_X12_exists rfl rfl rfl ⟨rfl, pd_X12_exists⟩ ⟨Nat.le_of_ble_eq_true rfl, Nat.le_of_ble_eq_true rfl⟩ 0 rfl rfl rfl rfl (Nat.le_of_ble_eq_true rfl) ⟨Nat.zero_le _, Nat.zero_le _⟩ [0, 1, 2, 3, 4, 5, 6, 7, 8, 9, 10] [] [0, 1, 2, 3, 4, 5, 6, 7, 8, 9, 10] rfl rfl rfl rfl dX12_realmHere_12 15 rfl ?_
  cases hf
  exact v_iret X (Nat.zero_le _) (Nat.zero_le _) dX12_realmHere_15
theorem pd_X12_realmHere : yX12_realmHere.cls ≠ "java/lang/invoke/MethodHandle" ∧ yX12_realmHere.cls ≠ "java/lang/invoke/VarHandle" ∧ (parseMethodDescriptor yX12_realmHere.desc).map (fun d => d.parameters.length) = some 0 := by decide +kernel
theorem k_X12_userHere_w12 : ∀ w ∈ u_ws RX12 TX12 22, w ∈ wsX12_userHere := in_r _ [53, 54, 55, 56, 57, 58, 59, 60, 61, 62, 63, 64, 65, 66, 67, 68, 69, 70, 71, 72, 73, 74] rfl
theorem k_X12_userHere_1 : Cond.fieldLink RX12 13 "TicketGateModel" "parsed" "[I" ∈ wsX12_userHere := List.mem_of_getElem? (i := 1) rfl
def f_X12_userHere (m_inputLength : Int32) (m_position : Int32) (m_start : Int32) (m_token : Int32) (m_value : Int32) (m_letters : Int32) (m_code : Int32) (m_place : Int32) (m_parsed : Nat → Int32) (m_input : Nat → Int32) : Option (Int32 × Int32 × Int32 × Int32 × Int32 × Int32 × Int32 × Int32) :=
  (f_X12_nameHere m_start m_token m_letters m_code m_place m_input).bind fun o1 =>
  (f_X12_userNamed m_parsed o1.1).bind fun o2 =>
  (f_X12_exists m_inputLength m_position m_start m_token m_value m_letters o1.2.1 o1.2.2 m_input o2).bind fun o3 =>
  some (o3.1, o3.2.1, o3.2.2.1, o3.2.2.2.1, o3.2.2.2.2.1, o3.2.2.2.2.2.1, o3.2.2.2.2.2.2.1, o3.2.2.2.2.2.2.2)
set_option maxRecDepth 100000 in
set_option maxHeartbeats 4000000 in
theorem c_X12_userHere (l : Launch) {G : (Nat → Prop) → State → Heap → Prop} (hG : vG G) (D : va_G) (c9 : Nat → ClassId) (ad : Nat → Nat) (m_undoable : Int32) (m_undoStart : Int32) (m_thrown : Int32) (m_inputLength : Int32) (m_position : Int32) (m_start : Int32) (m_token : Int32) (m_value : Int32) (m_letters : Int32) (m_code : Int32) (m_place : Int32) (m_outputLength : Int32) (m_s : Nat → Int32) (m_parsed : Nat → Int32) (m_tried : Nat → Int32) (m_remembered : Nat → Int32) (m_slots : Nat → Int32) (m_kept : Nat → Int32) (m_away : Nat → Int32) (m_input : Nat → Int32) (m_halfway : Nat → Int32) (m_output : Nat → Int32)  {o : Int32 × Int32 × Int32 × Int32 × Int32 × Int32 × Int32 × Int32} (hf : f_X12_userHere m_inputLength m_position m_start m_token m_value m_letters m_code m_place m_parsed m_input = some o) : mI l yX12_userHere wsX12_userHere { frames := 5, cells := 0, slots := 0, locals := 104 } G D (tyA c9) [.ref (ad 0)] (wX12 ad c9 m_undoable m_undoStart m_thrown m_inputLength m_position m_start m_token m_value m_letters m_code m_place m_outputLength m_s m_parsed m_tried m_remembered m_slots m_kept m_away m_input m_halfway m_output) [] 0 0 o.1 (wX12 ad c9 m_undoable m_undoStart m_thrown m_inputLength o.2.1 o.2.2.1 o.2.2.2.1 o.2.2.2.2.1 o.2.2.2.2.2.1 o.2.2.2.2.2.2.1 o.2.2.2.2.2.2.2 m_outputLength m_s m_parsed m_tried m_remembered m_slots m_kept m_away m_input m_halfway m_output) := by
  refine mI_of hG (cc := cX12_userHere) (maxL := 1) (ty := .int) (by decide) rfl (Nat.le_of_ble_eq_true rfl) ?_
  intro p e s m args below meth c A X
  have X : vX p s m args meth c cX12_userHere 1 (some .int) RX12 wsX12_userHere D (tyA c9) G A := X
  refine v_eq (lv2 := [(0, .ref (ad 0))]) rfl rfl rfl rfl ?_
  rw [f_X12_userHere] at hf
  refine v_aload_n X dX12_userHere_0 0 rfl rfl 1 rfl ?_
  refine v_aload_n X dX12_userHere_1 0 rfl rfl 2 rfl ?_
  refine v_get X (C := RX12) (T := TX12) (N := 22) (ci := 11) (v := _) dX12_userHere_2 k_X12_userHere_w12 0 rfl rfl 1 (by decide) k_X12_userHere_1 rfl rfl 5 rfl ?_
  refine v_aload_n X dX12_userHere_5 0 rfl rfl 6 rfl ?_
  obtain ⟨o1, ho1, hf⟩ := bnd hf
  refine v_callVi X (ci := 11) (T := TX12) (C := RX12) (As := []) (rest := [.ref (ad 2), .ref (ad 0)]) (ws' := (wX12 ad c9 m_undoable m_undoStart m_thrown m_inputLength m_position m_start m_token m_value m_letters o1.2.1 o1.2.2 m_outputLength m_s m_parsed m_tried m_remembered m_slots m_kept m_away m_input m_halfway m_output)) (c_X12_nameHere l hG D c9 ad m_undoable m_undoStart m_thrown m_inputLength m_position m_start m_token m_value m_letters m_code m_place m_outputLength m_s m_parsed m_tried m_remembered m_slots m_kept m_away m_input m_halfway m_output ho1) 0 gX12_userHere_X12_nameHere rfl rfl rfl ⟨rfl, pd_X12_nameHere⟩ ⟨Nat.le_of_ble_eq_true rfl, Nat.le_of_ble_eq_true rfl⟩ 0 rfl rfl rfl rfl (Nat.le_of_ble_eq_true rfl) ⟨Nat.zero_le _, Nat.zero_le _⟩ [0, 1, 2, 3, 4, 5, 6, 7, 8, 9, 10] [] [0, 1, 2, 3, 4, 5, 6, 7, 8, 9, 10] rfl rfl rfl rfl dX12_userHere_6 9 rfl ?_
  obtain ⟨o2, ho2, hf⟩ := bnd hf
  refine v_callSi X (As := [.ref (ad 2), .int o1.1]) (rest := [.ref (ad 0)]) (ws' := (wX12 ad c9 m_undoable m_undoStart m_thrown m_inputLength m_position m_start m_token m_value m_letters o1.2.1 o1.2.2 m_outputLength m_s m_parsed m_tried m_remembered m_slots m_kept m_away m_input m_halfway m_output)) (c_X12_userNamed l hG D c9 (ad 2) m_parsed o1.1 ho2) 2 gX12_userHere_X12_userNamed rfl rfl rfl pd_X12_userNamed ⟨Nat.le_of_ble_eq_true rfl, Nat.le_of_ble_eq_true rfl⟩ rfl rfl (Nat.le_of_ble_eq_true rfl) ⟨Nat.zero_le _, Nat.zero_le _⟩ [2] [0, 1, 3, 4, 5, 6, 7, 8, 9, 10] [0, 1, 10, 2, 3, 4, 5, 6, 7, 8, 9] rfl rfl rfl rfl dX12_userHere_9 12 rfl ?_
  obtain ⟨o3, ho3, hf⟩ := bnd hf
  refine v_callVi X (ci := 11) (T := TX12) (C := RX12) (As := [.int o2]) (rest := []) (ws' := (wX12 ad c9 m_undoable m_undoStart m_thrown m_inputLength o3.2.1 o3.2.2.1 o3.2.2.2.1 o3.2.2.2.2.1 o3.2.2.2.2.2.1 o3.2.2.2.2.2.2.1 o3.2.2.2.2.2.2.2 m_outputLength m_s m_parsed m_tried m_remembered m_slots m_kept m_away m_input m_halfway m_output)) (c_X12_exists l hG D c9 ad m_undoable m_undoStart m_thrown m_inputLength m_position m_start m_token m_value m_letters o1.2.1 o1.2.2 m_outputLength m_s m_parsed m_tried m_remembered m_slots m_kept m_away m_input m_halfway m_output o2 ho3) 1 gX12_userHere_X12_exists rfl rfl rfl ⟨rfl, pd_X12_exists⟩ ⟨Nat.le_of_ble_eq_true rfl, Nat.le_of_ble_eq_true rfl⟩ 0 rfl rfl rfl rfl (Nat.le_of_ble_eq_true rfl) ⟨Nat.zero_le _, Nat.zero_le _⟩ [0, 1, 2, 3, 4, 5, 6, 7, 8, 9, 10] [] [0, 1, 2, 3, 4, 5, 6, 7, 8, 9, 10] rfl rfl rfl rfl dX12_userHere_12 15 rfl ?_
  cases hf
  exact v_iret X (Nat.zero_le _) (Nat.zero_le _) dX12_userHere_15
theorem pd_X12_userHere : yX12_userHere.cls ≠ "java/lang/invoke/MethodHandle" ∧ yX12_userHere.cls ≠ "java/lang/invoke/VarHandle" ∧ (parseMethodDescriptor yX12_userHere.desc).map (fun d => d.parameters.length) = some 0 := by decide +kernel
theorem k_X12_serviceHere_w12 : ∀ w ∈ u_ws RX12 TX12 22, w ∈ wsX12_serviceHere := in_r _ [53, 54, 55, 56, 57, 58, 59, 60, 61, 62, 63, 64, 65, 66, 67, 68, 69, 70, 71, 72, 73, 74] rfl
theorem k_X12_serviceHere_1 : Cond.fieldLink RX12 13 "TicketGateModel" "parsed" "[I" ∈ wsX12_serviceHere := List.mem_of_getElem? (i := 1) rfl
def f_X12_serviceHere (m_inputLength : Int32) (m_position : Int32) (m_start : Int32) (m_token : Int32) (m_value : Int32) (m_letters : Int32) (m_code : Int32) (m_place : Int32) (m_parsed : Nat → Int32) (m_input : Nat → Int32) : Option (Int32 × Int32 × Int32 × Int32 × Int32 × Int32 × Int32 × Int32) :=
  (f_X12_nameHere m_start m_token m_letters m_code m_place m_input).bind fun o1 =>
  (f_X12_serviceNamed m_parsed o1.1).bind fun o2 =>
  (f_X12_exists m_inputLength m_position m_start m_token m_value m_letters o1.2.1 o1.2.2 m_input o2).bind fun o3 =>
  some (o3.1, o3.2.1, o3.2.2.1, o3.2.2.2.1, o3.2.2.2.2.1, o3.2.2.2.2.2.1, o3.2.2.2.2.2.2.1, o3.2.2.2.2.2.2.2)
set_option maxRecDepth 100000 in
set_option maxHeartbeats 4000000 in
theorem c_X12_serviceHere (l : Launch) {G : (Nat → Prop) → State → Heap → Prop} (hG : vG G) (D : va_G) (c9 : Nat → ClassId) (ad : Nat → Nat) (m_undoable : Int32) (m_undoStart : Int32) (m_thrown : Int32) (m_inputLength : Int32) (m_position : Int32) (m_start : Int32) (m_token : Int32) (m_value : Int32) (m_letters : Int32) (m_code : Int32) (m_place : Int32) (m_outputLength : Int32) (m_s : Nat → Int32) (m_parsed : Nat → Int32) (m_tried : Nat → Int32) (m_remembered : Nat → Int32) (m_slots : Nat → Int32) (m_kept : Nat → Int32) (m_away : Nat → Int32) (m_input : Nat → Int32) (m_halfway : Nat → Int32) (m_output : Nat → Int32)  {o : Int32 × Int32 × Int32 × Int32 × Int32 × Int32 × Int32 × Int32} (hf : f_X12_serviceHere m_inputLength m_position m_start m_token m_value m_letters m_code m_place m_parsed m_input = some o) : mI l yX12_serviceHere wsX12_serviceHere { frames := 5, cells := 0, slots := 0, locals := 104 } G D (tyA c9) [.ref (ad 0)] (wX12 ad c9 m_undoable m_undoStart m_thrown m_inputLength m_position m_start m_token m_value m_letters m_code m_place m_outputLength m_s m_parsed m_tried m_remembered m_slots m_kept m_away m_input m_halfway m_output) [] 0 0 o.1 (wX12 ad c9 m_undoable m_undoStart m_thrown m_inputLength o.2.1 o.2.2.1 o.2.2.2.1 o.2.2.2.2.1 o.2.2.2.2.2.1 o.2.2.2.2.2.2.1 o.2.2.2.2.2.2.2 m_outputLength m_s m_parsed m_tried m_remembered m_slots m_kept m_away m_input m_halfway m_output) := by
  refine mI_of hG (cc := cX12_serviceHere) (maxL := 1) (ty := .int) (by decide) rfl (Nat.le_of_ble_eq_true rfl) ?_
  intro p e s m args below meth c A X
  have X : vX p s m args meth c cX12_serviceHere 1 (some .int) RX12 wsX12_serviceHere D (tyA c9) G A := X
  refine v_eq (lv2 := [(0, .ref (ad 0))]) rfl rfl rfl rfl ?_
  rw [f_X12_serviceHere] at hf
  refine v_aload_n X dX12_serviceHere_0 0 rfl rfl 1 rfl ?_
  refine v_aload_n X dX12_serviceHere_1 0 rfl rfl 2 rfl ?_
  refine v_get X (C := RX12) (T := TX12) (N := 22) (ci := 11) (v := _) dX12_serviceHere_2 k_X12_serviceHere_w12 0 rfl rfl 1 (by decide) k_X12_serviceHere_1 rfl rfl 5 rfl ?_
  refine v_aload_n X dX12_serviceHere_5 0 rfl rfl 6 rfl ?_
  obtain ⟨o1, ho1, hf⟩ := bnd hf
  refine v_callVi X (ci := 11) (T := TX12) (C := RX12) (As := []) (rest := [.ref (ad 2), .ref (ad 0)]) (ws' := (wX12 ad c9 m_undoable m_undoStart m_thrown m_inputLength m_position m_start m_token m_value m_letters o1.2.1 o1.2.2 m_outputLength m_s m_parsed m_tried m_remembered m_slots m_kept m_away m_input m_halfway m_output)) (c_X12_nameHere l hG D c9 ad m_undoable m_undoStart m_thrown m_inputLength m_position m_start m_token m_value m_letters m_code m_place m_outputLength m_s m_parsed m_tried m_remembered m_slots m_kept m_away m_input m_halfway m_output ho1) 0 gX12_serviceHere_X12_nameHere rfl rfl rfl ⟨rfl, pd_X12_nameHere⟩ ⟨Nat.le_of_ble_eq_true rfl, Nat.le_of_ble_eq_true rfl⟩ 0 rfl rfl rfl rfl (Nat.le_of_ble_eq_true rfl) ⟨Nat.zero_le _, Nat.zero_le _⟩ [0, 1, 2, 3, 4, 5, 6, 7, 8, 9, 10] [] [0, 1, 2, 3, 4, 5, 6, 7, 8, 9, 10] rfl rfl rfl rfl dX12_serviceHere_6 9 rfl ?_
  obtain ⟨o2, ho2, hf⟩ := bnd hf
  refine v_callSi X (As := [.ref (ad 2), .int o1.1]) (rest := [.ref (ad 0)]) (ws' := (wX12 ad c9 m_undoable m_undoStart m_thrown m_inputLength m_position m_start m_token m_value m_letters o1.2.1 o1.2.2 m_outputLength m_s m_parsed m_tried m_remembered m_slots m_kept m_away m_input m_halfway m_output)) (c_X12_serviceNamed l hG D c9 (ad 2) m_parsed o1.1 ho2) 2 gX12_serviceHere_X12_serviceNamed rfl rfl rfl pd_X12_serviceNamed ⟨Nat.le_of_ble_eq_true rfl, Nat.le_of_ble_eq_true rfl⟩ rfl rfl (Nat.le_of_ble_eq_true rfl) ⟨Nat.zero_le _, Nat.zero_le _⟩ [2] [0, 1, 3, 4, 5, 6, 7, 8, 9, 10] [0, 1, 10, 2, 3, 4, 5, 6, 7, 8, 9] rfl rfl rfl rfl dX12_serviceHere_9 12 rfl ?_
  obtain ⟨o3, ho3, hf⟩ := bnd hf
  refine v_callVi X (ci := 11) (T := TX12) (C := RX12) (As := [.int o2]) (rest := []) (ws' := (wX12 ad c9 m_undoable m_undoStart m_thrown m_inputLength o3.2.1 o3.2.2.1 o3.2.2.2.1 o3.2.2.2.2.1 o3.2.2.2.2.2.1 o3.2.2.2.2.2.2.1 o3.2.2.2.2.2.2.2 m_outputLength m_s m_parsed m_tried m_remembered m_slots m_kept m_away m_input m_halfway m_output)) (c_X12_exists l hG D c9 ad m_undoable m_undoStart m_thrown m_inputLength m_position m_start m_token m_value m_letters o1.2.1 o1.2.2 m_outputLength m_s m_parsed m_tried m_remembered m_slots m_kept m_away m_input m_halfway m_output o2 ho3) 1 gX12_serviceHere_X12_exists rfl rfl rfl ⟨rfl, pd_X12_exists⟩ ⟨Nat.le_of_ble_eq_true rfl, Nat.le_of_ble_eq_true rfl⟩ 0 rfl rfl rfl rfl (Nat.le_of_ble_eq_true rfl) ⟨Nat.zero_le _, Nat.zero_le _⟩ [0, 1, 2, 3, 4, 5, 6, 7, 8, 9, 10] [] [0, 1, 2, 3, 4, 5, 6, 7, 8, 9, 10] rfl rfl rfl rfl dX12_serviceHere_12 15 rfl ?_
  cases hf
  exact v_iret X (Nat.zero_le _) (Nat.zero_le _) dX12_serviceHere_15
theorem pd_X12_serviceHere : yX12_serviceHere.cls ≠ "java/lang/invoke/MethodHandle" ∧ yX12_serviceHere.cls ≠ "java/lang/invoke/VarHandle" ∧ (parseMethodDescriptor yX12_serviceHere.desc).map (fun d => d.parameters.length) = some 0 := by decide +kernel
theorem k_X12_ticketHere_w12 : ∀ w ∈ u_ws RX12 TX12 22, w ∈ wsX12_ticketHere := in_r _ [45, 46, 47, 48, 49, 50, 51, 52, 53, 54, 55, 56, 57, 58, 59, 60, 61, 62, 63, 64, 65, 66] rfl
theorem k_X12_ticketHere_1 : Cond.fieldLink RX12 185 "TicketGateModel" "token" "I" ∈ wsX12_ticketHere := List.mem_of_getElem? (i := 1) rfl
theorem k_X12_ticketHere_2 : Cond.fieldLink RX12 164 "TicketGateModel" "code" "I" ∈ wsX12_ticketHere := List.mem_of_getElem? (i := 2) rfl
theorem k_X12_ticketHere_3 : Cond.fieldLink RX12 13 "TicketGateModel" "parsed" "[I" ∈ wsX12_ticketHere := List.mem_of_getElem? (i := 3) rfl
theorem k_X12_ticketHere_4 : Cond.fieldLink RX12 182 "TicketGateModel" "value" "I" ∈ wsX12_ticketHere := List.mem_of_getElem? (i := 4) rfl
def f_X12_ticketHere (m_inputLength : Int32) (m_position : Int32) (m_start : Int32) (m_token : Int32) (m_value : Int32) (m_letters : Int32) (m_code : Int32) (m_place : Int32) (m_parsed : Nat → Int32) (m_input : Nat → Int32) : Option (Int32 × Int32 × Int32 × Int32 × Int32 × Int32 × Int32 × Int32) :=
  Option.bind (if m_token = 2 then (
    some (1))
  else (
    some (0)) : Option (Int32)) fun j1 =>
  (f_X12_check m_start m_code m_place j1 1).bind fun o2 =>
  if o2.2.1 = 0 then (
    (f_X12_find m_parsed m_value).bind fun o4 =>
    (f_X12_exists m_inputLength m_position m_start m_token m_value m_letters o2.2.1 o2.2.2 m_input o4).bind fun o5 =>
    some (o5.1, o5.2.1, o5.2.2.1, o5.2.2.2.1, o5.2.2.2.2.1, o5.2.2.2.2.2.1, o5.2.2.2.2.2.2.1, o5.2.2.2.2.2.2.2))
  else (
    (f_X12_exists m_inputLength m_position m_start m_token m_value m_letters o2.2.1 o2.2.2 m_input 0).bind fun o3 =>
    some (o3.1, o3.2.1, o3.2.2.1, o3.2.2.2.1, o3.2.2.2.2.1, o3.2.2.2.2.2.1, o3.2.2.2.2.2.2.1, o3.2.2.2.2.2.2.2))
set_option maxRecDepth 100000 in
set_option maxHeartbeats 4000000 in
theorem c_X12_ticketHere (l : Launch) {G : (Nat → Prop) → State → Heap → Prop} (hG : vG G) (D : va_G) (c9 : Nat → ClassId) (ad : Nat → Nat) (m_undoable : Int32) (m_undoStart : Int32) (m_thrown : Int32) (m_inputLength : Int32) (m_position : Int32) (m_start : Int32) (m_token : Int32) (m_value : Int32) (m_letters : Int32) (m_code : Int32) (m_place : Int32) (m_outputLength : Int32) (m_s : Nat → Int32) (m_parsed : Nat → Int32) (m_tried : Nat → Int32) (m_remembered : Nat → Int32) (m_slots : Nat → Int32) (m_kept : Nat → Int32) (m_away : Nat → Int32) (m_input : Nat → Int32) (m_halfway : Nat → Int32) (m_output : Nat → Int32)  {o : Int32 × Int32 × Int32 × Int32 × Int32 × Int32 × Int32 × Int32} (hf : f_X12_ticketHere m_inputLength m_position m_start m_token m_value m_letters m_code m_place m_parsed m_input = some o) : mI l yX12_ticketHere wsX12_ticketHere { frames := 5, cells := 0, slots := 0, locals := 104 } G D (tyA c9) [.ref (ad 0)] (wX12 ad c9 m_undoable m_undoStart m_thrown m_inputLength m_position m_start m_token m_value m_letters m_code m_place m_outputLength m_s m_parsed m_tried m_remembered m_slots m_kept m_away m_input m_halfway m_output) [] 0 0 o.1 (wX12 ad c9 m_undoable m_undoStart m_thrown m_inputLength o.2.1 o.2.2.1 o.2.2.2.1 o.2.2.2.2.1 o.2.2.2.2.2.1 o.2.2.2.2.2.2.1 o.2.2.2.2.2.2.2 m_outputLength m_s m_parsed m_tried m_remembered m_slots m_kept m_away m_input m_halfway m_output) := by
  refine mI_of hG (cc := cX12_ticketHere) (maxL := 1) (ty := .int) (by decide) rfl (Nat.le_of_ble_eq_true rfl) ?_
  intro p e s m args below meth c A X
  have X : vX p s m args meth c cX12_ticketHere 1 (some .int) RX12 wsX12_ticketHere D (tyA c9) G A := X
  refine v_eq (lv2 := [(0, .ref (ad 0))]) rfl rfl rfl rfl ?_
  rw [f_X12_ticketHere] at hf
  refine v_aload_n X dX12_ticketHere_0 0 rfl rfl 1 rfl ?_
  refine v_aload_n X dX12_ticketHere_1 0 rfl rfl 2 rfl ?_
  refine v_get X (C := RX12) (T := TX12) (N := 22) (ci := 11) (v := _) dX12_ticketHere_2 k_X12_ticketHere_w12 0 rfl rfl 14 (by decide) k_X12_ticketHere_1 rfl rfl 5 rfl ?_
  refine v_iconst X dX12_ticketHere_5 ic_2 6 rfl ?_
  obtain ⟨j1, hj1, hf⟩ := bnd hf
  have Jj1 : vW p l e { frames := 5, cells := 0, slots := 0, locals := 104 } s m args below meth c 1 D A [] 0 0 (MQ below (eI D (tyA c9) A o.1 ((wX12 ad c9 m_undoable m_undoStart m_thrown m_inputLength o.2.1 o.2.2.1 o.2.2.2.1 o.2.2.2.2.1 o.2.2.2.2.2.1 o.2.2.2.2.2.2.1 o.2.2.2.2.2.2.2 m_outputLength m_s m_parsed m_tried m_remembered m_slots m_kept m_away m_input m_halfway m_output) ++ [])) args s 0 0 A) (wX12 ad c9 m_undoable m_undoStart m_thrown m_inputLength m_position m_start m_token m_value m_letters m_code m_place m_outputLength m_s m_parsed m_tried m_remembered m_slots m_kept m_away m_input m_halfway m_output) 14 [(0, .ref (ad 0))] [.int j1, .ref (ad 0)] := by
    refine v_iconst X dX12_ticketHere_14 ic_1 15 rfl ?_
    obtain ⟨o2, ho2, hf⟩ := bnd hf
    refine v_callVi X (ci := 11) (T := TX12) (C := RX12) (As := [.int j1, .int 1]) (rest := []) (ws' := (wX12 ad c9 m_undoable m_undoStart m_thrown m_inputLength m_position m_start m_token m_value m_letters o2.2.1 o2.2.2 m_outputLength m_s m_parsed m_tried m_remembered m_slots m_kept m_away m_input m_halfway m_output)) (c_X12_check l hG D c9 ad m_undoable m_undoStart m_thrown m_inputLength m_position m_start m_token m_value m_letters m_code m_place m_outputLength m_s m_parsed m_tried m_remembered m_slots m_kept m_away m_input m_halfway m_output j1 1 ho2) 2 gX12_ticketHere_X12_check rfl rfl rfl ⟨rfl, pd_X12_check⟩ ⟨Nat.le_of_ble_eq_true rfl, Nat.le_of_ble_eq_true rfl⟩ 0 rfl rfl rfl rfl (Nat.le_of_ble_eq_true rfl) ⟨Nat.zero_le _, Nat.zero_le _⟩ [0, 1, 2, 3, 4, 5, 6, 7, 8, 9, 10] [] [0, 1, 2, 3, 4, 5, 6, 7, 8, 9, 10] rfl rfl rfl rfl dX12_ticketHere_15 18 rfl ?_
    refine v_pop X dX12_ticketHere_18 rfl 19 rfl ?_
    refine v_aload_n X dX12_ticketHere_19 0 rfl rfl 20 rfl ?_
    refine v_aload_n X dX12_ticketHere_20 0 rfl rfl 21 rfl ?_
    refine v_get X (C := RX12) (T := TX12) (N := 22) (ci := 11) (v := _) dX12_ticketHere_21 k_X12_ticketHere_w12 0 rfl rfl 17 (by decide) k_X12_ticketHere_2 rfl rfl 24 rfl ?_
    refine v_if_ne X (tgt := 41) dX12_ticketHere_24 rfl 27 rfl hf (fun hf => ?_) (fun hf => ?_)
    · refine v_iconst X dX12_ticketHere_41 ic_0 42 rfl ?_
      obtain ⟨o3, ho3, hf⟩ := bnd hf
      refine v_callVi X (ci := 11) (T := TX12) (C := RX12) (As := [.int 0]) (rest := []) (ws' := (wX12 ad c9 m_undoable m_undoStart m_thrown m_inputLength o3.2.1 o3.2.2.1 o3.2.2.2.1 o3.2.2.2.2.1 o3.2.2.2.2.2.1 o3.2.2.2.2.2.2.1 o3.2.2.2.2.2.2.2 m_outputLength m_s m_parsed m_tried m_remembered m_slots m_kept m_away m_input m_halfway m_output)) (c_X12_exists l hG D c9 ad m_undoable m_undoStart m_thrown m_inputLength m_position m_start m_token m_value m_letters o2.2.1 o2.2.2 m_outputLength m_s m_parsed m_tried m_remembered m_slots m_kept m_away m_input m_halfway m_output 0 ho3) 1 gX12_ticketHere_X12_exists rfl rfl rfl ⟨rfl, pd_X12_exists⟩ ⟨Nat.le_of_ble_eq_true rfl, Nat.le_of_ble_eq_true rfl⟩ 0 rfl rfl rfl rfl (Nat.le_of_ble_eq_true rfl) ⟨Nat.zero_le _, Nat.zero_le _⟩ [0, 1, 2, 3, 4, 5, 6, 7, 8, 9, 10] [] [0, 1, 2, 3, 4, 5, 6, 7, 8, 9, 10] rfl rfl rfl rfl dX12_ticketHere_42 45 rfl ?_
      cases hf
      exact v_iret X (Nat.zero_le _) (Nat.zero_le _) dX12_ticketHere_45
    · refine v_aload_n X dX12_ticketHere_27 0 rfl rfl 28 rfl ?_
      refine v_get X (C := RX12) (T := TX12) (N := 22) (ci := 11) (v := _) dX12_ticketHere_28 k_X12_ticketHere_w12 0 rfl rfl 1 (by decide) k_X12_ticketHere_3 rfl rfl 31 rfl ?_
      refine v_aload_n X dX12_ticketHere_31 0 rfl rfl 32 rfl ?_
      refine v_get X (C := RX12) (T := TX12) (N := 22) (ci := 11) (v := _) dX12_ticketHere_32 k_X12_ticketHere_w12 0 rfl rfl 15 (by decide) k_X12_ticketHere_4 rfl rfl 35 rfl ?_
      obtain ⟨o4, ho4, hf⟩ := bnd hf
      refine v_callSi X (As := [.ref (ad 2), .int m_value]) (rest := [.ref (ad 0)]) (ws' := (wX12 ad c9 m_undoable m_undoStart m_thrown m_inputLength m_position m_start m_token m_value m_letters o2.2.1 o2.2.2 m_outputLength m_s m_parsed m_tried m_remembered m_slots m_kept m_away m_input m_halfway m_output)) (c_X12_find l hG D c9 (ad 2) m_parsed m_value ho4) 2 gX12_ticketHere_X12_find rfl rfl rfl pd_X12_find ⟨Nat.le_of_ble_eq_true rfl, Nat.le_of_ble_eq_true rfl⟩ rfl rfl (Nat.le_of_ble_eq_true rfl) ⟨Nat.zero_le _, Nat.zero_le _⟩ [2] [0, 1, 3, 4, 5, 6, 7, 8, 9, 10] [0, 1, 10, 2, 3, 4, 5, 6, 7, 8, 9] rfl rfl rfl rfl dX12_ticketHere_35 38 rfl ?_
      refine v_goto X (tgt := 42) dX12_ticketHere_38 rfl ?_
      obtain ⟨o5, ho5, hf⟩ := bnd hf
      refine v_callVi X (ci := 11) (T := TX12) (C := RX12) (As := [.int o4]) (rest := []) (ws' := (wX12 ad c9 m_undoable m_undoStart m_thrown m_inputLength o5.2.1 o5.2.2.1 o5.2.2.2.1 o5.2.2.2.2.1 o5.2.2.2.2.2.1 o5.2.2.2.2.2.2.1 o5.2.2.2.2.2.2.2 m_outputLength m_s m_parsed m_tried m_remembered m_slots m_kept m_away m_input m_halfway m_output)) (c_X12_exists l hG D c9 ad m_undoable m_undoStart m_thrown m_inputLength m_position m_start m_token m_value m_letters o2.2.1 o2.2.2 m_outputLength m_s m_parsed m_tried m_remembered m_slots m_kept m_away m_input m_halfway m_output o4 ho5) 1 gX12_ticketHere_X12_exists rfl rfl rfl ⟨rfl, pd_X12_exists⟩ ⟨Nat.le_of_ble_eq_true rfl, Nat.le_of_ble_eq_true rfl⟩ 0 rfl rfl rfl rfl (Nat.le_of_ble_eq_true rfl) ⟨Nat.zero_le _, Nat.zero_le _⟩ [0, 1, 2, 3, 4, 5, 6, 7, 8, 9, 10] [] [0, 1, 2, 3, 4, 5, 6, 7, 8, 9, 10] rfl rfl rfl rfl dX12_ticketHere_42 45 rfl ?_
      cases hf
      exact v_iret X (Nat.zero_le _) (Nat.zero_le _) dX12_ticketHere_45
  clear hf
  refine v_icmp_ne X (tgt := 13) dX12_ticketHere_6 rfl 9 rfl hj1 (fun hf => ?_) (fun hf => ?_)
  · refine v_iconst X dX12_ticketHere_13 ic_0 14 rfl ?_
    cases hf
    exact Jj1
  · refine v_iconst X dX12_ticketHere_9 ic_1 10 rfl ?_
    refine v_goto X (tgt := 14) dX12_ticketHere_10 rfl ?_
    cases hf
    exact Jj1
theorem pd_X12_ticketHere : yX12_ticketHere.cls ≠ "java/lang/invoke/MethodHandle" ∧ yX12_ticketHere.cls ≠ "java/lang/invoke/VarHandle" ∧ (parseMethodDescriptor yX12_ticketHere.desc).map (fun d => d.parameters.length) = some 0 := by decide +kernel
theorem k_X12_readTrust_w12 : ∀ w ∈ u_ws RX12 TX12 22, w ∈ wsX12_readTrust := in_r _ [68, 69, 70, 71, 72, 73, 74, 75, 76, 77, 78, 79, 80, 81, 82, 83, 84, 85, 86, 87, 88, 89] rfl
theorem k_X12_readTrust_1 : Cond.fieldLink RX12 13 "TicketGateModel" "parsed" "[I" ∈ wsX12_readTrust := List.mem_of_getElem? (i := 1) rfl
theorem k_X12_readTrust_2 : Cond.fieldLink RX12 164 "TicketGateModel" "code" "I" ∈ wsX12_readTrust := List.mem_of_getElem? (i := 2) rfl
def f_X12_readTrust (m_inputLength : Int32) (m_position : Int32) (m_start : Int32) (m_token : Int32) (m_value : Int32) (m_letters : Int32) (m_code : Int32) (m_place : Int32) (m_parsed : Nat → Int32) (m_input : Nat → Int32) : Option (Int32 × Int32 × Int32 × Int32 × Int32 × Int32 × Int32 × (Nat → Int32)) :=
  (f_X12_next m_inputLength m_position m_start m_token m_value m_letters m_code m_input).bind fun o1 =>
  (f_X12_realmHere m_inputLength o1.1 o1.2.1 o1.2.2.1 o1.2.2.2.1 o1.2.2.2.2 m_code m_place m_parsed m_input).bind fun o2 =>
  (f_X12_nameHere o2.2.2.1 o2.2.2.2.1 o2.2.2.2.2.2.1 o2.2.2.2.2.2.2.1 o2.2.2.2.2.2.2.2 m_input).bind fun o3 =>
  (f_X12_realmNamed m_parsed o3.1).bind fun o4 =>
  Option.bind (if o3.2.1 = 0 then (
    if o4 = o2.1 then (
      some (0))
    else (
      some (1)))
  else (
    some (1)) : Option (Int32)) fun j5 =>
  (f_X12_check o2.2.2.1 o3.2.1 o3.2.2 j5 3).bind fun o6 =>
  (f_X12_exists m_inputLength o2.2.1 o2.2.2.1 o2.2.2.2.1 o2.2.2.2.2.1 o2.2.2.2.2.2.1 o6.2.1 o6.2.2 m_input o4).bind fun o7 =>
  Option.bind (if o7.2.2.2.2.2.2.1 = 0 then (
    (f_X12_trusted m_parsed o2.1 o7.1).bind fun o9 =>
    if o9 = 0 then (
      some (0))
    else (
      some (1)))
  else (
    some (0)) : Option (Int32)) fun j8 =>
  (f_X12_mayDo o7.2.2.1 o7.2.2.2.1 o7.2.2.2.2.2.2.1 o7.2.2.2.2.2.2.2 m_input j8).bind fun o10 =>
  if o10.1 = 0 then (
    (f_X12_next m_inputLength o7.2.1 o7.2.2.1 o7.2.2.2.1 o7.2.2.2.2.1 o7.2.2.2.2.2.1 o10.2.1 m_input).bind fun o11 =>
    some (o11.1, o11.2.1, o11.2.2.1, o11.2.2.2.1, o11.2.2.2.2, o10.2.1, o10.2.2, m_parsed))
  else (
    (wr m_parsed 463 ((30 + (5 * o2.1)) + o7.1) 1).bind fun g12 =>
    (f_X12_next m_inputLength o7.2.1 o7.2.2.1 o7.2.2.2.1 o7.2.2.2.2.1 o7.2.2.2.2.2.1 o10.2.1 m_input).bind fun o13 =>
    some (o13.1, o13.2.1, o13.2.2.1, o13.2.2.2.1, o13.2.2.2.2, o10.2.1, o10.2.2, g12))
set_option maxRecDepth 100000 in
set_option maxHeartbeats 4000000 in
theorem c_X12_readTrust (l : Launch) {G : (Nat → Prop) → State → Heap → Prop} (hG : vG G) (D : va_G) (c9 : Nat → ClassId) (ad : Nat → Nat) (m_undoable : Int32) (m_undoStart : Int32) (m_thrown : Int32) (m_inputLength : Int32) (m_position : Int32) (m_start : Int32) (m_token : Int32) (m_value : Int32) (m_letters : Int32) (m_code : Int32) (m_place : Int32) (m_outputLength : Int32) (m_s : Nat → Int32) (m_parsed : Nat → Int32) (m_tried : Nat → Int32) (m_remembered : Nat → Int32) (m_slots : Nat → Int32) (m_kept : Nat → Int32) (m_away : Nat → Int32) (m_input : Nat → Int32) (m_halfway : Nat → Int32) (m_output : Nat → Int32)  {o : Int32 × Int32 × Int32 × Int32 × Int32 × Int32 × Int32 × (Nat → Int32)} (hf : f_X12_readTrust m_inputLength m_position m_start m_token m_value m_letters m_code m_place m_parsed m_input = some o) : mV l yX12_readTrust wsX12_readTrust { frames := 6, cells := 0, slots := 0, locals := 124 } G D (tyA c9) [.ref (ad 0)] (wX12 ad c9 m_undoable m_undoStart m_thrown m_inputLength m_position m_start m_token m_value m_letters m_code m_place m_outputLength m_s m_parsed m_tried m_remembered m_slots m_kept m_away m_input m_halfway m_output) [] 0 0 (wX12 ad c9 m_undoable m_undoStart m_thrown m_inputLength o.1 o.2.1 o.2.2.1 o.2.2.2.1 o.2.2.2.2.1 o.2.2.2.2.2.1 o.2.2.2.2.2.2.1 m_outputLength m_s o.2.2.2.2.2.2.2 m_tried m_remembered m_slots m_kept m_away m_input m_halfway m_output) := by
  refine mV_of hG (cc := cX12_readTrust) (maxL := 3) (by decide) rfl (Nat.le_of_ble_eq_true rfl) ?_
  intro p e s m args below meth c A hnm X
  have X : vX p s m args meth c cX12_readTrust 3 none RX12 wsX12_readTrust D (tyA c9) G A := X
  refine v_eq (lv2 := [(0, .ref (ad 0))]) rfl rfl rfl rfl ?_
  rw [f_X12_readTrust] at hf
  refine v_aload_n X dX12_readTrust_0 0 rfl rfl 1 rfl ?_
  obtain ⟨o1, ho1, hf⟩ := bnd hf
  refine v_callVv X (ci := 11) (T := TX12) (C := RX12) (As := []) (rest := []) (ws' := (wX12 ad c9 m_undoable m_undoStart m_thrown m_inputLength o1.1 o1.2.1 o1.2.2.1 o1.2.2.2.1 o1.2.2.2.2 m_code m_place m_outputLength m_s m_parsed m_tried m_remembered m_slots m_kept m_away m_input m_halfway m_output)) (c_X12_next l hG D c9 ad m_undoable m_undoStart m_thrown m_inputLength m_position m_start m_token m_value m_letters m_code m_place m_outputLength m_s m_parsed m_tried m_remembered m_slots m_kept m_away m_input m_halfway m_output ho1) 0 gX12_readTrust_X12_next rfl rfl rfl ⟨rfl, pd_X12_next⟩ ⟨Nat.le_of_ble_eq_true rfl, Nat.le_of_ble_eq_true rfl⟩ 0 rfl rfl rfl rfl (Nat.le_of_ble_eq_true rfl) ⟨Nat.zero_le _, Nat.zero_le _⟩ [0, 1, 2, 3, 4, 5, 6, 7, 8, 9, 10] [] [0, 1, 2, 3, 4, 5, 6, 7, 8, 9, 10] rfl rfl rfl rfl dX12_readTrust_1 4 rfl ?_
  refine v_aload_n X dX12_readTrust_4 0 rfl rfl 5 rfl ?_
  obtain ⟨o2, ho2, hf⟩ := bnd hf
  refine v_callVi X (ci := 11) (T := TX12) (C := RX12) (As := []) (rest := []) (ws' := (wX12 ad c9 m_undoable m_undoStart m_thrown m_inputLength o2.2.1 o2.2.2.1 o2.2.2.2.1 o2.2.2.2.2.1 o2.2.2.2.2.2.1 o2.2.2.2.2.2.2.1 o2.2.2.2.2.2.2.2 m_outputLength m_s m_parsed m_tried m_remembered m_slots m_kept m_away m_input m_halfway m_output)) (c_X12_realmHere l hG D c9 ad m_undoable m_undoStart m_thrown m_inputLength o1.1 o1.2.1 o1.2.2.1 o1.2.2.2.1 o1.2.2.2.2 m_code m_place m_outputLength m_s m_parsed m_tried m_remembered m_slots m_kept m_away m_input m_halfway m_output ho2) 0 gX12_readTrust_X12_realmHere rfl rfl rfl ⟨rfl, pd_X12_realmHere⟩ ⟨Nat.le_of_ble_eq_true rfl, Nat.le_of_ble_eq_true rfl⟩ 0 rfl rfl rfl rfl (Nat.le_of_ble_eq_true rfl) ⟨Nat.zero_le _, Nat.zero_le _⟩ [0, 1, 2, 3, 4, 5, 6, 7, 8, 9, 10] [] [0, 1, 2, 3, 4, 5, 6, 7, 8, 9, 10] rfl rfl rfl rfl dX12_readTrust_5 8 rfl ?_
  refine v_istore_n X (lv' := [(1, .int o2.1), (0, .ref (ad 0))]) dX12_readTrust_8 rfl (by decide) rfl 9 rfl ?_
  refine v_aload_n X dX12_readTrust_9 1 rfl rfl 10 rfl ?_
  refine v_get X (C := RX12) (T := TX12) (N := 22) (ci := 11) (v := _) dX12_readTrust_10 k_X12_readTrust_w12 0 rfl rfl 1 (by decide) k_X12_readTrust_1 rfl rfl 13 rfl ?_
  refine v_aload_n X dX12_readTrust_13 1 rfl rfl 14 rfl ?_
  obtain ⟨o3, ho3, hf⟩ := bnd hf
  refine v_callVi X (ci := 11) (T := TX12) (C := RX12) (As := []) (rest := [.ref (ad 2)]) (ws' := (wX12 ad c9 m_undoable m_undoStart m_thrown m_inputLength o2.2.1 o2.2.2.1 o2.2.2.2.1 o2.2.2.2.2.1 o2.2.2.2.2.2.1 o3.2.1 o3.2.2 m_outputLength m_s m_parsed m_tried m_remembered m_slots m_kept m_away m_input m_halfway m_output)) (c_X12_nameHere l hG D c9 ad m_undoable m_undoStart m_thrown m_inputLength o2.2.1 o2.2.2.1 o2.2.2.2.1 o2.2.2.2.2.1 o2.2.2.2.2.2.1 o2.2.2.2.2.2.2.1 o2.2.2.2.2.2.2.2 m_outputLength m_s m_parsed m_tried m_remembered m_slots m_kept m_away m_input m_halfway m_output ho3) 0 gX12_readTrust_X12_nameHere rfl rfl rfl ⟨rfl, pd_X12_nameHere⟩ ⟨Nat.le_of_ble_eq_true rfl, Nat.le_of_ble_eq_true rfl⟩ 0 rfl rfl rfl rfl (Nat.le_of_ble_eq_true rfl) ⟨Nat.zero_le _, Nat.zero_le _⟩ [0, 1, 2, 3, 4, 5, 6, 7, 8, 9, 10] [] [0, 1, 2, 3, 4, 5, 6, 7, 8, 9, 10] rfl rfl rfl rfl dX12_readTrust_14 17 rfl ?_
  obtain ⟨o4, ho4, hf⟩ := bnd hf
  refine v_callSi X (As := [.ref (ad 2), .int o3.1]) (rest := []) (ws' := (wX12 ad c9 m_undoable m_undoStart m_thrown m_inputLength o2.2.1 o2.2.2.1 o2.2.2.2.1 o2.2.2.2.2.1 o2.2.2.2.2.2.1 o3.2.1 o3.2.2 m_outputLength m_s m_parsed m_tried m_remembered m_slots m_kept m_away m_input m_halfway m_output)) (c_X12_realmNamed l hG D c9 (ad 2) m_parsed o3.1 ho4) 2 gX12_readTrust_X12_realmNamed rfl rfl rfl pd_X12_realmNamed ⟨Nat.le_of_ble_eq_true rfl, Nat.le_of_ble_eq_true rfl⟩ rfl rfl (Nat.le_of_ble_eq_true rfl) ⟨Nat.zero_le _, Nat.zero_le _⟩ [2] [0, 1, 3, 4, 5, 6, 7, 8, 9, 10] [0, 1, 10, 2, 3, 4, 5, 6, 7, 8, 9] rfl rfl rfl rfl dX12_readTrust_17 20 rfl ?_
  refine v_istore_n X (lv' := [(2, .int o4), (1, .int o2.1), (0, .ref (ad 0))]) dX12_readTrust_20 rfl (by decide) rfl 21 rfl ?_
  refine v_aload_n X dX12_readTrust_21 2 rfl rfl 22 rfl ?_
  refine v_aload_n X dX12_readTrust_22 2 rfl rfl 23 rfl ?_
  refine v_get X (C := RX12) (T := TX12) (N := 22) (ci := 11) (v := _) dX12_readTrust_23 k_X12_readTrust_w12 0 rfl rfl 17 (by decide) k_X12_readTrust_2 rfl rfl 26 rfl ?_
  obtain ⟨j5, hj5, hf⟩ := bnd hf
  have Jj5 : vW p l e { frames := 6, cells := 0, slots := 0, locals := 124 } s m args below meth c 3 D A [] 0 0 (MQ below (eV D (tyA c9) A ((wX12 ad c9 m_undoable m_undoStart m_thrown m_inputLength o.1 o.2.1 o.2.2.1 o.2.2.2.1 o.2.2.2.2.1 o.2.2.2.2.2.1 o.2.2.2.2.2.2.1 m_outputLength m_s o.2.2.2.2.2.2.2 m_tried m_remembered m_slots m_kept m_away m_input m_halfway m_output) ++ [])) args s 0 0 A) (wX12 ad c9 m_undoable m_undoStart m_thrown m_inputLength o2.2.1 o2.2.2.1 o2.2.2.2.1 o2.2.2.2.2.1 o2.2.2.2.2.2.1 o3.2.1 o3.2.2 m_outputLength m_s m_parsed m_tried m_remembered m_slots m_kept m_away m_input m_halfway m_output) 39 [(0, .ref (ad 0)), (1, .int o2.1), (2, .int o4)] [.int j5, .ref (ad 0)] := by
    refine v_iconst X dX12_readTrust_39 ic_3 40 rfl ?_
    obtain ⟨o6, ho6, hf⟩ := bnd hf
    refine v_callVi X (ci := 11) (T := TX12) (C := RX12) (As := [.int j5, .int 3]) (rest := []) (ws' := (wX12 ad c9 m_undoable m_undoStart m_thrown m_inputLength o2.2.1 o2.2.2.1 o2.2.2.2.1 o2.2.2.2.2.1 o2.2.2.2.2.2.1 o6.2.1 o6.2.2 m_outputLength m_s m_parsed m_tried m_remembered m_slots m_kept m_away m_input m_halfway m_output)) (c_X12_check l hG D c9 ad m_undoable m_undoStart m_thrown m_inputLength o2.2.1 o2.2.2.1 o2.2.2.2.1 o2.2.2.2.2.1 o2.2.2.2.2.2.1 o3.2.1 o3.2.2 m_outputLength m_s m_parsed m_tried m_remembered m_slots m_kept m_away m_input m_halfway m_output j5 3 ho6) 2 gX12_readTrust_X12_check rfl rfl rfl ⟨rfl, pd_X12_check⟩ ⟨Nat.le_of_ble_eq_true rfl, Nat.le_of_ble_eq_true rfl⟩ 0 rfl rfl rfl rfl (Nat.le_of_ble_eq_true rfl) ⟨Nat.zero_le _, Nat.zero_le _⟩ [0, 1, 2, 3, 4, 5, 6, 7, 8, 9, 10] [] [0, 1, 2, 3, 4, 5, 6, 7, 8, 9, 10] rfl rfl rfl rfl dX12_readTrust_40 43 rfl ?_
    refine v_pop X dX12_readTrust_43 rfl 44 rfl ?_
    refine v_aload_n X dX12_readTrust_44 0 rfl rfl 45 rfl ?_
    refine v_iload_n X dX12_readTrust_45 2 rfl rfl 46 rfl ?_
    obtain ⟨o7, ho7, hf⟩ := bnd hf
    refine v_callVi X (ci := 11) (T := TX12) (C := RX12) (As := [.int o4]) (rest := []) (ws' := (wX12 ad c9 m_undoable m_undoStart m_thrown m_inputLength o7.2.1 o7.2.2.1 o7.2.2.2.1 o7.2.2.2.2.1 o7.2.2.2.2.2.1 o7.2.2.2.2.2.2.1 o7.2.2.2.2.2.2.2 m_outputLength m_s m_parsed m_tried m_remembered m_slots m_kept m_away m_input m_halfway m_output)) (c_X12_exists l hG D c9 ad m_undoable m_undoStart m_thrown m_inputLength o2.2.1 o2.2.2.1 o2.2.2.2.1 o2.2.2.2.2.1 o2.2.2.2.2.2.1 o6.2.1 o6.2.2 m_outputLength m_s m_parsed m_tried m_remembered m_slots m_kept m_away m_input m_halfway m_output o4 ho7) 1 gX12_readTrust_X12_exists rfl rfl rfl ⟨rfl, pd_X12_exists⟩ ⟨Nat.le_of_ble_eq_true rfl, Nat.le_of_ble_eq_true rfl⟩ 0 rfl rfl rfl rfl (Nat.le_of_ble_eq_true rfl) ⟨Nat.zero_le _, Nat.zero_le _⟩ [0, 1, 2, 3, 4, 5, 6, 7, 8, 9, 10] [] [0, 1, 2, 3, 4, 5, 6, 7, 8, 9, 10] rfl rfl rfl rfl dX12_readTrust_46 49 rfl ?_
    refine v_istore_n X (lv' := [(2, .int o7.1), (0, .ref (ad 0)), (1, .int o2.1)]) dX12_readTrust_49 rfl (by decide) rfl 50 rfl ?_
    refine v_aload_n X dX12_readTrust_50 1 rfl rfl 51 rfl ?_
    refine v_aload_n X dX12_readTrust_51 1 rfl rfl 52 rfl ?_
    refine v_get X (C := RX12) (T := TX12) (N := 22) (ci := 11) (v := _) dX12_readTrust_52 k_X12_readTrust_w12 0 rfl rfl 17 (by decide) k_X12_readTrust_2 rfl rfl 55 rfl ?_
    obtain ⟨j8, hj8, hf⟩ := bnd hf
    have Jj8 : vW p l e { frames := 6, cells := 0, slots := 0, locals := 124 } s m args below meth c 3 D A [] 0 0 (MQ below (eV D (tyA c9) A ((wX12 ad c9 m_undoable m_undoStart m_thrown m_inputLength o.1 o.2.1 o.2.2.1 o.2.2.2.1 o.2.2.2.2.1 o.2.2.2.2.2.1 o.2.2.2.2.2.2.1 m_outputLength m_s o.2.2.2.2.2.2.2 m_tried m_remembered m_slots m_kept m_away m_input m_halfway m_output) ++ [])) args s 0 0 A) (wX12 ad c9 m_undoable m_undoStart m_thrown m_inputLength o7.2.1 o7.2.2.1 o7.2.2.2.1 o7.2.2.2.2.1 o7.2.2.2.2.2.1 o7.2.2.2.2.2.2.1 o7.2.2.2.2.2.2.2 m_outputLength m_s m_parsed m_tried m_remembered m_slots m_kept m_away m_input m_halfway m_output) 75 [(0, .ref (ad 0)), (1, .int o2.1), (2, .int o7.1)] [.int j8, .ref (ad 0)] := by
      obtain ⟨o10, ho10, hf⟩ := bnd hf
      refine v_callVi X (ci := 11) (T := TX12) (C := RX12) (As := [.int j8]) (rest := []) (ws' := (wX12 ad c9 m_undoable m_undoStart m_thrown m_inputLength o7.2.1 o7.2.2.1 o7.2.2.2.1 o7.2.2.2.2.1 o7.2.2.2.2.2.1 o10.2.1 o10.2.2 m_outputLength m_s m_parsed m_tried m_remembered m_slots m_kept m_away m_input m_halfway m_output)) (c_X12_mayDo l hG D c9 ad m_undoable m_undoStart m_thrown m_inputLength o7.2.1 o7.2.2.1 o7.2.2.2.1 o7.2.2.2.2.1 o7.2.2.2.2.2.1 o7.2.2.2.2.2.2.1 o7.2.2.2.2.2.2.2 m_outputLength m_s m_parsed m_tried m_remembered m_slots m_kept m_away m_input m_halfway m_output j8 ho10) 1 gX12_readTrust_X12_mayDo rfl rfl rfl ⟨rfl, pd_X12_mayDo⟩ ⟨Nat.le_of_ble_eq_true rfl, Nat.le_of_ble_eq_true rfl⟩ 0 rfl rfl rfl rfl (Nat.le_of_ble_eq_true rfl) ⟨Nat.zero_le _, Nat.zero_le _⟩ [0, 1, 2, 3, 4, 5, 6, 7, 8, 9, 10] [] [0, 1, 2, 3, 4, 5, 6, 7, 8, 9, 10] rfl rfl rfl rfl dX12_readTrust_75 78 rfl ?_
      refine v_if_eq X (tgt := 95) dX12_readTrust_78 rfl 81 rfl hf (fun hf => ?_) (fun hf => ?_)
      · refine v_aload_n X dX12_readTrust_95 0 rfl rfl 96 rfl ?_
        obtain ⟨o11, ho11, hf⟩ := bnd hf
        refine v_callVv X (ci := 11) (T := TX12) (C := RX12) (As := []) (rest := []) (ws' := (wX12 ad c9 m_undoable m_undoStart m_thrown m_inputLength o11.1 o11.2.1 o11.2.2.1 o11.2.2.2.1 o11.2.2.2.2 o10.2.1 o10.2.2 m_outputLength m_s m_parsed m_tried m_remembered m_slots m_kept m_away m_input m_halfway m_output)) (c_X12_next l hG D c9 ad m_undoable m_undoStart m_thrown m_inputLength o7.2.1 o7.2.2.1 o7.2.2.2.1 o7.2.2.2.2.1 o7.2.2.2.2.2.1 o10.2.1 o10.2.2 m_outputLength m_s m_parsed m_tried m_remembered m_slots m_kept m_away m_input m_halfway m_output ho11) 0 gX12_readTrust_X12_next rfl rfl rfl ⟨rfl, pd_X12_next⟩ ⟨Nat.le_of_ble_eq_true rfl, Nat.le_of_ble_eq_true rfl⟩ 0 rfl rfl rfl rfl (Nat.le_of_ble_eq_true rfl) ⟨Nat.zero_le _, Nat.zero_le _⟩ [0, 1, 2, 3, 4, 5, 6, 7, 8, 9, 10] [] [0, 1, 2, 3, 4, 5, 6, 7, 8, 9, 10] rfl rfl rfl rfl dX12_readTrust_96 99 rfl ?_
        cases hf
        exact v_vret X (Nat.zero_le _) (Nat.zero_le _) dX12_readTrust_99
      · refine v_aload_n X dX12_readTrust_81 0 rfl rfl 82 rfl ?_
        refine v_get X (C := RX12) (T := TX12) (N := 22) (ci := 11) (v := _) dX12_readTrust_82 k_X12_readTrust_w12 0 rfl rfl 1 (by decide) k_X12_readTrust_1 rfl rfl 85 rfl ?_
        refine v_bipush X dX12_readTrust_85 bp_30 87 rfl ?_
        refine v_iconst X dX12_readTrust_87 ic_5 88 rfl ?_
        refine v_iload_n X dX12_readTrust_88 1 rfl rfl 89 rfl ?_
        refine v_imul X dX12_readTrust_89 90 rfl ?_
        refine v_iadd X dX12_readTrust_90 91 rfl ?_
        refine v_iload_n X dX12_readTrust_91 2 rfl rfl 92 rfl ?_
        refine v_iadd X dX12_readTrust_92 93 rfl ?_
        refine v_iconst X dX12_readTrust_93 ic_1 94 rfl ?_
        obtain ⟨g12, hg12, hf⟩ := bnd hf
        refine v_iast X (ws' := (wX12 ad c9 m_undoable m_undoStart m_thrown m_inputLength o7.2.1 o7.2.2.1 o7.2.2.2.1 o7.2.2.2.2.1 o7.2.2.2.2.2.1 o10.2.1 o10.2.2 m_outputLength m_s g12 m_tried m_remembered m_slots m_kept m_away m_input m_halfway m_output)) dX12_readTrust_94 2 0 rfl rfl hg12 rfl 95 rfl ?_
        refine v_aload_n X dX12_readTrust_95 0 rfl rfl 96 rfl ?_
        obtain ⟨o13, ho13, hf⟩ := bnd hf
        refine v_callVv X (ci := 11) (T := TX12) (C := RX12) (As := []) (rest := []) (ws' := (wX12 ad c9 m_undoable m_undoStart m_thrown m_inputLength o13.1 o13.2.1 o13.2.2.1 o13.2.2.2.1 o13.2.2.2.2 o10.2.1 o10.2.2 m_outputLength m_s g12 m_tried m_remembered m_slots m_kept m_away m_input m_halfway m_output)) (c_X12_next l hG D c9 ad m_undoable m_undoStart m_thrown m_inputLength o7.2.1 o7.2.2.1 o7.2.2.2.1 o7.2.2.2.2.1 o7.2.2.2.2.2.1 o10.2.1 o10.2.2 m_outputLength m_s g12 m_tried m_remembered m_slots m_kept m_away m_input m_halfway m_output ho13) 0 gX12_readTrust_X12_next rfl rfl rfl ⟨rfl, pd_X12_next⟩ ⟨Nat.le_of_ble_eq_true rfl, Nat.le_of_ble_eq_true rfl⟩ 0 rfl rfl rfl rfl (Nat.le_of_ble_eq_true rfl) ⟨Nat.zero_le _, Nat.zero_le _⟩ [0, 1, 2, 3, 4, 5, 6, 7, 8, 9, 10] [] [0, 1, 2, 3, 4, 5, 6, 7, 8, 9, 10] rfl rfl rfl rfl dX12_readTrust_96 99 rfl ?_
        cases hf
        exact v_vret X (Nat.zero_le _) (Nat.zero_le _) dX12_readTrust_99
    clear hf
    refine v_if_ne X (tgt := 74) dX12_readTrust_55 rfl 58 rfl hj8 (fun hf => ?_) (fun hf => ?_)
    · refine v_iconst X dX12_readTrust_74 ic_0 75 rfl ?_
      cases hf
      refine v_sub (lv' := [(0, .ref (ad 0)), (1, .int o2.1), (2, .int o7.1)]) [1, 2, 0] rfl ?_
      exact Jj8
    · refine v_aload_n X dX12_readTrust_58 1 rfl rfl 59 rfl ?_
      refine v_get X (C := RX12) (T := TX12) (N := 22) (ci := 11) (v := _) dX12_readTrust_59 k_X12_readTrust_w12 0 rfl rfl 1 (by decide) k_X12_readTrust_1 rfl rfl 62 rfl ?_
      refine v_iload_n X dX12_readTrust_62 2 rfl rfl 63 rfl ?_
      refine v_iload_n X dX12_readTrust_63 0 rfl rfl 64 rfl ?_
      obtain ⟨o9, ho9, hf⟩ := bnd hf
      refine v_callSi X (As := [.ref (ad 2), .int o2.1, .int o7.1]) (rest := [.ref (ad 0)]) (ws' := (wX12 ad c9 m_undoable m_undoStart m_thrown m_inputLength o7.2.1 o7.2.2.1 o7.2.2.2.1 o7.2.2.2.2.1 o7.2.2.2.2.2.1 o7.2.2.2.2.2.2.1 o7.2.2.2.2.2.2.2 m_outputLength m_s m_parsed m_tried m_remembered m_slots m_kept m_away m_input m_halfway m_output)) (c_X12_trusted l hG D c9 (ad 2) m_parsed o2.1 o7.1 ho9) 3 gX12_readTrust_X12_trusted rfl rfl rfl pd_X12_trusted ⟨Nat.le_of_ble_eq_true rfl, Nat.le_of_ble_eq_true rfl⟩ rfl rfl (Nat.le_of_ble_eq_true rfl) ⟨Nat.zero_le _, Nat.zero_le _⟩ [2] [0, 1, 3, 4, 5, 6, 7, 8, 9, 10] [0, 1, 10, 2, 3, 4, 5, 6, 7, 8, 9] rfl rfl rfl rfl dX12_readTrust_64 67 rfl ?_
      refine v_if_eq X (tgt := 74) dX12_readTrust_67 rfl 70 rfl hf (fun hf => ?_) (fun hf => ?_)
      · refine v_iconst X dX12_readTrust_74 ic_0 75 rfl ?_
        cases hf
        refine v_sub (lv' := [(0, .ref (ad 0)), (1, .int o2.1), (2, .int o7.1)]) [1, 2, 0] rfl ?_
        exact Jj8
      · refine v_iconst X dX12_readTrust_70 ic_1 71 rfl ?_
        refine v_goto X (tgt := 75) dX12_readTrust_71 rfl ?_
        cases hf
        refine v_sub (lv' := [(0, .ref (ad 0)), (1, .int o2.1), (2, .int o7.1)]) [1, 2, 0] rfl ?_
        exact Jj8
  clear hf
  refine v_if_ne X (tgt := 34) dX12_readTrust_26 rfl 29 rfl hj5 (fun hf => ?_) (fun hf => ?_)
  · refine v_iconst X dX12_readTrust_34 ic_1 35 rfl ?_
    refine v_goto X (tgt := 39) dX12_readTrust_35 rfl ?_
    cases hf
    refine v_sub (lv' := [(0, .ref (ad 0)), (1, .int o2.1), (2, .int o4)]) [2, 1, 0] rfl ?_
    exact Jj5
  · refine v_iload_n X dX12_readTrust_29 0 rfl rfl 30 rfl ?_
    refine v_iload_n X dX12_readTrust_30 1 rfl rfl 31 rfl ?_
    refine v_icmp_eq X (tgt := 38) dX12_readTrust_31 rfl 34 rfl hf (fun hf => ?_) (fun hf => ?_)
    · refine v_iconst X dX12_readTrust_38 ic_0 39 rfl ?_
      cases hf
      refine v_sub (lv' := [(0, .ref (ad 0)), (1, .int o2.1), (2, .int o4)]) [2, 1, 0] rfl ?_
      exact Jj5
    · refine v_iconst X dX12_readTrust_34 ic_1 35 rfl ?_
      refine v_goto X (tgt := 39) dX12_readTrust_35 rfl ?_
      cases hf
      refine v_sub (lv' := [(0, .ref (ad 0)), (1, .int o2.1), (2, .int o4)]) [2, 1, 0] rfl ?_
      exact Jj5
theorem pd_X12_readTrust : yX12_readTrust.cls ≠ "java/lang/invoke/MethodHandle" ∧ yX12_readTrust.cls ≠ "java/lang/invoke/VarHandle" ∧ (parseMethodDescriptor yX12_readTrust.desc).map (fun d => d.parameters.length) = some 0 := by decide +kernel
theorem k_X12_readService_w12 : ∀ w ∈ u_ws RX12 TX12 22, w ∈ wsX12_readService := in_r _ [88, 89, 90, 91, 92, 93, 94, 95, 96, 97, 98, 99, 100, 101, 102, 103, 104, 105, 106, 107, 108, 109] rfl
theorem k_X12_readService_1 : Cond.fieldLink RX12 13 "TicketGateModel" "parsed" "[I" ∈ wsX12_readService := List.mem_of_getElem? (i := 1) rfl
theorem k_X12_readService_2 : Cond.fieldLink RX12 164 "TicketGateModel" "code" "I" ∈ wsX12_readService := List.mem_of_getElem? (i := 2) rfl
def f_X12_readService (m_inputLength : Int32) (m_position : Int32) (m_start : Int32) (m_token : Int32) (m_value : Int32) (m_letters : Int32) (m_code : Int32) (m_place : Int32) (m_parsed : Nat → Int32) (m_input : Nat → Int32) : Option (Int32 × Int32 × Int32 × Int32 × Int32 × Int32 × Int32 × (Nat → Int32)) :=
  (rd m_parsed 463 5).bind fun x1 =>
  Option.bind (if 6 ≤ x1 then (
    some (0))
  else (
    some (1)) : Option (Int32)) fun j2 =>
  (f_X12_check m_start m_code m_place j2 5).bind fun o3 =>
  (f_X12_next m_inputLength m_position m_start m_token m_value m_letters o3.2.1 m_input).bind fun o4 =>
  (f_X12_newName m_inputLength o4.1 o4.2.1 o4.2.2.1 o4.2.2.2.1 o4.2.2.2.2 o3.2.1 o3.2.2 m_parsed m_input).bind fun o5 =>
  (f_X12_realmHere m_inputLength o5.2.1 o5.2.2.1 o5.2.2.2.1 o5.2.2.2.2.1 o5.2.2.2.2.2.1 o5.2.2.2.2.2.2.1 o5.2.2.2.2.2.2.2 m_parsed m_input).bind fun o6 =>
  (f_X12_number m_inputLength o6.2.1 o6.2.2.1 o6.2.2.2.1 o6.2.2.2.2.1 o6.2.2.2.2.2.1 o6.2.2.2.2.2.2.1 o6.2.2.2.2.2.2.2 m_input 0 99).bind fun o7 =>
  (f_X12_finish m_inputLength o7.2.1 o7.2.2.1 o7.2.2.2.1 o7.2.2.2.2.1 o7.2.2.2.2.2.1 o7.2.2.2.2.2.2.1 o7.2.2.2.2.2.2.2 m_input).bind fun o8 =>
  if o8.2.2.2.2.2.1 = 0 then (
    (rd m_parsed 463 5).bind fun x9 =>
    (f_X12_ofService x9).bind fun o10 =>
    (wr m_parsed 463 (o10 + 0) o5.1).bind fun g11 =>
    (wr g11 463 (o10 + 1) o6.1).bind fun g12 =>
    (wr g12 463 (o10 + 2) o7.1).bind fun g13 =>
    (rd g13 463 9).bind fun x14 =>
    (wr g13 463 9 (x14 + o7.1)).bind fun g15 =>
    (rd g15 463 5).bind fun x16 =>
    (wr g15 463 5 (x16 + 1)).bind fun g17 =>
    some (o8.1, o8.2.1, o8.2.2.1, o8.2.2.2.1, o8.2.2.2.2.1, o8.2.2.2.2.2.1, o8.2.2.2.2.2.2, g17))
  else (
    some (o8.1, o8.2.1, o8.2.2.1, o8.2.2.2.1, o8.2.2.2.2.1, o8.2.2.2.2.2.1, o8.2.2.2.2.2.2, m_parsed))
set_option maxRecDepth 100000 in
set_option maxHeartbeats 4000000 in
theorem c_X12_readService (l : Launch) {G : (Nat → Prop) → State → Heap → Prop} (hG : vG G) (D : va_G) (c9 : Nat → ClassId) (ad : Nat → Nat) (m_undoable : Int32) (m_undoStart : Int32) (m_thrown : Int32) (m_inputLength : Int32) (m_position : Int32) (m_start : Int32) (m_token : Int32) (m_value : Int32) (m_letters : Int32) (m_code : Int32) (m_place : Int32) (m_outputLength : Int32) (m_s : Nat → Int32) (m_parsed : Nat → Int32) (m_tried : Nat → Int32) (m_remembered : Nat → Int32) (m_slots : Nat → Int32) (m_kept : Nat → Int32) (m_away : Nat → Int32) (m_input : Nat → Int32) (m_halfway : Nat → Int32) (m_output : Nat → Int32)  {o : Int32 × Int32 × Int32 × Int32 × Int32 × Int32 × Int32 × (Nat → Int32)} (hf : f_X12_readService m_inputLength m_position m_start m_token m_value m_letters m_code m_place m_parsed m_input = some o) : mV l yX12_readService wsX12_readService { frames := 6, cells := 0, slots := 0, locals := 124 } G D (tyA c9) [.ref (ad 0)] (wX12 ad c9 m_undoable m_undoStart m_thrown m_inputLength m_position m_start m_token m_value m_letters m_code m_place m_outputLength m_s m_parsed m_tried m_remembered m_slots m_kept m_away m_input m_halfway m_output) [] 0 0 (wX12 ad c9 m_undoable m_undoStart m_thrown m_inputLength o.1 o.2.1 o.2.2.1 o.2.2.2.1 o.2.2.2.2.1 o.2.2.2.2.2.1 o.2.2.2.2.2.2.1 m_outputLength m_s o.2.2.2.2.2.2.2 m_tried m_remembered m_slots m_kept m_away m_input m_halfway m_output) := by
  refine mV_of hG (cc := cX12_readService) (maxL := 5) (by decide) rfl (Nat.le_of_ble_eq_true rfl) ?_
  intro p e s m args below meth c A hnm X
  have X : vX p s m args meth c cX12_readService 5 none RX12 wsX12_readService D (tyA c9) G A := X
  refine v_eq (lv2 := [(0, .ref (ad 0))]) rfl rfl rfl rfl ?_
  rw [f_X12_readService] at hf
  refine v_aload_n X dX12_readService_0 0 rfl rfl 1 rfl ?_
  refine v_aload_n X dX12_readService_1 0 rfl rfl 2 rfl ?_
  refine v_get X (C := RX12) (T := TX12) (N := 22) (ci := 11) (v := _) dX12_readService_2 k_X12_readService_w12 0 rfl rfl 1 (by decide) k_X12_readService_1 rfl rfl 5 rfl ?_
  refine v_iconst X dX12_readService_5 ic_5 6 rfl ?_
  obtain ⟨x1, hx1, hf⟩ := bnd hf
  refine v_iald X dX12_readService_6 2 0 rfl rfl hx1 7 rfl ?_
  refine v_bipush X dX12_readService_7 bp_6 9 rfl ?_
  obtain ⟨j2, hj2, hf⟩ := bnd hf
  have Jj2 : vW p l e { frames := 6, cells := 0, slots := 0, locals := 124 } s m args below meth c 5 D A [] 0 0 (MQ below (eV D (tyA c9) A ((wX12 ad c9 m_undoable m_undoStart m_thrown m_inputLength o.1 o.2.1 o.2.2.1 o.2.2.2.1 o.2.2.2.2.1 o.2.2.2.2.2.1 o.2.2.2.2.2.2.1 m_outputLength m_s o.2.2.2.2.2.2.2 m_tried m_remembered m_slots m_kept m_away m_input m_halfway m_output) ++ [])) args s 0 0 A) (wX12 ad c9 m_undoable m_undoStart m_thrown m_inputLength m_position m_start m_token m_value m_letters m_code m_place m_outputLength m_s m_parsed m_tried m_remembered m_slots m_kept m_away m_input m_halfway m_output) 17 [(0, .ref (ad 0))] [.int j2, .ref (ad 0)] := by
    refine v_iconst X dX12_readService_17 ic_5 18 rfl ?_
    obtain ⟨o3, ho3, hf⟩ := bnd hf
    refine v_callVi X (ci := 11) (T := TX12) (C := RX12) (As := [.int j2, .int 5]) (rest := []) (ws' := (wX12 ad c9 m_undoable m_undoStart m_thrown m_inputLength m_position m_start m_token m_value m_letters o3.2.1 o3.2.2 m_outputLength m_s m_parsed m_tried m_remembered m_slots m_kept m_away m_input m_halfway m_output)) (c_X12_check l hG D c9 ad m_undoable m_undoStart m_thrown m_inputLength m_position m_start m_token m_value m_letters m_code m_place m_outputLength m_s m_parsed m_tried m_remembered m_slots m_kept m_away m_input m_halfway m_output j2 5 ho3) 2 gX12_readService_X12_check rfl rfl rfl ⟨rfl, pd_X12_check⟩ ⟨Nat.le_of_ble_eq_true rfl, Nat.le_of_ble_eq_true rfl⟩ 0 rfl rfl rfl rfl (Nat.le_of_ble_eq_true rfl) ⟨Nat.zero_le _, Nat.zero_le _⟩ [0, 1, 2, 3, 4, 5, 6, 7, 8, 9, 10] [] [0, 1, 2, 3, 4, 5, 6, 7, 8, 9, 10] rfl rfl rfl rfl dX12_readService_18 21 rfl ?_
    refine v_pop X dX12_readService_21 rfl 22 rfl ?_
    refine v_aload_n X dX12_readService_22 0 rfl rfl 23 rfl ?_
    obtain ⟨o4, ho4, hf⟩ := bnd hf
    refine v_callVv X (ci := 11) (T := TX12) (C := RX12) (As := []) (rest := []) (ws' := (wX12 ad c9 m_undoable m_undoStart m_thrown m_inputLength o4.1 o4.2.1 o4.2.2.1 o4.2.2.2.1 o4.2.2.2.2 o3.2.1 o3.2.2 m_outputLength m_s m_parsed m_tried m_remembered m_slots m_kept m_away m_input m_halfway m_output)) (c_X12_next l hG D c9 ad m_undoable m_undoStart m_thrown m_inputLength m_position m_start m_token m_value m_letters o3.2.1 o3.2.2 m_outputLength m_s m_parsed m_tried m_remembered m_slots m_kept m_away m_input m_halfway m_output ho4) 0 gX12_readService_X12_next rfl rfl rfl ⟨rfl, pd_X12_next⟩ ⟨Nat.le_of_ble_eq_true rfl, Nat.le_of_ble_eq_true rfl⟩ 0 rfl rfl rfl rfl (Nat.le_of_ble_eq_true rfl) ⟨Nat.zero_le _, Nat.zero_le _⟩ [0, 1, 2, 3, 4, 5, 6, 7, 8, 9, 10] [] [0, 1, 2, 3, 4, 5, 6, 7, 8, 9, 10] rfl rfl rfl rfl dX12_readService_23 26 rfl ?_
    refine v_aload_n X dX12_readService_26 0 rfl rfl 27 rfl ?_
    obtain ⟨o5, ho5, hf⟩ := bnd hf
    refine v_callVi X (ci := 11) (T := TX12) (C := RX12) (As := []) (rest := []) (ws' := (wX12 ad c9 m_undoable m_undoStart m_thrown m_inputLength o5.2.1 o5.2.2.1 o5.2.2.2.1 o5.2.2.2.2.1 o5.2.2.2.2.2.1 o5.2.2.2.2.2.2.1 o5.2.2.2.2.2.2.2 m_outputLength m_s m_parsed m_tried m_remembered m_slots m_kept m_away m_input m_halfway m_output)) (c_X12_newName l hG D c9 ad m_undoable m_undoStart m_thrown m_inputLength o4.1 o4.2.1 o4.2.2.1 o4.2.2.2.1 o4.2.2.2.2 o3.2.1 o3.2.2 m_outputLength m_s m_parsed m_tried m_remembered m_slots m_kept m_away m_input m_halfway m_output ho5) 0 gX12_readService_X12_newName rfl rfl rfl ⟨rfl, pd_X12_newName⟩ ⟨Nat.le_of_ble_eq_true rfl, Nat.le_of_ble_eq_true rfl⟩ 0 rfl rfl rfl rfl (Nat.le_of_ble_eq_true rfl) ⟨Nat.zero_le _, Nat.zero_le _⟩ [0, 1, 2, 3, 4, 5, 6, 7, 8, 9, 10] [] [0, 1, 2, 3, 4, 5, 6, 7, 8, 9, 10] rfl rfl rfl rfl dX12_readService_27 30 rfl ?_
    refine v_istore_n X (lv' := [(1, .int o5.1), (0, .ref (ad 0))]) dX12_readService_30 rfl (by decide) rfl 31 rfl ?_
    refine v_aload_n X dX12_readService_31 1 rfl rfl 32 rfl ?_
    obtain ⟨o6, ho6, hf⟩ := bnd hf
    refine v_callVi X (ci := 11) (T := TX12) (C := RX12) (As := []) (rest := []) (ws' := (wX12 ad c9 m_undoable m_undoStart m_thrown m_inputLength o6.2.1 o6.2.2.1 o6.2.2.2.1 o6.2.2.2.2.1 o6.2.2.2.2.2.1 o6.2.2.2.2.2.2.1 o6.2.2.2.2.2.2.2 m_outputLength m_s m_parsed m_tried m_remembered m_slots m_kept m_away m_input m_halfway m_output)) (c_X12_realmHere l hG D c9 ad m_undoable m_undoStart m_thrown m_inputLength o5.2.1 o5.2.2.1 o5.2.2.2.1 o5.2.2.2.2.1 o5.2.2.2.2.2.1 o5.2.2.2.2.2.2.1 o5.2.2.2.2.2.2.2 m_outputLength m_s m_parsed m_tried m_remembered m_slots m_kept m_away m_input m_halfway m_output ho6) 0 gX12_readService_X12_realmHere rfl rfl rfl ⟨rfl, pd_X12_realmHere⟩ ⟨Nat.le_of_ble_eq_true rfl, Nat.le_of_ble_eq_true rfl⟩ 0 rfl rfl rfl rfl (Nat.le_of_ble_eq_true rfl) ⟨Nat.zero_le _, Nat.zero_le _⟩ [0, 1, 2, 3, 4, 5, 6, 7, 8, 9, 10] [] [0, 1, 2, 3, 4, 5, 6, 7, 8, 9, 10] rfl rfl rfl rfl dX12_readService_32 35 rfl ?_
    refine v_istore_n X (lv' := [(2, .int o6.1), (1, .int o5.1), (0, .ref (ad 0))]) dX12_readService_35 rfl (by decide) rfl 36 rfl ?_
    refine v_aload_n X dX12_readService_36 2 rfl rfl 37 rfl ?_
    refine v_iconst X dX12_readService_37 ic_0 38 rfl ?_
    refine v_bipush X dX12_readService_38 bp_99 40 rfl ?_
    obtain ⟨o7, ho7, hf⟩ := bnd hf
    refine v_callVi X (ci := 11) (T := TX12) (C := RX12) (As := [.int 0, .int 99]) (rest := []) (ws' := (wX12 ad c9 m_undoable m_undoStart m_thrown m_inputLength o7.2.1 o7.2.2.1 o7.2.2.2.1 o7.2.2.2.2.1 o7.2.2.2.2.2.1 o7.2.2.2.2.2.2.1 o7.2.2.2.2.2.2.2 m_outputLength m_s m_parsed m_tried m_remembered m_slots m_kept m_away m_input m_halfway m_output)) (c_X12_number l hG D c9 ad m_undoable m_undoStart m_thrown m_inputLength o6.2.1 o6.2.2.1 o6.2.2.2.1 o6.2.2.2.2.1 o6.2.2.2.2.2.1 o6.2.2.2.2.2.2.1 o6.2.2.2.2.2.2.2 m_outputLength m_s m_parsed m_tried m_remembered m_slots m_kept m_away m_input m_halfway m_output 0 99 ho7) 2 gX12_readService_X12_number rfl rfl rfl ⟨rfl, pd_X12_number⟩ ⟨Nat.le_of_ble_eq_true rfl, Nat.le_of_ble_eq_true rfl⟩ 0 rfl rfl rfl rfl (Nat.le_of_ble_eq_true rfl) ⟨Nat.zero_le _, Nat.zero_le _⟩ [0, 1, 2, 3, 4, 5, 6, 7, 8, 9, 10] [] [0, 1, 2, 3, 4, 5, 6, 7, 8, 9, 10] rfl rfl rfl rfl dX12_readService_40 43 rfl ?_
    refine v_istore_n X (lv' := [(3, .int o7.1), (2, .int o6.1), (1, .int o5.1), (0, .ref (ad 0))]) dX12_readService_43 rfl (by decide) rfl 44 rfl ?_
    refine v_aload_n X dX12_readService_44 3 rfl rfl 45 rfl ?_
    obtain ⟨o8, ho8, hf⟩ := bnd hf
    refine v_callVv X (ci := 11) (T := TX12) (C := RX12) (As := []) (rest := []) (ws' := (wX12 ad c9 m_undoable m_undoStart m_thrown m_inputLength o8.1 o8.2.1 o8.2.2.1 o8.2.2.2.1 o8.2.2.2.2.1 o8.2.2.2.2.2.1 o8.2.2.2.2.2.2 m_outputLength m_s m_parsed m_tried m_remembered m_slots m_kept m_away m_input m_halfway m_output)) (c_X12_finish l hG D c9 ad m_undoable m_undoStart m_thrown m_inputLength o7.2.1 o7.2.2.1 o7.2.2.2.1 o7.2.2.2.2.1 o7.2.2.2.2.2.1 o7.2.2.2.2.2.2.1 o7.2.2.2.2.2.2.2 m_outputLength m_s m_parsed m_tried m_remembered m_slots m_kept m_away m_input m_halfway m_output ho8) 0 gX12_readService_X12_finish rfl rfl rfl ⟨rfl, pd_X12_finish⟩ ⟨Nat.le_of_ble_eq_true rfl, Nat.le_of_ble_eq_true rfl⟩ 0 rfl rfl rfl rfl (Nat.le_of_ble_eq_true rfl) ⟨Nat.zero_le _, Nat.zero_le _⟩ [0, 1, 2, 3, 4, 5, 6, 7, 8, 9, 10] [] [0, 1, 2, 3, 4, 5, 6, 7, 8, 9, 10] rfl rfl rfl rfl dX12_readService_45 48 rfl ?_
    refine v_aload_n X dX12_readService_48 3 rfl rfl 49 rfl ?_
    refine v_get X (C := RX12) (T := TX12) (N := 22) (ci := 11) (v := _) dX12_readService_49 k_X12_readService_w12 0 rfl rfl 17 (by decide) k_X12_readService_2 rfl rfl 52 rfl ?_
    refine v_if_ne X (tgt := 117) dX12_readService_52 rfl 55 rfl hf (fun hf => ?_) (fun hf => ?_)
    · cases hf
      exact v_vret X (Nat.zero_le _) (Nat.zero_le _) dX12_readService_117
    · refine v_aload_n X dX12_readService_55 3 rfl rfl 56 rfl ?_
      refine v_get X (C := RX12) (T := TX12) (N := 22) (ci := 11) (v := _) dX12_readService_56 k_X12_readService_w12 0 rfl rfl 1 (by decide) k_X12_readService_1 rfl rfl 59 rfl ?_
      refine v_iconst X dX12_readService_59 ic_5 60 rfl ?_
      obtain ⟨x9, hx9, hf⟩ := bnd hf
      refine v_iald X dX12_readService_60 2 0 rfl rfl hx9 61 rfl ?_
      obtain ⟨o10, ho10, hf⟩ := bnd hf
      refine v_callSi X (As := [.int x9]) (rest := []) (ws' := (wX12 ad c9 m_undoable m_undoStart m_thrown m_inputLength o8.1 o8.2.1 o8.2.2.1 o8.2.2.2.1 o8.2.2.2.2.1 o8.2.2.2.2.2.1 o8.2.2.2.2.2.2 m_outputLength m_s m_parsed m_tried m_remembered m_slots m_kept m_away m_input m_halfway m_output)) (c_X12_ofService l hG D c9 x9 ho10) 1 gX12_readService_X12_ofService rfl rfl rfl pd_X12_ofService ⟨Nat.le_of_ble_eq_true rfl, Nat.le_of_ble_eq_true rfl⟩ rfl rfl (Nat.le_of_ble_eq_true rfl) ⟨Nat.zero_le _, Nat.zero_le _⟩ [] [0, 1, 2, 3, 4, 5, 6, 7, 8, 9, 10] [0, 1, 2, 3, 4, 5, 6, 7, 8, 9, 10] rfl rfl rfl rfl dX12_readService_61 64 rfl ?_
      refine v_istore X (lv' := [(4, .int o10), (3, .int o7.1), (2, .int o6.1), (1, .int o5.1), (0, .ref (ad 0))]) dX12_readService_64 (by decide) rfl 66 rfl ?_
      refine v_aload_n X dX12_readService_66 4 rfl rfl 67 rfl ?_
      refine v_get X (C := RX12) (T := TX12) (N := 22) (ci := 11) (v := _) dX12_readService_67 k_X12_readService_w12 0 rfl rfl 1 (by decide) k_X12_readService_1 rfl rfl 70 rfl ?_
      refine v_iload X dX12_readService_70 0 rfl 72 rfl ?_
      refine v_iconst X dX12_readService_72 ic_0 73 rfl ?_
      refine v_iadd X dX12_readService_73 74 rfl ?_
      refine v_iload_n X dX12_readService_74 3 rfl rfl 75 rfl ?_
      obtain ⟨g11, hg11, hf⟩ := bnd hf
      refine v_iast X (ws' := (wX12 ad c9 m_undoable m_undoStart m_thrown m_inputLength o8.1 o8.2.1 o8.2.2.1 o8.2.2.2.1 o8.2.2.2.2.1 o8.2.2.2.2.2.1 o8.2.2.2.2.2.2 m_outputLength m_s g11 m_tried m_remembered m_slots m_kept m_away m_input m_halfway m_output)) dX12_readService_75 2 0 rfl rfl hg11 rfl 76 rfl ?_
      refine v_aload_n X dX12_readService_76 4 rfl rfl 77 rfl ?_
      refine v_get X (C := RX12) (T := TX12) (N := 22) (ci := 11) (v := _) dX12_readService_77 k_X12_readService_w12 0 rfl rfl 1 (by decide) k_X12_readService_1 rfl rfl 80 rfl ?_
      refine v_iload X dX12_readService_80 0 rfl 82 rfl ?_
      refine v_iconst X dX12_readService_82 ic_1 83 rfl ?_
      refine v_iadd X dX12_readService_83 84 rfl ?_
      refine v_iload_n X dX12_readService_84 2 rfl rfl 85 rfl ?_
      obtain ⟨g12, hg12, hf⟩ := bnd hf
      refine v_iast X (ws' := (wX12 ad c9 m_undoable m_undoStart m_thrown m_inputLength o8.1 o8.2.1 o8.2.2.1 o8.2.2.2.1 o8.2.2.2.2.1 o8.2.2.2.2.2.1 o8.2.2.2.2.2.2 m_outputLength m_s g12 m_tried m_remembered m_slots m_kept m_away m_input m_halfway m_output)) dX12_readService_85 2 0 rfl rfl hg12 rfl 86 rfl ?_
      refine v_aload_n X dX12_readService_86 4 rfl rfl 87 rfl ?_
      refine v_get X (C := RX12) (T := TX12) (N := 22) (ci := 11) (v := _) dX12_readService_87 k_X12_readService_w12 0 rfl rfl 1 (by decide) k_X12_readService_1 rfl rfl 90 rfl ?_
      refine v_iload X dX12_readService_90 0 rfl 92 rfl ?_
      refine v_iconst X dX12_readService_92 ic_2 93 rfl ?_
      refine v_iadd X dX12_readService_93 94 rfl ?_
      refine v_iload_n X dX12_readService_94 1 rfl rfl 95 rfl ?_
      obtain ⟨g13, hg13, hf⟩ := bnd hf
      refine v_iast X (ws' := (wX12 ad c9 m_undoable m_undoStart m_thrown m_inputLength o8.1 o8.2.1 o8.2.2.1 o8.2.2.2.1 o8.2.2.2.2.1 o8.2.2.2.2.2.1 o8.2.2.2.2.2.2 m_outputLength m_s g13 m_tried m_remembered m_slots m_kept m_away m_input m_halfway m_output)) dX12_readService_95 2 0 rfl rfl hg13 rfl 96 rfl ?_
      refine v_aload_n X dX12_readService_96 4 rfl rfl 97 rfl ?_
      refine v_get X (C := RX12) (T := TX12) (N := 22) (ci := 11) (v := _) dX12_readService_97 k_X12_readService_w12 0 rfl rfl 1 (by decide) k_X12_readService_1 rfl rfl 100 rfl ?_
      refine v_bipush X dX12_readService_100 bp_9 102 rfl ?_
      refine v_dup2 X dX12_readService_102 rfl rfl 103 rfl ?_
      obtain ⟨x14, hx14, hf⟩ := bnd hf
      refine v_iald X dX12_readService_103 2 0 rfl rfl hx14 104 rfl ?_
      refine v_iload_n X dX12_readService_104 1 rfl rfl 105 rfl ?_
      refine v_iadd X dX12_readService_105 106 rfl ?_
      obtain ⟨g15, hg15, hf⟩ := bnd hf
      refine v_iast X (ws' := (wX12 ad c9 m_undoable m_undoStart m_thrown m_inputLength o8.1 o8.2.1 o8.2.2.1 o8.2.2.2.1 o8.2.2.2.2.1 o8.2.2.2.2.2.1 o8.2.2.2.2.2.2 m_outputLength m_s g15 m_tried m_remembered m_slots m_kept m_away m_input m_halfway m_output)) dX12_readService_106 2 0 rfl rfl hg15 rfl 107 rfl ?_
      refine v_aload_n X dX12_readService_107 4 rfl rfl 108 rfl ?_
      refine v_get X (C := RX12) (T := TX12) (N := 22) (ci := 11) (v := _) dX12_readService_108 k_X12_readService_w12 0 rfl rfl 1 (by decide) k_X12_readService_1 rfl rfl 111 rfl ?_
      refine v_iconst X dX12_readService_111 ic_5 112 rfl ?_
      refine v_dup2 X dX12_readService_112 rfl rfl 113 rfl ?_
      obtain ⟨x16, hx16, hf⟩ := bnd hf
      refine v_iald X dX12_readService_113 2 0 rfl rfl hx16 114 rfl ?_
      refine v_iconst X dX12_readService_114 ic_1 115 rfl ?_
      refine v_iadd X dX12_readService_115 116 rfl ?_
      obtain ⟨g17, hg17, hf⟩ := bnd hf
      refine v_iast X (ws' := (wX12 ad c9 m_undoable m_undoStart m_thrown m_inputLength o8.1 o8.2.1 o8.2.2.1 o8.2.2.2.1 o8.2.2.2.2.1 o8.2.2.2.2.2.1 o8.2.2.2.2.2.2 m_outputLength m_s g17 m_tried m_remembered m_slots m_kept m_away m_input m_halfway m_output)) dX12_readService_116 2 0 rfl rfl hg17 rfl 117 rfl ?_
      cases hf
      exact v_vret X (Nat.zero_le _) (Nat.zero_le _) dX12_readService_117
  clear hf
  refine v_icmp_ge X (tgt := 16) dX12_readService_9 rfl 12 rfl hj2 (fun hf => ?_) (fun hf => ?_)
  · refine v_iconst X dX12_readService_16 ic_0 17 rfl ?_
    cases hf
    exact Jj2
  · refine v_iconst X dX12_readService_12 ic_1 13 rfl ?_
    refine v_goto X (tgt := 17) dX12_readService_13 rfl ?_
    cases hf
    exact Jj2
theorem pd_X12_readService : yX12_readService.cls ≠ "java/lang/invoke/MethodHandle" ∧ yX12_readService.cls ≠ "java/lang/invoke/VarHandle" ∧ (parseMethodDescriptor yX12_readService.desc).map (fun d => d.parameters.length) = some 0 := by decide +kernel
theorem k_X12_readRefer_w12 : ∀ w ∈ u_ws RX12 TX12 22, w ∈ wsX12_readRefer := in_r _ [114, 115, 116, 117, 118, 119, 120, 121, 122, 123, 124, 125, 126, 127, 128, 129, 130, 131, 132, 133, 134, 135] rfl
theorem k_X12_readRefer_1 : Cond.fieldLink RX12 164 "TicketGateModel" "code" "I" ∈ wsX12_readRefer := List.mem_of_getElem? (i := 1) rfl
theorem k_X12_readRefer_2 : Cond.fieldLink RX12 13 "TicketGateModel" "parsed" "[I" ∈ wsX12_readRefer := List.mem_of_getElem? (i := 2) rfl
def f_X12_readRefer (m_inputLength : Int32) (m_position : Int32) (m_start : Int32) (m_token : Int32) (m_value : Int32) (m_letters : Int32) (m_code : Int32) (m_place : Int32) (m_parsed : Nat → Int32) (m_input : Nat → Int32) : Option (Int32 × Int32 × Int32 × Int32 × Int32 × Int32 × Int32 × (Nat → Int32)) :=
  (f_X12_next m_inputLength m_position m_start m_token m_value m_letters m_code m_input).bind fun o1 =>
  (f_X12_ticketHere m_inputLength o1.1 o1.2.1 o1.2.2.1 o1.2.2.2.1 o1.2.2.2.2 m_code m_place m_parsed m_input).bind fun o2 =>
  (f_X12_realmHere m_inputLength o2.2.1 o2.2.2.1 o2.2.2.2.1 o2.2.2.2.2.1 o2.2.2.2.2.2.1 o2.2.2.2.2.2.2.1 o2.2.2.2.2.2.2.2 m_parsed m_input).bind fun o3 =>
  Option.bind (if o3.2.2.2.2.2.2.1 = 0 then (
    (f_X12_whyNotRefer m_parsed o2.1 o3.1).bind fun o5 =>
    if o5 = 0 then (
      some (0))
    else (
      some (1)))
  else (
    some (0)) : Option (Int32)) fun j4 =>
  (f_X12_mayDo o3.2.2.1 o3.2.2.2.1 o3.2.2.2.2.2.2.1 o3.2.2.2.2.2.2.2 m_input j4).bind fun o6 =>
  if o6.1 = 0 then (
    (f_X12_next m_inputLength o3.2.1 o3.2.2.1 o3.2.2.2.1 o3.2.2.2.2.1 o3.2.2.2.2.2.1 o6.2.1 m_input).bind fun o7 =>
    some (o7.1, o7.2.1, o7.2.2.1, o7.2.2.2.1, o7.2.2.2.2, o6.2.1, o6.2.2, m_parsed))
  else (
    (f_X12_derive m_parsed o2.1 o3.1 (-1)).bind fun o8 =>
    if 0 ≤ o8.1 then (
      (f_X12_next m_inputLength o3.2.1 o3.2.2.1 o3.2.2.2.1 o3.2.2.2.2.1 o3.2.2.2.2.2.1 o6.2.1 m_input).bind fun o9 =>
      some (o9.1, o9.2.1, o9.2.2.1, o9.2.2.2.1, o9.2.2.2.2, o6.2.1, o6.2.2, o8.2))
    else (
      (f_X12_next m_inputLength o3.2.1 o3.2.2.1 o3.2.2.2.1 o3.2.2.2.2.1 o3.2.2.2.2.2.1 1 m_input).bind fun o10 =>
      some (o10.1, o10.2.1, o10.2.2.1, o10.2.2.2.1, o10.2.2.2.2, 1, o6.2.2, o8.2)))
set_option maxRecDepth 100000 in
set_option maxHeartbeats 4000000 in
theorem c_X12_readRefer (l : Launch) {G : (Nat → Prop) → State → Heap → Prop} (hG : vG G) (D : va_G) (c9 : Nat → ClassId) (ad : Nat → Nat) (m_undoable : Int32) (m_undoStart : Int32) (m_thrown : Int32) (m_inputLength : Int32) (m_position : Int32) (m_start : Int32) (m_token : Int32) (m_value : Int32) (m_letters : Int32) (m_code : Int32) (m_place : Int32) (m_outputLength : Int32) (m_s : Nat → Int32) (m_parsed : Nat → Int32) (m_tried : Nat → Int32) (m_remembered : Nat → Int32) (m_slots : Nat → Int32) (m_kept : Nat → Int32) (m_away : Nat → Int32) (m_input : Nat → Int32) (m_halfway : Nat → Int32) (m_output : Nat → Int32)  {o : Int32 × Int32 × Int32 × Int32 × Int32 × Int32 × Int32 × (Nat → Int32)} (hf : f_X12_readRefer m_inputLength m_position m_start m_token m_value m_letters m_code m_place m_parsed m_input = some o) : mV l yX12_readRefer wsX12_readRefer { frames := 6, cells := 0, slots := 0, locals := 124 } G D (tyA c9) [.ref (ad 0)] (wX12 ad c9 m_undoable m_undoStart m_thrown m_inputLength m_position m_start m_token m_value m_letters m_code m_place m_outputLength m_s m_parsed m_tried m_remembered m_slots m_kept m_away m_input m_halfway m_output) [] 0 0 (wX12 ad c9 m_undoable m_undoStart m_thrown m_inputLength o.1 o.2.1 o.2.2.1 o.2.2.2.1 o.2.2.2.2.1 o.2.2.2.2.2.1 o.2.2.2.2.2.2.1 m_outputLength m_s o.2.2.2.2.2.2.2 m_tried m_remembered m_slots m_kept m_away m_input m_halfway m_output) := by
  refine mV_of hG (cc := cX12_readRefer) (maxL := 3) (by decide) rfl (Nat.le_of_ble_eq_true rfl) ?_
  intro p e s m args below meth c A hnm X
  have X : vX p s m args meth c cX12_readRefer 3 none RX12 wsX12_readRefer D (tyA c9) G A := X
  refine v_eq (lv2 := [(0, .ref (ad 0))]) rfl rfl rfl rfl ?_
  rw [f_X12_readRefer] at hf
  refine v_aload_n X dX12_readRefer_0 0 rfl rfl 1 rfl ?_
  obtain ⟨o1, ho1, hf⟩ := bnd hf
  refine v_callVv X (ci := 11) (T := TX12) (C := RX12) (As := []) (rest := []) (ws' := (wX12 ad c9 m_undoable m_undoStart m_thrown m_inputLength o1.1 o1.2.1 o1.2.2.1 o1.2.2.2.1 o1.2.2.2.2 m_code m_place m_outputLength m_s m_parsed m_tried m_remembered m_slots m_kept m_away m_input m_halfway m_output)) (c_X12_next l hG D c9 ad m_undoable m_undoStart m_thrown m_inputLength m_position m_start m_token m_value m_letters m_code m_place m_outputLength m_s m_parsed m_tried m_remembered m_slots m_kept m_away m_input m_halfway m_output ho1) 0 gX12_readRefer_X12_next rfl rfl rfl ⟨rfl, pd_X12_next⟩ ⟨Nat.le_of_ble_eq_true rfl, Nat.le_of_ble_eq_true rfl⟩ 0 rfl rfl rfl rfl (Nat.le_of_ble_eq_true rfl) ⟨Nat.zero_le _, Nat.zero_le _⟩ [0, 1, 2, 3, 4, 5, 6, 7, 8, 9, 10] [] [0, 1, 2, 3, 4, 5, 6, 7, 8, 9, 10] rfl rfl rfl rfl dX12_readRefer_1 4 rfl ?_
  refine v_aload_n X dX12_readRefer_4 0 rfl rfl 5 rfl ?_
  obtain ⟨o2, ho2, hf⟩ := bnd hf
  refine v_callVi X (ci := 11) (T := TX12) (C := RX12) (As := []) (rest := []) (ws' := (wX12 ad c9 m_undoable m_undoStart m_thrown m_inputLength o2.2.1 o2.2.2.1 o2.2.2.2.1 o2.2.2.2.2.1 o2.2.2.2.2.2.1 o2.2.2.2.2.2.2.1 o2.2.2.2.2.2.2.2 m_outputLength m_s m_parsed m_tried m_remembered m_slots m_kept m_away m_input m_halfway m_output)) (c_X12_ticketHere l hG D c9 ad m_undoable m_undoStart m_thrown m_inputLength o1.1 o1.2.1 o1.2.2.1 o1.2.2.2.1 o1.2.2.2.2 m_code m_place m_outputLength m_s m_parsed m_tried m_remembered m_slots m_kept m_away m_input m_halfway m_output ho2) 0 gX12_readRefer_X12_ticketHere rfl rfl rfl ⟨rfl, pd_X12_ticketHere⟩ ⟨Nat.le_of_ble_eq_true rfl, Nat.le_of_ble_eq_true rfl⟩ 0 rfl rfl rfl rfl (Nat.le_of_ble_eq_true rfl) ⟨Nat.zero_le _, Nat.zero_le _⟩ [0, 1, 2, 3, 4, 5, 6, 7, 8, 9, 10] [] [0, 1, 2, 3, 4, 5, 6, 7, 8, 9, 10] rfl rfl rfl rfl dX12_readRefer_5 8 rfl ?_
  refine v_istore_n X (lv' := [(1, .int o2.1), (0, .ref (ad 0))]) dX12_readRefer_8 rfl (by decide) rfl 9 rfl ?_
  refine v_aload_n X dX12_readRefer_9 1 rfl rfl 10 rfl ?_
  obtain ⟨o3, ho3, hf⟩ := bnd hf
  refine v_callVi X (ci := 11) (T := TX12) (C := RX12) (As := []) (rest := []) (ws' := (wX12 ad c9 m_undoable m_undoStart m_thrown m_inputLength o3.2.1 o3.2.2.1 o3.2.2.2.1 o3.2.2.2.2.1 o3.2.2.2.2.2.1 o3.2.2.2.2.2.2.1 o3.2.2.2.2.2.2.2 m_outputLength m_s m_parsed m_tried m_remembered m_slots m_kept m_away m_input m_halfway m_output)) (c_X12_realmHere l hG D c9 ad m_undoable m_undoStart m_thrown m_inputLength o2.2.1 o2.2.2.1 o2.2.2.2.1 o2.2.2.2.2.1 o2.2.2.2.2.2.1 o2.2.2.2.2.2.2.1 o2.2.2.2.2.2.2.2 m_outputLength m_s m_parsed m_tried m_remembered m_slots m_kept m_away m_input m_halfway m_output ho3) 0 gX12_readRefer_X12_realmHere rfl rfl rfl ⟨rfl, pd_X12_realmHere⟩ ⟨Nat.le_of_ble_eq_true rfl, Nat.le_of_ble_eq_true rfl⟩ 0 rfl rfl rfl rfl (Nat.le_of_ble_eq_true rfl) ⟨Nat.zero_le _, Nat.zero_le _⟩ [0, 1, 2, 3, 4, 5, 6, 7, 8, 9, 10] [] [0, 1, 2, 3, 4, 5, 6, 7, 8, 9, 10] rfl rfl rfl rfl dX12_readRefer_10 13 rfl ?_
  refine v_istore_n X (lv' := [(2, .int o3.1), (1, .int o2.1), (0, .ref (ad 0))]) dX12_readRefer_13 rfl (by decide) rfl 14 rfl ?_
  refine v_aload_n X dX12_readRefer_14 2 rfl rfl 15 rfl ?_
  refine v_aload_n X dX12_readRefer_15 2 rfl rfl 16 rfl ?_
  refine v_get X (C := RX12) (T := TX12) (N := 22) (ci := 11) (v := _) dX12_readRefer_16 k_X12_readRefer_w12 0 rfl rfl 17 (by decide) k_X12_readRefer_1 rfl rfl 19 rfl ?_
  obtain ⟨j4, hj4, hf⟩ := bnd hf
  have Jj4 : vW p l e { frames := 6, cells := 0, slots := 0, locals := 124 } s m args below meth c 3 D A [] 0 0 (MQ below (eV D (tyA c9) A ((wX12 ad c9 m_undoable m_undoStart m_thrown m_inputLength o.1 o.2.1 o.2.2.1 o.2.2.2.1 o.2.2.2.2.1 o.2.2.2.2.2.1 o.2.2.2.2.2.2.1 m_outputLength m_s o.2.2.2.2.2.2.2 m_tried m_remembered m_slots m_kept m_away m_input m_halfway m_output) ++ [])) args s 0 0 A) (wX12 ad c9 m_undoable m_undoStart m_thrown m_inputLength o3.2.1 o3.2.2.1 o3.2.2.2.1 o3.2.2.2.2.1 o3.2.2.2.2.2.1 o3.2.2.2.2.2.2.1 o3.2.2.2.2.2.2.2 m_outputLength m_s m_parsed m_tried m_remembered m_slots m_kept m_away m_input m_halfway m_output) 39 [(0, .ref (ad 0)), (1, .int o2.1), (2, .int o3.1)] [.int j4, .ref (ad 0)] := by
    obtain ⟨o6, ho6, hf⟩ := bnd hf
    refine v_callVi X (ci := 11) (T := TX12) (C := RX12) (As := [.int j4]) (rest := []) (ws' := (wX12 ad c9 m_undoable m_undoStart m_thrown m_inputLength o3.2.1 o3.2.2.1 o3.2.2.2.1 o3.2.2.2.2.1 o3.2.2.2.2.2.1 o6.2.1 o6.2.2 m_outputLength m_s m_parsed m_tried m_remembered m_slots m_kept m_away m_input m_halfway m_output)) (c_X12_mayDo l hG D c9 ad m_undoable m_undoStart m_thrown m_inputLength o3.2.1 o3.2.2.1 o3.2.2.2.1 o3.2.2.2.2.1 o3.2.2.2.2.2.1 o3.2.2.2.2.2.2.1 o3.2.2.2.2.2.2.2 m_outputLength m_s m_parsed m_tried m_remembered m_slots m_kept m_away m_input m_halfway m_output j4 ho6) 1 gX12_readRefer_X12_mayDo rfl rfl rfl ⟨rfl, pd_X12_mayDo⟩ ⟨Nat.le_of_ble_eq_true rfl, Nat.le_of_ble_eq_true rfl⟩ 0 rfl rfl rfl rfl (Nat.le_of_ble_eq_true rfl) ⟨Nat.zero_le _, Nat.zero_le _⟩ [0, 1, 2, 3, 4, 5, 6, 7, 8, 9, 10] [] [0, 1, 2, 3, 4, 5, 6, 7, 8, 9, 10] rfl rfl rfl rfl dX12_readRefer_39 42 rfl ?_
    refine v_if_eq X (tgt := 63) dX12_readRefer_42 rfl 45 rfl hf (fun hf => ?_) (fun hf => ?_)
    · refine v_aload_n X dX12_readRefer_63 0 rfl rfl 64 rfl ?_
      obtain ⟨o7, ho7, hf⟩ := bnd hf
      refine v_callVv X (ci := 11) (T := TX12) (C := RX12) (As := []) (rest := []) (ws' := (wX12 ad c9 m_undoable m_undoStart m_thrown m_inputLength o7.1 o7.2.1 o7.2.2.1 o7.2.2.2.1 o7.2.2.2.2 o6.2.1 o6.2.2 m_outputLength m_s m_parsed m_tried m_remembered m_slots m_kept m_away m_input m_halfway m_output)) (c_X12_next l hG D c9 ad m_undoable m_undoStart m_thrown m_inputLength o3.2.1 o3.2.2.1 o3.2.2.2.1 o3.2.2.2.2.1 o3.2.2.2.2.2.1 o6.2.1 o6.2.2 m_outputLength m_s m_parsed m_tried m_remembered m_slots m_kept m_away m_input m_halfway m_output ho7) 0 gX12_readRefer_X12_next rfl rfl rfl ⟨rfl, pd_X12_next⟩ ⟨Nat.le_of_ble_eq_true rfl, Nat.le_of_ble_eq_true rfl⟩ 0 rfl rfl rfl rfl (Nat.le_of_ble_eq_true rfl) ⟨Nat.zero_le _, Nat.zero_le _⟩ [0, 1, 2, 3, 4, 5, 6, 7, 8, 9, 10] [] [0, 1, 2, 3, 4, 5, 6, 7, 8, 9, 10] rfl rfl rfl rfl dX12_readRefer_64 67 rfl ?_
      cases hf
      exact v_vret X (Nat.zero_le _) (Nat.zero_le _) dX12_readRefer_67
    · refine v_aload_n X dX12_readRefer_45 0 rfl rfl 46 rfl ?_
      refine v_get X (C := RX12) (T := TX12) (N := 22) (ci := 11) (v := _) dX12_readRefer_46 k_X12_readRefer_w12 0 rfl rfl 1 (by decide) k_X12_readRefer_2 rfl rfl 49 rfl ?_
      refine v_iload_n X dX12_readRefer_49 1 rfl rfl 50 rfl ?_
      refine v_iload_n X dX12_readRefer_50 2 rfl rfl 51 rfl ?_
      refine v_iconst X dX12_readRefer_51 ic_m1 52 rfl ?_
      obtain ⟨o8, ho8, hf⟩ := bnd hf
      refine v_callSi X (As := [.ref (ad 2), .int o2.1, .int o3.1, .int (-1)]) (rest := []) (ws' := (wX12 ad c9 m_undoable m_undoStart m_thrown m_inputLength o3.2.1 o3.2.2.1 o3.2.2.2.1 o3.2.2.2.2.1 o3.2.2.2.2.2.1 o6.2.1 o6.2.2 m_outputLength m_s o8.2 m_tried m_remembered m_slots m_kept m_away m_input m_halfway m_output)) (c_X12_derive l hG D c9 (ad 2) m_parsed o2.1 o3.1 (-1) ho8) 4 gX12_readRefer_X12_derive rfl rfl rfl pd_X12_derive ⟨Nat.le_of_ble_eq_true rfl, Nat.le_of_ble_eq_true rfl⟩ rfl rfl (Nat.le_of_ble_eq_true rfl) ⟨Nat.zero_le _, Nat.zero_le _⟩ [2] [0, 1, 3, 4, 5, 6, 7, 8, 9, 10] [0, 1, 10, 2, 3, 4, 5, 6, 7, 8, 9] rfl rfl rfl rfl dX12_readRefer_52 55 rfl ?_
      refine v_if_ge X (tgt := 63) dX12_readRefer_55 rfl 58 rfl hf (fun hf => ?_) (fun hf => ?_)
      · refine v_aload_n X dX12_readRefer_63 0 rfl rfl 64 rfl ?_
        obtain ⟨o9, ho9, hf⟩ := bnd hf
        refine v_callVv X (ci := 11) (T := TX12) (C := RX12) (As := []) (rest := []) (ws' := (wX12 ad c9 m_undoable m_undoStart m_thrown m_inputLength o9.1 o9.2.1 o9.2.2.1 o9.2.2.2.1 o9.2.2.2.2 o6.2.1 o6.2.2 m_outputLength m_s o8.2 m_tried m_remembered m_slots m_kept m_away m_input m_halfway m_output)) (c_X12_next l hG D c9 ad m_undoable m_undoStart m_thrown m_inputLength o3.2.1 o3.2.2.1 o3.2.2.2.1 o3.2.2.2.2.1 o3.2.2.2.2.2.1 o6.2.1 o6.2.2 m_outputLength m_s o8.2 m_tried m_remembered m_slots m_kept m_away m_input m_halfway m_output ho9) 0 gX12_readRefer_X12_next rfl rfl rfl ⟨rfl, pd_X12_next⟩ ⟨Nat.le_of_ble_eq_true rfl, Nat.le_of_ble_eq_true rfl⟩ 0 rfl rfl rfl rfl (Nat.le_of_ble_eq_true rfl) ⟨Nat.zero_le _, Nat.zero_le _⟩ [0, 1, 2, 3, 4, 5, 6, 7, 8, 9, 10] [] [0, 1, 2, 3, 4, 5, 6, 7, 8, 9, 10] rfl rfl rfl rfl dX12_readRefer_64 67 rfl ?_
        cases hf
        exact v_vret X (Nat.zero_le _) (Nat.zero_le _) dX12_readRefer_67
      · refine v_aload_n X dX12_readRefer_58 0 rfl rfl 59 rfl ?_
        refine v_iconst X dX12_readRefer_59 ic_1 60 rfl ?_
        refine v_put X (C := RX12) (T := TX12) (N := 22) (ci := 11) (ty := tyX12 17) (ws' := (wX12 ad c9 m_undoable m_undoStart m_thrown m_inputLength o3.2.1 o3.2.2.1 o3.2.2.2.1 o3.2.2.2.2.1 o3.2.2.2.2.2.1 1 o6.2.2 m_outputLength m_s o8.2 m_tried m_remembered m_slots m_kept m_away m_input m_halfway m_output)) dX12_readRefer_60 k_X12_readRefer_w12 0 rfl rfl 17 (by decide) tyX12 tyX12_ok nmX12 k_X12_readRefer_1 rfl rfl (tyX12_ok 17 (by decide)) rfl rfl (by decide) rfl 63 rfl ?_
        refine v_aload_n X dX12_readRefer_63 0 rfl rfl 64 rfl ?_
        obtain ⟨o10, ho10, hf⟩ := bnd hf
        refine v_callVv X (ci := 11) (T := TX12) (C := RX12) (As := []) (rest := []) (ws' := (wX12 ad c9 m_undoable m_undoStart m_thrown m_inputLength o10.1 o10.2.1 o10.2.2.1 o10.2.2.2.1 o10.2.2.2.2 1 o6.2.2 m_outputLength m_s o8.2 m_tried m_remembered m_slots m_kept m_away m_input m_halfway m_output)) (c_X12_next l hG D c9 ad m_undoable m_undoStart m_thrown m_inputLength o3.2.1 o3.2.2.1 o3.2.2.2.1 o3.2.2.2.2.1 o3.2.2.2.2.2.1 1 o6.2.2 m_outputLength m_s o8.2 m_tried m_remembered m_slots m_kept m_away m_input m_halfway m_output ho10) 0 gX12_readRefer_X12_next rfl rfl rfl ⟨rfl, pd_X12_next⟩ ⟨Nat.le_of_ble_eq_true rfl, Nat.le_of_ble_eq_true rfl⟩ 0 rfl rfl rfl rfl (Nat.le_of_ble_eq_true rfl) ⟨Nat.zero_le _, Nat.zero_le _⟩ [0, 1, 2, 3, 4, 5, 6, 7, 8, 9, 10] [] [0, 1, 2, 3, 4, 5, 6, 7, 8, 9, 10] rfl rfl rfl rfl dX12_readRefer_64 67 rfl ?_
        cases hf
        exact v_vret X (Nat.zero_le _) (Nat.zero_le _) dX12_readRefer_67
  clear hf
  refine v_if_ne X (tgt := 38) dX12_readRefer_19 rfl 22 rfl hj4 (fun hf => ?_) (fun hf => ?_)
  · refine v_iconst X dX12_readRefer_38 ic_0 39 rfl ?_
    cases hf
    refine v_sub (lv' := [(0, .ref (ad 0)), (1, .int o2.1), (2, .int o3.1)]) [2, 1, 0] rfl ?_
    exact Jj4
  · refine v_aload_n X dX12_readRefer_22 2 rfl rfl 23 rfl ?_
    refine v_get X (C := RX12) (T := TX12) (N := 22) (ci := 11) (v := _) dX12_readRefer_23 k_X12_readRefer_w12 0 rfl rfl 1 (by decide) k_X12_readRefer_2 rfl rfl 26 rfl ?_
    refine v_iload_n X dX12_readRefer_26 1 rfl rfl 27 rfl ?_
    refine v_iload_n X dX12_readRefer_27 0 rfl rfl 28 rfl ?_
    obtain ⟨o5, ho5, hf⟩ := bnd hf
    refine v_callSi X (As := [.ref (ad 2), .int o2.1, .int o3.1]) (rest := [.ref (ad 0)]) (ws' := (wX12 ad c9 m_undoable m_undoStart m_thrown m_inputLength o3.2.1 o3.2.2.1 o3.2.2.2.1 o3.2.2.2.2.1 o3.2.2.2.2.2.1 o3.2.2.2.2.2.2.1 o3.2.2.2.2.2.2.2 m_outputLength m_s m_parsed m_tried m_remembered m_slots m_kept m_away m_input m_halfway m_output)) (c_X12_whyNotRefer l hG D c9 (ad 2) m_parsed o2.1 o3.1 ho5) 3 gX12_readRefer_X12_whyNotRefer rfl rfl rfl pd_X12_whyNotRefer ⟨Nat.le_of_ble_eq_true rfl, Nat.le_of_ble_eq_true rfl⟩ rfl rfl (Nat.le_of_ble_eq_true rfl) ⟨Nat.zero_le _, Nat.zero_le _⟩ [2] [0, 1, 3, 4, 5, 6, 7, 8, 9, 10] [0, 1, 10, 2, 3, 4, 5, 6, 7, 8, 9] rfl rfl rfl rfl dX12_readRefer_28 31 rfl ?_
    refine v_if_eq X (tgt := 38) dX12_readRefer_31 rfl 34 rfl hf (fun hf => ?_) (fun hf => ?_)
    · refine v_iconst X dX12_readRefer_38 ic_0 39 rfl ?_
      cases hf
      refine v_sub (lv' := [(0, .ref (ad 0)), (1, .int o2.1), (2, .int o3.1)]) [2, 1, 0] rfl ?_
      exact Jj4
    · refine v_iconst X dX12_readRefer_34 ic_1 35 rfl ?_
      refine v_goto X (tgt := 39) dX12_readRefer_35 rfl ?_
      cases hf
      refine v_sub (lv' := [(0, .ref (ad 0)), (1, .int o2.1), (2, .int o3.1)]) [2, 1, 0] rfl ?_
      exact Jj4
theorem pd_X12_readRefer : yX12_readRefer.cls ≠ "java/lang/invoke/MethodHandle" ∧ yX12_readRefer.cls ≠ "java/lang/invoke/VarHandle" ∧ (parseMethodDescriptor yX12_readRefer.desc).map (fun d => d.parameters.length) = some 0 := by decide +kernel
