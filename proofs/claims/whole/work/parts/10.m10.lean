theorem k_X12_save_w12 : ∀ w ∈ u_ws RX12 TX12 22, w ∈ wsX12_save := in_r _ [20, 21, 22, 23, 24, 25, 26, 27, 28, 29, 30, 31, 32, 33, 34, 35, 36, 37, 38, 39, 40, 41] rfl
theorem k_X12_save_1 : Cond.fieldLink RX12 7 "TicketGateModel" "s" "[I" ∈ wsX12_save := List.mem_of_getElem? (i := 1) rfl
theorem k_X12_save_2 : Cond.fieldLink RX12 22 "TicketGateModel" "slots" "[I" ∈ wsX12_save := List.mem_of_getElem? (i := 2) rfl
theorem k_X12_save_3 : Cond.fieldLink RX12 25 "TicketGateModel" "kept" "[Z" ∈ wsX12_save := List.mem_of_getElem? (i := 3) rfl
def f_X12_save (m_thrown : Int32) (m_s : Nat → Int32) (m_slots : Nat → Int32) (m_kept : Nat → Int32) (v1 : Int32) : Option (Int32 × Int32 × (Nat → Int32) × (Nat → Int32)) :=
  (f_X12_noNumber m_thrown v1 0 1).bind fun o1 =>
  if o1.1 = 0 then (
    (f_X12_copyRow 463 926 m_s m_slots 0 (463 * v1)).bind fun o2 =>
    (wr m_kept 2 v1 (vp_nar .boolean 1)).bind fun g3 =>
    (rd m_s 463 0).bind fun x4 =>
    some (x4, o1.2, o2, g3))
  else (
    some (0, o1.2, m_slots, m_kept))
set_option maxRecDepth 100000 in
set_option maxHeartbeats 4000000 in
theorem c_X12_save (l : Launch) {G : (Nat → Prop) → State → Heap → Prop} (hG : vG G) (D : va_G) (c9 : Nat → ClassId) (ad : Nat → Nat) (m_undoable : Int32) (m_undoStart : Int32) (m_thrown : Int32) (m_inputLength : Int32) (m_position : Int32) (m_start : Int32) (m_token : Int32) (m_value : Int32) (m_letters : Int32) (m_code : Int32) (m_place : Int32) (m_outputLength : Int32) (m_s : Nat → Int32) (m_parsed : Nat → Int32) (m_tried : Nat → Int32) (m_remembered : Nat → Int32) (m_slots : Nat → Int32) (m_kept : Nat → Int32) (m_away : Nat → Int32) (m_input : Nat → Int32) (m_halfway : Nat → Int32) (m_output : Nat → Int32) (v1 : Int32) {o : Int32 × Int32 × (Nat → Int32) × (Nat → Int32)} (hf : f_X12_save m_thrown m_s m_slots m_kept v1 = some o) : mI l yX12_save wsX12_save { frames := 2, cells := 0, slots := 0, locals := 45 } G D (tyA c9) [.ref (ad 0), .int v1] (wX12 ad c9 m_undoable m_undoStart m_thrown m_inputLength m_position m_start m_token m_value m_letters m_code m_place m_outputLength m_s m_parsed m_tried m_remembered m_slots m_kept m_away m_input m_halfway m_output) [] 0 0 o.1 (wX12 ad c9 m_undoable m_undoStart o.2.1 m_inputLength m_position m_start m_token m_value m_letters m_code m_place m_outputLength m_s m_parsed m_tried m_remembered o.2.2.1 o.2.2.2 m_away m_input m_halfway m_output) := by
  refine mI_of hG (cc := cX12_save) (maxL := 2) (ty := .int) (by decide) rfl (Nat.le_of_ble_eq_true rfl) ?_
  intro p e s m args below meth c A X
  have X : vX p s m args meth c cX12_save 2 (some .int) RX12 wsX12_save D (tyA c9) G A := X
  refine v_eq (lv2 := [(0, .ref (ad 0)), (1, .int v1)]) rfl rfl rfl rfl ?_
  rw [f_X12_save] at hf
  refine v_aload_n X dX12_save_0 0 rfl rfl 1 rfl ?_
  refine v_iload_n X dX12_save_1 1 rfl rfl 2 rfl ?_
  refine v_iconst X dX12_save_2 ic_0 3 rfl ?_
  refine v_iconst X dX12_save_3 ic_1 4 rfl ?_
  obtain ⟨o1, ho1, hf⟩ := bnd hf
  refine v_callVi X (ci := 11) (T := TX12) (C := RX12) (As := [.int v1, .int 0, .int 1]) (rest := []) (ws' := (wX12 ad c9 m_undoable m_undoStart o1.2 m_inputLength m_position m_start m_token m_value m_letters m_code m_place m_outputLength m_s m_parsed m_tried m_remembered m_slots m_kept m_away m_input m_halfway m_output)) (c_X12_noNumber l hG D c9 ad m_undoable m_undoStart m_thrown m_inputLength m_position m_start m_token m_value m_letters m_code m_place m_outputLength m_s m_parsed m_tried m_remembered m_slots m_kept m_away m_input m_halfway m_output v1 0 1 ho1) 3 gX12_save_X12_noNumber rfl rfl rfl ⟨rfl, pd_X12_noNumber⟩ ⟨Nat.le_of_ble_eq_true rfl, Nat.le_of_ble_eq_true rfl⟩ 0 rfl rfl rfl rfl (Nat.le_of_ble_eq_true rfl) ⟨Nat.zero_le _, Nat.zero_le _⟩ [0, 1, 2, 3, 4, 5, 6, 7, 8, 9, 10] [] [0, 1, 2, 3, 4, 5, 6, 7, 8, 9, 10] rfl rfl rfl rfl dX12_save_4 7 rfl ?_
  refine v_if_eq X (tgt := 12) dX12_save_7 rfl 10 rfl hf (fun hf => ?_) (fun hf => ?_)
  · refine v_aload_n X dX12_save_12 0 rfl rfl 13 rfl ?_
    refine v_get X (C := RX12) (T := TX12) (N := 22) (ci := 11) (v := _) dX12_save_13 k_X12_save_w12 0 rfl rfl 0 (by decide) k_X12_save_1 rfl rfl 16 rfl ?_
    refine v_iconst X dX12_save_16 ic_0 17 rfl ?_
    refine v_aload_n X dX12_save_17 0 rfl rfl 18 rfl ?_
    refine v_get X (C := RX12) (T := TX12) (N := 22) (ci := 11) (v := _) dX12_save_18 k_X12_save_w12 0 rfl rfl 4 (by decide) k_X12_save_2 rfl rfl 21 rfl ?_
    refine v_sipush X dX12_save_21 sp_463 24 rfl ?_
    refine v_iload_n X dX12_save_24 1 rfl rfl 25 rfl ?_
    refine v_imul X dX12_save_25 26 rfl ?_
    obtain ⟨o2, ho2, hf⟩ := bnd hf
    refine v_callSv X (As := [.ref (ad 1), .int 0, .ref (ad 5), .int (463 * v1)]) (rest := []) (ws' := (wX12 ad c9 m_undoable m_undoStart o1.2 m_inputLength m_position m_start m_token m_value m_letters m_code m_place m_outputLength m_s m_parsed m_tried m_remembered o2 m_kept m_away m_input m_halfway m_output)) (c_X12_copyRow l hG D c9 (ad 1) (ad 5) 463 926 m_s m_slots 0 (463 * v1) ho2) 4 gX12_save_X12_copyRow rfl rfl rfl pd_X12_copyRow ⟨Nat.le_of_ble_eq_true rfl, Nat.le_of_ble_eq_true rfl⟩ rfl rfl (Nat.le_of_ble_eq_true rfl) ⟨Nat.zero_le _, Nat.zero_le _⟩ [1, 5] [0, 2, 3, 4, 6, 7, 8, 9, 10] [0, 9, 1, 2, 3, 10, 4, 5, 6, 7, 8] rfl rfl rfl rfl dX12_save_26 29 rfl ?_
    refine v_aload_n X dX12_save_29 0 rfl rfl 30 rfl ?_
    refine v_get X (C := RX12) (T := TX12) (N := 22) (ci := 11) (v := _) dX12_save_30 k_X12_save_w12 0 rfl rfl 5 (by decide) k_X12_save_3 rfl rfl 33 rfl ?_
    refine v_iload_n X dX12_save_33 1 rfl rfl 34 rfl ?_
    refine v_iconst X dX12_save_34 ic_1 35 rfl ?_
    obtain ⟨g3, hg3, hf⟩ := bnd hf
    refine v_zast X (ws' := (wX12 ad c9 m_undoable m_undoStart o1.2 m_inputLength m_position m_start m_token m_value m_letters m_code m_place m_outputLength m_s m_parsed m_tried m_remembered o2 g3 m_away m_input m_halfway m_output)) dX12_save_35 6 1 rfl rfl hg3 rfl 36 rfl ?_
    refine v_aload_n X dX12_save_36 0 rfl rfl 37 rfl ?_
    refine v_get X (C := RX12) (T := TX12) (N := 22) (ci := 11) (v := _) dX12_save_37 k_X12_save_w12 0 rfl rfl 0 (by decide) k_X12_save_1 rfl rfl 40 rfl ?_
    refine v_iconst X dX12_save_40 ic_0 41 rfl ?_
    obtain ⟨x4, hx4, hf⟩ := bnd hf
    refine v_iald X dX12_save_41 1 0 rfl rfl hx4 42 rfl ?_
    cases hf
    exact v_iret X (Nat.zero_le _) (Nat.zero_le _) dX12_save_42
  · refine v_iconst X dX12_save_10 ic_0 11 rfl ?_
    cases hf
    exact v_iret X (Nat.zero_le _) (Nat.zero_le _) dX12_save_11
theorem pd_X12_save : yX12_save.cls ≠ "java/lang/invoke/MethodHandle" ∧ yX12_save.cls ≠ "java/lang/invoke/VarHandle" ∧ (parseMethodDescriptor yX12_save.desc).map (fun d => d.parameters.length) = some 1 := by decide +kernel
theorem k_X12_restore_w12 : ∀ w ∈ u_ws RX12 TX12 22, w ∈ wsX12_restore := in_r _ [27, 28, 29, 30, 31, 32, 33, 34, 35, 36, 37, 38, 39, 40, 41, 42, 43, 44, 45, 46, 47, 48] rfl
theorem k_X12_restore_1 : Cond.fieldLink RX12 25 "TicketGateModel" "kept" "[Z" ∈ wsX12_restore := List.mem_of_getElem? (i := 1) rfl
theorem k_X12_restore_2 : Cond.fieldLink RX12 22 "TicketGateModel" "slots" "[I" ∈ wsX12_restore := List.mem_of_getElem? (i := 2) rfl
theorem k_X12_restore_3 : Cond.fieldLink RX12 7 "TicketGateModel" "s" "[I" ∈ wsX12_restore := List.mem_of_getElem? (i := 3) rfl
def f_X12_restore (m_undoable : Int32) (m_undoStart : Int32) (m_thrown : Int32) (m_s : Nat → Int32) (m_remembered : Nat → Int32) (m_slots : Nat → Int32) (m_kept : Nat → Int32) (v1 : Int32) : Option (Int32 × Int32 × Int32 × Int32 × (Nat → Int32) × (Nat → Int32)) :=
  (f_X12_noNumber m_thrown v1 0 1).bind fun o1 =>
  if o1.1 = 0 then (
    (rd m_kept 2 v1).bind fun x2 =>
    Option.bind (if x2 = 0 then (
      some (1))
    else (
      some (0)) : Option (Int32)) fun j3 =>
    (f_X12_refuses o1.2 j3 2).bind fun o4 =>
    if o4.1 = 0 then (
      (f_X12_remember m_undoable m_undoStart m_s m_remembered).bind fun o5 =>
      (f_X12_copyRow 926 463 m_slots m_s (463 * v1) 0).bind fun o6 =>
      (rd o6 463 0).bind fun x7 =>
      some (x7, o5.1, o5.2.1, o4.2, o6, o5.2.2))
    else (
      some (0, m_undoable, m_undoStart, o4.2, m_s, m_remembered)))
  else (
    some (0, m_undoable, m_undoStart, o1.2, m_s, m_remembered))
set_option maxRecDepth 100000 in
set_option maxHeartbeats 4000000 in
theorem c_X12_restore (l : Launch) {G : (Nat → Prop) → State → Heap → Prop} (hG : vG G) (D : va_G) (c9 : Nat → ClassId) (ad : Nat → Nat) (m_undoable : Int32) (m_undoStart : Int32) (m_thrown : Int32) (m_inputLength : Int32) (m_position : Int32) (m_start : Int32) (m_token : Int32) (m_value : Int32) (m_letters : Int32) (m_code : Int32) (m_place : Int32) (m_outputLength : Int32) (m_s : Nat → Int32) (m_parsed : Nat → Int32) (m_tried : Nat → Int32) (m_remembered : Nat → Int32) (m_slots : Nat → Int32) (m_kept : Nat → Int32) (m_away : Nat → Int32) (m_input : Nat → Int32) (m_halfway : Nat → Int32) (m_output : Nat → Int32) (v1 : Int32) {o : Int32 × Int32 × Int32 × Int32 × (Nat → Int32) × (Nat → Int32)} (hf : f_X12_restore m_undoable m_undoStart m_thrown m_s m_remembered m_slots m_kept v1 = some o) : mI l yX12_restore wsX12_restore { frames := 2, cells := 0, slots := 0, locals := 45 } G D (tyA c9) [.ref (ad 0), .int v1] (wX12 ad c9 m_undoable m_undoStart m_thrown m_inputLength m_position m_start m_token m_value m_letters m_code m_place m_outputLength m_s m_parsed m_tried m_remembered m_slots m_kept m_away m_input m_halfway m_output) [] 0 0 o.1 (wX12 ad c9 o.2.1 o.2.2.1 o.2.2.2.1 m_inputLength m_position m_start m_token m_value m_letters m_code m_place m_outputLength o.2.2.2.2.1 m_parsed m_tried o.2.2.2.2.2 m_slots m_kept m_away m_input m_halfway m_output) := by
  refine mI_of hG (cc := cX12_restore) (maxL := 2) (ty := .int) (by decide) rfl (Nat.le_of_ble_eq_true rfl) ?_
  intro p e s m args below meth c A X
  have X : vX p s m args meth c cX12_restore 2 (some .int) RX12 wsX12_restore D (tyA c9) G A := X
  refine v_eq (lv2 := [(0, .ref (ad 0)), (1, .int v1)]) rfl rfl rfl rfl ?_
  rw [f_X12_restore] at hf
  refine v_aload_n X dX12_restore_0 0 rfl rfl 1 rfl ?_
  refine v_iload_n X dX12_restore_1 1 rfl rfl 2 rfl ?_
  refine v_iconst X dX12_restore_2 ic_0 3 rfl ?_
  refine v_iconst X dX12_restore_3 ic_1 4 rfl ?_
  obtain ⟨o1, ho1, hf⟩ := bnd hf
  refine v_callVi X (ci := 11) (T := TX12) (C := RX12) (As := [.int v1, .int 0, .int 1]) (rest := []) (ws' := (wX12 ad c9 m_undoable m_undoStart o1.2 m_inputLength m_position m_start m_token m_value m_letters m_code m_place m_outputLength m_s m_parsed m_tried m_remembered m_slots m_kept m_away m_input m_halfway m_output)) (c_X12_noNumber l hG D c9 ad m_undoable m_undoStart m_thrown m_inputLength m_position m_start m_token m_value m_letters m_code m_place m_outputLength m_s m_parsed m_tried m_remembered m_slots m_kept m_away m_input m_halfway m_output v1 0 1 ho1) 3 gX12_restore_X12_noNumber rfl rfl rfl ⟨rfl, pd_X12_noNumber⟩ ⟨Nat.le_of_ble_eq_true rfl, Nat.le_of_ble_eq_true rfl⟩ 0 rfl rfl rfl rfl (Nat.le_of_ble_eq_true rfl) ⟨Nat.zero_le _, Nat.zero_le _⟩ [0, 1, 2, 3, 4, 5, 6, 7, 8, 9, 10] [] [0, 1, 2, 3, 4, 5, 6, 7, 8, 9, 10] rfl rfl rfl rfl dX12_restore_4 7 rfl ?_
  refine v_if_ne X (tgt := 32) dX12_restore_7 rfl 10 rfl hf (fun hf => ?_) (fun hf => ?_)
  · refine v_iconst X dX12_restore_32 ic_0 33 rfl ?_
    cases hf
    exact v_iret X (Nat.zero_le _) (Nat.zero_le _) dX12_restore_33
  · refine v_aload_n X dX12_restore_10 0 rfl rfl 11 rfl ?_
    refine v_aload_n X dX12_restore_11 0 rfl rfl 12 rfl ?_
    refine v_get X (C := RX12) (T := TX12) (N := 22) (ci := 11) (v := _) dX12_restore_12 k_X12_restore_w12 0 rfl rfl 5 (by decide) k_X12_restore_1 rfl rfl 15 rfl ?_
    refine v_iload_n X dX12_restore_15 1 rfl rfl 16 rfl ?_
    obtain ⟨x2, hx2, hf⟩ := bnd hf
    refine v_zald X dX12_restore_16 6 1 rfl rfl hx2 17 rfl ?_
    obtain ⟨j3, hj3, hf⟩ := bnd hf
    have Jj3 : vW p l e { frames := 2, cells := 0, slots := 0, locals := 45 } s m args below meth c 2 D A [] 0 0 (MQ below (eI D (tyA c9) A o.1 ((wX12 ad c9 o.2.1 o.2.2.1 o.2.2.2.1 m_inputLength m_position m_start m_token m_value m_letters m_code m_place m_outputLength o.2.2.2.2.1 m_parsed m_tried o.2.2.2.2.2 m_slots m_kept m_away m_input m_halfway m_output) ++ [])) args s 0 0 A) (wX12 ad c9 m_undoable m_undoStart o1.2 m_inputLength m_position m_start m_token m_value m_letters m_code m_place m_outputLength m_s m_parsed m_tried m_remembered m_slots m_kept m_away m_input m_halfway m_output) 25 [(0, .ref (ad 0)), (1, .int v1)] [.int j3, .ref (ad 0)] := by
      refine v_iconst X dX12_restore_25 ic_2 26 rfl ?_
      obtain ⟨o4, ho4, hf⟩ := bnd hf
      refine v_callVi X (ci := 11) (T := TX12) (C := RX12) (As := [.int j3, .int 2]) (rest := []) (ws' := (wX12 ad c9 m_undoable m_undoStart o4.2 m_inputLength m_position m_start m_token m_value m_letters m_code m_place m_outputLength m_s m_parsed m_tried m_remembered m_slots m_kept m_away m_input m_halfway m_output)) (c_X12_refuses l hG D c9 ad m_undoable m_undoStart o1.2 m_inputLength m_position m_start m_token m_value m_letters m_code m_place m_outputLength m_s m_parsed m_tried m_remembered m_slots m_kept m_away m_input m_halfway m_output j3 2 ho4) 2 gX12_restore_X12_refuses rfl rfl rfl ⟨rfl, pd_X12_refuses⟩ ⟨Nat.le_of_ble_eq_true rfl, Nat.le_of_ble_eq_true rfl⟩ 0 rfl rfl rfl rfl (Nat.le_of_ble_eq_true rfl) ⟨Nat.zero_le _, Nat.zero_le _⟩ [0, 1, 2, 3, 4, 5, 6, 7, 8, 9, 10] [] [0, 1, 2, 3, 4, 5, 6, 7, 8, 9, 10] rfl rfl rfl rfl dX12_restore_26 29 rfl ?_
      refine v_if_eq X (tgt := 34) dX12_restore_29 rfl 32 rfl hf (fun hf => ?_) (fun hf => ?_)
      · refine v_aload_n X dX12_restore_34 0 rfl rfl 35 rfl ?_
        obtain ⟨o5, ho5, hf⟩ := bnd hf
        refine v_callVv X (ci := 11) (T := TX12) (C := RX12) (As := []) (rest := []) (ws' := (wX12 ad c9 o5.1 o5.2.1 o4.2 m_inputLength m_position m_start m_token m_value m_letters m_code m_place m_outputLength m_s m_parsed m_tried o5.2.2 m_slots m_kept m_away m_input m_halfway m_output)) (c_X12_remember l hG D c9 ad m_undoable m_undoStart o4.2 m_inputLength m_position m_start m_token m_value m_letters m_code m_place m_outputLength m_s m_parsed m_tried m_remembered m_slots m_kept m_away m_input m_halfway m_output ho5) 0 gX12_restore_X12_remember rfl rfl rfl ⟨rfl, pd_X12_remember⟩ ⟨Nat.le_of_ble_eq_true rfl, Nat.le_of_ble_eq_true rfl⟩ 0 rfl rfl rfl rfl (Nat.le_of_ble_eq_true rfl) ⟨Nat.zero_le _, Nat.zero_le _⟩ [0, 1, 2, 3, 4, 5, 6, 7, 8, 9, 10] [] [0, 1, 2, 3, 4, 5, 6, 7, 8, 9, 10] rfl rfl rfl rfl dX12_restore_35 38 rfl ?_
        refine v_aload_n X dX12_restore_38 0 rfl rfl 39 rfl ?_
        refine v_get X (C := RX12) (T := TX12) (N := 22) (ci := 11) (v := _) dX12_restore_39 k_X12_restore_w12 0 rfl rfl 4 (by decide) k_X12_restore_2 rfl rfl 42 rfl ?_
        refine v_sipush X dX12_restore_42 sp_463 45 rfl ?_
        refine v_iload_n X dX12_restore_45 1 rfl rfl 46 rfl ?_
        refine v_imul X dX12_restore_46 47 rfl ?_
        refine v_aload_n X dX12_restore_47 0 rfl rfl 48 rfl ?_
        refine v_get X (C := RX12) (T := TX12) (N := 22) (ci := 11) (v := _) dX12_restore_48 k_X12_restore_w12 0 rfl rfl 0 (by decide) k_X12_restore_3 rfl rfl 51 rfl ?_
        refine v_iconst X dX12_restore_51 ic_0 52 rfl ?_
        obtain ⟨o6, ho6, hf⟩ := bnd hf
        refine v_callSv X (As := [.ref (ad 5), .int (463 * v1), .ref (ad 1), .int 0]) (rest := []) (ws' := (wX12 ad c9 o5.1 o5.2.1 o4.2 m_inputLength m_position m_start m_token m_value m_letters m_code m_place m_outputLength o6 m_parsed m_tried o5.2.2 m_slots m_kept m_away m_input m_halfway m_output)) (c_X12_copyRow l hG D c9 (ad 5) (ad 1) 926 463 m_slots m_s (463 * v1) 0 ho6) 4 gX12_restore_X12_copyRow rfl rfl rfl pd_X12_copyRow ⟨Nat.le_of_ble_eq_true rfl, Nat.le_of_ble_eq_true rfl⟩ rfl rfl (Nat.le_of_ble_eq_true rfl) ⟨Nat.zero_le _, Nat.zero_le _⟩ [5, 1] [0, 2, 3, 4, 6, 7, 8, 9, 10] [0, 10, 1, 2, 3, 9, 4, 5, 6, 7, 8] rfl rfl rfl rfl dX12_restore_52 55 rfl ?_
        refine v_aload_n X dX12_restore_55 0 rfl rfl 56 rfl ?_
        refine v_get X (C := RX12) (T := TX12) (N := 22) (ci := 11) (v := _) dX12_restore_56 k_X12_restore_w12 0 rfl rfl 0 (by decide) k_X12_restore_3 rfl rfl 59 rfl ?_
        refine v_iconst X dX12_restore_59 ic_0 60 rfl ?_
        obtain ⟨x7, hx7, hf⟩ := bnd hf
        refine v_iald X dX12_restore_60 1 0 rfl rfl hx7 61 rfl ?_
        cases hf
        exact v_iret X (Nat.zero_le _) (Nat.zero_le _) dX12_restore_61
      · refine v_iconst X dX12_restore_32 ic_0 33 rfl ?_
        cases hf
        exact v_iret X (Nat.zero_le _) (Nat.zero_le _) dX12_restore_33
    clear hf
    refine v_if_ne X (tgt := 24) dX12_restore_17 rfl 20 rfl hj3 (fun hf => ?_) (fun hf => ?_)
    · refine v_iconst X dX12_restore_24 ic_0 25 rfl ?_
      cases hf
      exact Jj3
    · refine v_iconst X dX12_restore_20 ic_1 21 rfl ?_
      refine v_goto X (tgt := 25) dX12_restore_21 rfl ?_
      cases hf
      exact Jj3
theorem pd_X12_restore : yX12_restore.cls ≠ "java/lang/invoke/MethodHandle" ∧ yX12_restore.cls ≠ "java/lang/invoke/VarHandle" ∧ (parseMethodDescriptor yX12_restore.desc).map (fun d => d.parameters.length) = some 1 := by decide +kernel
