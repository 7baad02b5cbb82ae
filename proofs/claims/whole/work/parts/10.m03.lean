def f_X12_noNumber (m_thrown : Int32) (v1 : Int32) (v2 : Int32) (v3 : Int32) : Option (Int32 × Int32) :=
  (f_X12_isBetween v1 v2 v3).bind fun o1 =>
  if o1 = 0 then (
    (f_X12_refuses 0 1 1).bind fun o4 =>
    (zr o4.1).bind fun z5 => some (z5, o4.2))
  else (
    (f_X12_refuses 0 0 1).bind fun o2 =>
    (zr o2.1).bind fun z3 => some (z3, o2.2))
set_option maxRecDepth 100000 in
set_option maxHeartbeats 4000000 in
theorem c_X12_noNumber (l : Launch) {G : (Nat → Prop) → State → Heap → Prop} (hG : vG G) (D : va_G) (c9 : Nat → ClassId) (ad : Nat → Nat) (m_undoable : Int32) (m_undoStart : Int32) (m_thrown : Int32) (m_inputLength : Int32) (m_position : Int32) (m_start : Int32) (m_token : Int32) (m_value : Int32) (m_letters : Int32) (m_code : Int32) (m_place : Int32) (m_outputLength : Int32) (m_s : Nat → Int32) (m_parsed : Nat → Int32) (m_tried : Nat → Int32) (m_remembered : Nat → Int32) (m_slots : Nat → Int32) (m_kept : Nat → Int32) (m_away : Nat → Int32) (m_input : Nat → Int32) (m_halfway : Nat → Int32) (m_output : Nat → Int32) (v1 : Int32) (v2 : Int32) (v3 : Int32) {o : Int32 × Int32} (hf : f_X12_noNumber m_thrown v1 v2 v3 = some o) : mI l yX12_noNumber (wq yX12_noNumber cX12_noNumber 4 (some .boolean)) { frames := 1, cells := 0, slots := 0, locals := 22 } G D (tyA c9) [.ref (ad 0), .int v1, .int v2, .int v3] (wX12 ad c9 m_undoable m_undoStart m_thrown m_inputLength m_position m_start m_token m_value m_letters m_code m_place m_outputLength m_s m_parsed m_tried m_remembered m_slots m_kept m_away m_input m_halfway m_output) [] 0 0 o.1 (wX12 ad c9 m_undoable m_undoStart o.2 m_inputLength m_position m_start m_token m_value m_letters m_code m_place m_outputLength m_s m_parsed m_tried m_remembered m_slots m_kept m_away m_input m_halfway m_output) := by
  refine mI_of hG (cc := cX12_noNumber) (maxL := 4) (ty := .boolean) (by decide) rfl (Nat.le_of_ble_eq_true rfl) ?_
  intro p e s m args below meth c A X
  have X : vX p s m args meth c cX12_noNumber 4 (some .boolean) RX12 (wq yX12_noNumber cX12_noNumber 4 (some .boolean)) D (tyA c9) G A := X
  refine v_eq (lv2 := [(0, .ref (ad 0)), (1, .int v1), (2, .int v2), (3, .int v3)]) rfl rfl rfl rfl ?_
  rw [f_X12_noNumber] at hf
  refine v_aload_n X dX12_noNumber_0 0 rfl rfl 1 rfl ?_
  refine v_iconst X dX12_noNumber_1 ic_0 2 rfl ?_
  refine v_put X (C := RX12) (T := TX12) (N := 22) (ci := 11) (ty := tyX12 8) (ws' := (wX12 ad c9 m_undoable m_undoStart 0 m_inputLength m_position m_start m_token m_value m_letters m_code m_place m_outputLength m_s m_parsed m_tried m_remembered m_slots m_kept m_away m_input m_halfway m_output)) dX12_noNumber_2 (lay_of laym_X12) 0 rfl rfl 8 (by decide) tyX12 tyX12_ok nmX12 (mw wm_33) rfl rfl (tyX12_ok 8 (by decide)) rfl rfl (Nat.le_of_ble_eq_true rfl) rfl 5 rfl ?_
  refine v_aload_n X dX12_noNumber_5 0 rfl rfl 6 rfl ?_
  refine v_iload_n X dX12_noNumber_6 1 rfl rfl 7 rfl ?_
  refine v_iload_n X dX12_noNumber_7 2 rfl rfl 8 rfl ?_
  refine v_iload_n X dX12_noNumber_8 3 rfl rfl 9 rfl ?_
  obtain ⟨o1, ho1, hf⟩ := bnd hf
  refine v_callSi X (As := [.int v1, .int v2, .int v3]) (rest := [.ref (ad 0)]) (ws' := (wX12 ad c9 m_undoable m_undoStart 0 m_inputLength m_position m_start m_token m_value m_letters m_code m_place m_outputLength m_s m_parsed m_tried m_remembered m_slots m_kept m_away m_input m_halfway m_output)) (c_X12_isBetween l hG D c9 v1 v2 v3 ho1) 3 (gS wm_111 wm_112 wm_37 wm_113) rfl rfl rfl pd_X12_isBetween ⟨Nat.le_of_ble_eq_true rfl, Nat.le_of_ble_eq_true rfl⟩ rfl rfl (Nat.le_of_ble_eq_true rfl) ⟨Nat.zero_le _, Nat.zero_le _⟩ [] [0, 1, 2, 3, 4, 5, 6, 7, 8, 9, 10] [0, 1, 2, 3, 4, 5, 6, 7, 8, 9, 10] rfl rfl rfl rfl dX12_noNumber_9 12 rfl ?_
  refine v_if_ne X (tgt := 19) dX12_noNumber_12 rfl 15 rfl hf (fun hf => ?_) (fun hf => ?_)
  · refine v_iconst X dX12_noNumber_19 ic_0 20 rfl ?_
    refine v_iconst X dX12_noNumber_20 ic_1 21 rfl ?_
    obtain ⟨o2, ho2, hf⟩ := bnd hf
    refine v_callVi X (ci := 11) (T := TX12) (C := RX12) (As := [.int 0, .int 1]) (rest := []) (ws' := (wX12 ad c9 m_undoable m_undoStart o2.2 m_inputLength m_position m_start m_token m_value m_letters m_code m_place m_outputLength m_s m_parsed m_tried m_remembered m_slots m_kept m_away m_input m_halfway m_output)) (c_X12_refuses l hG D c9 ad m_undoable m_undoStart 0 m_inputLength m_position m_start m_token m_value m_letters m_code m_place m_outputLength m_s m_parsed m_tried m_remembered m_slots m_kept m_away m_input m_halfway m_output 0 1 ho2) 2 (gV wm_103 wm_104 wm_105 wm_37 wm_106) rfl rfl rfl ⟨rfl, pd_X12_refuses⟩ ⟨Nat.le_of_ble_eq_true rfl, Nat.le_of_ble_eq_true rfl⟩ 0 rfl rfl rfl rfl (Nat.le_of_ble_eq_true rfl) ⟨Nat.zero_le _, Nat.zero_le _⟩ [0, 1, 2, 3, 4, 5, 6, 7, 8, 9, 10] [] [0, 1, 2, 3, 4, 5, 6, 7, 8, 9, 10] rfl rfl rfl rfl dX12_noNumber_21 24 rfl ?_
    obtain ⟨z3, hz3, hf⟩ := bnd hf
    obtain rfl := Option.some.inj hf
    exact v_zretq hz3 X (Nat.zero_le _) (Nat.zero_le _) dX12_noNumber_24
  · refine v_iconst X dX12_noNumber_15 ic_1 16 rfl ?_
    refine v_goto X (tgt := 20) dX12_noNumber_16 rfl ?_
    refine v_iconst X dX12_noNumber_20 ic_1 21 rfl ?_
    obtain ⟨o4, ho4, hf⟩ := bnd hf
    refine v_callVi X (ci := 11) (T := TX12) (C := RX12) (As := [.int 1, .int 1]) (rest := []) (ws' := (wX12 ad c9 m_undoable m_undoStart o4.2 m_inputLength m_position m_start m_token m_value m_letters m_code m_place m_outputLength m_s m_parsed m_tried m_remembered m_slots m_kept m_away m_input m_halfway m_output)) (c_X12_refuses l hG D c9 ad m_undoable m_undoStart 0 m_inputLength m_position m_start m_token m_value m_letters m_code m_place m_outputLength m_s m_parsed m_tried m_remembered m_slots m_kept m_away m_input m_halfway m_output 1 1 ho4) 2 (gV wm_103 wm_104 wm_105 wm_37 wm_106) rfl rfl rfl ⟨rfl, pd_X12_refuses⟩ ⟨Nat.le_of_ble_eq_true rfl, Nat.le_of_ble_eq_true rfl⟩ 0 rfl rfl rfl rfl (Nat.le_of_ble_eq_true rfl) ⟨Nat.zero_le _, Nat.zero_le _⟩ [0, 1, 2, 3, 4, 5, 6, 7, 8, 9, 10] [] [0, 1, 2, 3, 4, 5, 6, 7, 8, 9, 10] rfl rfl rfl rfl dX12_noNumber_21 24 rfl ?_
    obtain ⟨z5, hz5, hf⟩ := bnd hf
    obtain rfl := Option.some.inj hf
    exact v_zretq hz5 X (Nat.zero_le _) (Nat.zero_le _) dX12_noNumber_24
theorem pd_X12_noNumber : yX12_noNumber.cls ≠ "java/lang/invoke/MethodHandle" ∧ yX12_noNumber.cls ≠ "java/lang/invoke/VarHandle" ∧ (parseMethodDescriptor yX12_noNumber.desc).map (fun d => d.parameters.length) = some 3 := by decide +kernel
def f_X12_truncateInput (m_thrown : Int32) (m_inputLength : Int32) (v1 : Int32) : Option (Int32 × Int32 × Int32) :=
  (f_X12_noNumber m_thrown v1 0 m_inputLength).bind fun o1 =>
  if o1.1 = 0 then (
    some (v1, o1.2, v1))
  else (
    some (0, o1.2, m_inputLength))
set_option maxRecDepth 100000 in
set_option maxHeartbeats 4000000 in
theorem c_X12_truncateInput (l : Launch) {G : (Nat → Prop) → State → Heap → Prop} (hG : vG G) (D : va_G) (c9 : Nat → ClassId) (ad : Nat → Nat) (m_undoable : Int32) (m_undoStart : Int32) (m_thrown : Int32) (m_inputLength : Int32) (m_position : Int32) (m_start : Int32) (m_token : Int32) (m_value : Int32) (m_letters : Int32) (m_code : Int32) (m_place : Int32) (m_outputLength : Int32) (m_s : Nat → Int32) (m_parsed : Nat → Int32) (m_tried : Nat → Int32) (m_remembered : Nat → Int32) (m_slots : Nat → Int32) (m_kept : Nat → Int32) (m_away : Nat → Int32) (m_input : Nat → Int32) (m_halfway : Nat → Int32) (m_output : Nat → Int32) (v1 : Int32) {o : Int32 × Int32 × Int32} (hf : f_X12_truncateInput m_thrown m_inputLength v1 = some o) : mI l yX12_truncateInput (wq yX12_truncateInput cX12_truncateInput 2 (some .int)) { frames := 2, cells := 0, slots := 0, locals := 45 } G D (tyA c9) [.ref (ad 0), .int v1] (wX12 ad c9 m_undoable m_undoStart m_thrown m_inputLength m_position m_start m_token m_value m_letters m_code m_place m_outputLength m_s m_parsed m_tried m_remembered m_slots m_kept m_away m_input m_halfway m_output) [] 0 0 o.1 (wX12 ad c9 m_undoable m_undoStart o.2.1 o.2.2 m_position m_start m_token m_value m_letters m_code m_place m_outputLength m_s m_parsed m_tried m_remembered m_slots m_kept m_away m_input m_halfway m_output) := by
  refine mI_of hG (cc := cX12_truncateInput) (maxL := 2) (ty := .int) (by decide) rfl (Nat.le_of_ble_eq_true rfl) ?_
  intro p e s m args below meth c A X
  have X : vX p s m args meth c cX12_truncateInput 2 (some .int) RX12 (wq yX12_truncateInput cX12_truncateInput 2 (some .int)) D (tyA c9) G A := X
  refine v_eq (lv2 := [(0, .ref (ad 0)), (1, .int v1)]) rfl rfl rfl rfl ?_
  rw [f_X12_truncateInput] at hf
  refine v_aload_n X dX12_truncateInput_0 0 rfl rfl 1 rfl ?_
  refine v_iload_n X dX12_truncateInput_1 1 rfl rfl 2 rfl ?_
  refine v_iconst X dX12_truncateInput_2 ic_0 3 rfl ?_
  refine v_aload_n X dX12_truncateInput_3 0 rfl rfl 4 rfl ?_
  refine v_get X (C := RX12) (T := TX12) (N := 22) (ci := 11) (v := _) dX12_truncateInput_4 (lay_of laym_X12) 0 rfl rfl 11 (by decide) (mw wm_32) rfl rfl 7 rfl ?_
  obtain ⟨o1, ho1, hf⟩ := bnd hf
  refine v_callVi X (ci := 11) (T := TX12) (C := RX12) (As := [.int v1, .int 0, .int m_inputLength]) (rest := []) (ws' := (wX12 ad c9 m_undoable m_undoStart o1.2 m_inputLength m_position m_start m_token m_value m_letters m_code m_place m_outputLength m_s m_parsed m_tried m_remembered m_slots m_kept m_away m_input m_halfway m_output)) (c_X12_noNumber l hG D c9 ad m_undoable m_undoStart m_thrown m_inputLength m_position m_start m_token m_value m_letters m_code m_place m_outputLength m_s m_parsed m_tried m_remembered m_slots m_kept m_away m_input m_halfway m_output v1 0 m_inputLength ho1) 3 (gV wm_114 wm_115 wm_116 wm_37 wm_117) rfl rfl rfl ⟨rfl, pd_X12_noNumber⟩ ⟨Nat.le_of_ble_eq_true rfl, Nat.le_of_ble_eq_true rfl⟩ 0 rfl rfl rfl rfl (Nat.le_of_ble_eq_true rfl) ⟨Nat.zero_le _, Nat.zero_le _⟩ [0, 1, 2, 3, 4, 5, 6, 7, 8, 9, 10] [] [0, 1, 2, 3, 4, 5, 6, 7, 8, 9, 10] rfl rfl rfl rfl dX12_truncateInput_7 10 rfl ?_
  refine v_if_eq X (tgt := 15) dX12_truncateInput_10 rfl 13 rfl hf (fun hf => ?_) (fun hf => ?_)
  · refine v_aload_n X dX12_truncateInput_15 0 rfl rfl 16 rfl ?_
    refine v_iload_n X dX12_truncateInput_16 1 rfl rfl 17 rfl ?_
    refine v_put X (C := RX12) (T := TX12) (N := 22) (ci := 11) (ty := tyX12 11) (ws' := (wX12 ad c9 m_undoable m_undoStart o1.2 v1 m_position m_start m_token m_value m_letters m_code m_place m_outputLength m_s m_parsed m_tried m_remembered m_slots m_kept m_away m_input m_halfway m_output)) dX12_truncateInput_17 (lay_of laym_X12) 0 rfl rfl 11 (by decide) tyX12 tyX12_ok nmX12 (mw wm_32) rfl rfl (tyX12_ok 11 (by decide)) rfl rfl (Nat.le_of_ble_eq_true rfl) rfl 20 rfl ?_
    refine v_iload_n X dX12_truncateInput_20 1 rfl rfl 21 rfl ?_
    obtain rfl := Option.some.inj hf
    exact v_iret X (Nat.zero_le _) (Nat.zero_le _) dX12_truncateInput_21
  · refine v_iconst X dX12_truncateInput_13 ic_0 14 rfl ?_
    obtain rfl := Option.some.inj hf
    exact v_iret X (Nat.zero_le _) (Nat.zero_le _) dX12_truncateInput_14
theorem pd_X12_truncateInput : yX12_truncateInput.cls ≠ "java/lang/invoke/MethodHandle" ∧ yX12_truncateInput.cls ≠ "java/lang/invoke/VarHandle" ∧ (parseMethodDescriptor yX12_truncateInput.desc).map (fun d => d.parameters.length) = some 1 := by decide +kernel
def f_X12_errorCode (m_thrown : Int32) (m_code : Int32) : Option (Int32 × Int32) :=
  some (m_code, 0)
set_option maxRecDepth 100000 in
set_option maxHeartbeats 4000000 in
theorem c_X12_errorCode (l : Launch) {G : (Nat → Prop) → State → Heap → Prop} (hG : vG G) (D : va_G) (c9 : Nat → ClassId) (ad : Nat → Nat) (m_undoable : Int32) (m_undoStart : Int32) (m_thrown : Int32) (m_inputLength : Int32) (m_position : Int32) (m_start : Int32) (m_token : Int32) (m_value : Int32) (m_letters : Int32) (m_code : Int32) (m_place : Int32) (m_outputLength : Int32) (m_s : Nat → Int32) (m_parsed : Nat → Int32) (m_tried : Nat → Int32) (m_remembered : Nat → Int32) (m_slots : Nat → Int32) (m_kept : Nat → Int32) (m_away : Nat → Int32) (m_input : Nat → Int32) (m_halfway : Nat → Int32) (m_output : Nat → Int32)  {o : Int32 × Int32} (hf : f_X12_errorCode m_thrown m_code = some o) : mI l yX12_errorCode (wq yX12_errorCode cX12_errorCode 1 (some .int)) { frames := 0, cells := 0, slots := 0, locals := 0 } G D (tyA c9) [.ref (ad 0)] (wX12 ad c9 m_undoable m_undoStart m_thrown m_inputLength m_position m_start m_token m_value m_letters m_code m_place m_outputLength m_s m_parsed m_tried m_remembered m_slots m_kept m_away m_input m_halfway m_output) [] 0 0 o.1 (wX12 ad c9 m_undoable m_undoStart o.2 m_inputLength m_position m_start m_token m_value m_letters m_code m_place m_outputLength m_s m_parsed m_tried m_remembered m_slots m_kept m_away m_input m_halfway m_output) := by
  refine mI_of hG (cc := cX12_errorCode) (maxL := 1) (ty := .int) (by decide) rfl (Nat.le_of_ble_eq_true rfl) ?_
  intro p e s m args below meth c A X
  have X : vX p s m args meth c cX12_errorCode 1 (some .int) RX12 (wq yX12_errorCode cX12_errorCode 1 (some .int)) D (tyA c9) G A := X
  refine v_eq (lv2 := [(0, .ref (ad 0))]) rfl rfl rfl rfl ?_
  rw [f_X12_errorCode] at hf
  refine v_aload_n X dX12_errorCode_0 0 rfl rfl 1 rfl ?_
  refine v_iconst X dX12_errorCode_1 ic_0 2 rfl ?_
  refine v_put X (C := RX12) (T := TX12) (N := 22) (ci := 11) (ty := tyX12 8) (ws' := (wX12 ad c9 m_undoable m_undoStart 0 m_inputLength m_position m_start m_token m_value m_letters m_code m_place m_outputLength m_s m_parsed m_tried m_remembered m_slots m_kept m_away m_input m_halfway m_output)) dX12_errorCode_2 (lay_of laym_X12) 0 rfl rfl 8 (by decide) tyX12 tyX12_ok nmX12 (mw wm_33) rfl rfl (tyX12_ok 8 (by decide)) rfl rfl (Nat.le_of_ble_eq_true rfl) rfl 5 rfl ?_
  refine v_aload_n X dX12_errorCode_5 0 rfl rfl 6 rfl ?_
  refine v_get X (C := RX12) (T := TX12) (N := 22) (ci := 11) (v := _) dX12_errorCode_6 (lay_of laym_X12) 0 rfl rfl 17 (by decide) (mw wm_118) rfl rfl 9 rfl ?_
  obtain rfl := Option.some.inj hf
  exact v_iret X (Nat.zero_le _) (Nat.zero_le _) dX12_errorCode_9
theorem pd_X12_errorCode : yX12_errorCode.cls ≠ "java/lang/invoke/MethodHandle" ∧ yX12_errorCode.cls ≠ "java/lang/invoke/VarHandle" ∧ (parseMethodDescriptor yX12_errorCode.desc).map (fun d => d.parameters.length) = some 0 := by decide +kernel
def f_X12_errorPosition (m_thrown : Int32) (m_place : Int32) : Option (Int32 × Int32) :=
  some (m_place, 0)
set_option maxRecDepth 100000 in
set_option maxHeartbeats 4000000 in
theorem c_X12_errorPosition (l : Launch) {G : (Nat → Prop) → State → Heap → Prop} (hG : vG G) (D : va_G) (c9 : Nat → ClassId) (ad : Nat → Nat) (m_undoable : Int32) (m_undoStart : Int32) (m_thrown : Int32) (m_inputLength : Int32) (m_position : Int32) (m_start : Int32) (m_token : Int32) (m_value : Int32) (m_letters : Int32) (m_code : Int32) (m_place : Int32) (m_outputLength : Int32) (m_s : Nat → Int32) (m_parsed : Nat → Int32) (m_tried : Nat → Int32) (m_remembered : Nat → Int32) (m_slots : Nat → Int32) (m_kept : Nat → Int32) (m_away : Nat → Int32) (m_input : Nat → Int32) (m_halfway : Nat → Int32) (m_output : Nat → Int32)  {o : Int32 × Int32} (hf : f_X12_errorPosition m_thrown m_place = some o) : mI l yX12_errorPosition (wq yX12_errorPosition cX12_errorPosition 1 (some .int)) { frames := 0, cells := 0, slots := 0, locals := 0 } G D (tyA c9) [.ref (ad 0)] (wX12 ad c9 m_undoable m_undoStart m_thrown m_inputLength m_position m_start m_token m_value m_letters m_code m_place m_outputLength m_s m_parsed m_tried m_remembered m_slots m_kept m_away m_input m_halfway m_output) [] 0 0 o.1 (wX12 ad c9 m_undoable m_undoStart o.2 m_inputLength m_position m_start m_token m_value m_letters m_code m_place m_outputLength m_s m_parsed m_tried m_remembered m_slots m_kept m_away m_input m_halfway m_output) := by
  refine mI_of hG (cc := cX12_errorPosition) (maxL := 1) (ty := .int) (by decide) rfl (Nat.le_of_ble_eq_true rfl) ?_
  intro p e s m args below meth c A X
  have X : vX p s m args meth c cX12_errorPosition 1 (some .int) RX12 (wq yX12_errorPosition cX12_errorPosition 1 (some .int)) D (tyA c9) G A := X
  refine v_eq (lv2 := [(0, .ref (ad 0))]) rfl rfl rfl rfl ?_
  rw [f_X12_errorPosition] at hf
  refine v_aload_n X dX12_errorPosition_0 0 rfl rfl 1 rfl ?_
  refine v_iconst X dX12_errorPosition_1 ic_0 2 rfl ?_
  refine v_put X (C := RX12) (T := TX12) (N := 22) (ci := 11) (ty := tyX12 8) (ws' := (wX12 ad c9 m_undoable m_undoStart 0 m_inputLength m_position m_start m_token m_value m_letters m_code m_place m_outputLength m_s m_parsed m_tried m_remembered m_slots m_kept m_away m_input m_halfway m_output)) dX12_errorPosition_2 (lay_of laym_X12) 0 rfl rfl 8 (by decide) tyX12 tyX12_ok nmX12 (mw wm_33) rfl rfl (tyX12_ok 8 (by decide)) rfl rfl (Nat.le_of_ble_eq_true rfl) rfl 5 rfl ?_
  refine v_aload_n X dX12_errorPosition_5 0 rfl rfl 6 rfl ?_
  refine v_get X (C := RX12) (T := TX12) (N := 22) (ci := 11) (v := _) dX12_errorPosition_6 (lay_of laym_X12) 0 rfl rfl 18 (by decide) (mw wm_119) rfl rfl 9 rfl ?_
  obtain rfl := Option.some.inj hf
  exact v_iret X (Nat.zero_le _) (Nat.zero_le _) dX12_errorPosition_9
theorem pd_X12_errorPosition : yX12_errorPosition.cls ≠ "java/lang/invoke/MethodHandle" ∧ yX12_errorPosition.cls ≠ "java/lang/invoke/VarHandle" ∧ (parseMethodDescriptor yX12_errorPosition.desc).map (fun d => d.parameters.length) = some 0 := by decide +kernel
def f_X12_byteAt (m_inputLength : Int32) (m_input : Nat → Int32) (v1 : Int32) : Option (Int32) :=
  if m_inputLength ≤ v1 then (
    some ((-1)))
  else (
    (rd m_input 600 v1).bind fun x1 =>
    some (x1))
set_option maxRecDepth 100000 in
set_option maxHeartbeats 4000000 in
theorem c_X12_byteAt (l : Launch) {G : (Nat → Prop) → State → Heap → Prop} (hG : vG G) (D : va_G) (c9 : Nat → ClassId) (ad : Nat → Nat) (m_undoable : Int32) (m_undoStart : Int32) (m_thrown : Int32) (m_inputLength : Int32) (m_position : Int32) (m_start : Int32) (m_token : Int32) (m_value : Int32) (m_letters : Int32) (m_code : Int32) (m_place : Int32) (m_outputLength : Int32) (m_s : Nat → Int32) (m_parsed : Nat → Int32) (m_tried : Nat → Int32) (m_remembered : Nat → Int32) (m_slots : Nat → Int32) (m_kept : Nat → Int32) (m_away : Nat → Int32) (m_input : Nat → Int32) (m_halfway : Nat → Int32) (m_output : Nat → Int32) (v1 : Int32) {o : Int32} (hf : f_X12_byteAt m_inputLength m_input v1 = some o) : mI l yX12_byteAt (wq yX12_byteAt cX12_byteAt 2 (some .int)) { frames := 0, cells := 0, slots := 0, locals := 0 } G D (tyA c9) [.ref (ad 0), .int v1] (wX12 ad c9 m_undoable m_undoStart m_thrown m_inputLength m_position m_start m_token m_value m_letters m_code m_place m_outputLength m_s m_parsed m_tried m_remembered m_slots m_kept m_away m_input m_halfway m_output) [] 0 0 o (wX12 ad c9 m_undoable m_undoStart m_thrown m_inputLength m_position m_start m_token m_value m_letters m_code m_place m_outputLength m_s m_parsed m_tried m_remembered m_slots m_kept m_away m_input m_halfway m_output) := by
  refine mI_of hG (cc := cX12_byteAt) (maxL := 2) (ty := .int) (by decide) rfl (Nat.le_of_ble_eq_true rfl) ?_
  intro p e s m args below meth c A X
  have X : vX p s m args meth c cX12_byteAt 2 (some .int) RX12 (wq yX12_byteAt cX12_byteAt 2 (some .int)) D (tyA c9) G A := X
  refine v_eq (lv2 := [(0, .ref (ad 0)), (1, .int v1)]) rfl rfl rfl rfl ?_
  rw [f_X12_byteAt] at hf
  refine v_iload_n X dX12_byteAt_0 1 rfl rfl 1 rfl ?_
  refine v_aload_n X dX12_byteAt_1 0 rfl rfl 2 rfl ?_
  refine v_get X (C := RX12) (T := TX12) (N := 22) (ci := 11) (v := _) dX12_byteAt_2 (lay_of laym_X12) 0 rfl rfl 11 (by decide) (mw wm_32) rfl rfl 5 rfl ?_
  refine v_icmp_ge X (tgt := 17) dX12_byteAt_5 rfl 8 rfl hf (fun hf => ?_) (fun hf => ?_)
  · refine v_iconst X dX12_byteAt_17 ic_m1 18 rfl ?_
    obtain rfl := Option.some.inj hf
    exact v_iret X (Nat.zero_le _) (Nat.zero_le _) dX12_byteAt_18
  · refine v_aload_n X dX12_byteAt_8 0 rfl rfl 9 rfl ?_
    refine v_get X (C := RX12) (T := TX12) (N := 22) (ci := 11) (v := _) dX12_byteAt_9 (lay_of laym_X12) 0 rfl rfl 10 (by decide) (mw wm_27) rfl rfl 12 rfl ?_
    refine v_iload_n X dX12_byteAt_12 1 rfl rfl 13 rfl ?_
    obtain ⟨x1, hx1, hf⟩ := bnd hf
    refine v_iald X dX12_byteAt_13 8 0 rfl rfl hx1 14 rfl ?_
    refine v_goto X (tgt := 18) dX12_byteAt_14 rfl ?_
    obtain rfl := Option.some.inj hf
    exact v_iret X (Nat.zero_le _) (Nat.zero_le _) dX12_byteAt_18
theorem pd_X12_byteAt : yX12_byteAt.cls ≠ "java/lang/invoke/MethodHandle" ∧ yX12_byteAt.cls ≠ "java/lang/invoke/VarHandle" ∧ (parseMethodDescriptor yX12_byteAt.desc).map (fun d => d.parameters.length) = some 1 := by decide +kernel
def f_X12_isLetter (v0 : Int32) : Option (Int32) :=
  (f_X12_isBetween v0 97 122).bind fun o1 =>
  (zr o1).bind fun z2 => some (z2)
set_option maxRecDepth 100000 in
set_option maxHeartbeats 4000000 in
theorem c_X12_isLetter (l : Launch) {G : (Nat → Prop) → State → Heap → Prop} (hG : vG G) (D : va_G) (c9 : Nat → ClassId)   (v0 : Int32) {o : Int32} (hf : f_X12_isLetter v0 = some o) : mI l yX12_isLetter (wq yX12_isLetter cX12_isLetter 1 (some .boolean)) { frames := 1, cells := 0, slots := 0, locals := 22 } G D (tyA c9) [.int v0] [] [] 0 0 o [] := by
  refine mI_of hG (cc := cX12_isLetter) (maxL := 1) (ty := .boolean) (by decide) rfl (Nat.le_of_ble_eq_true rfl) ?_
  intro p e s m args below meth c A X
  have X : vX p s m args meth c cX12_isLetter 1 (some .boolean) RX12 (wq yX12_isLetter cX12_isLetter 1 (some .boolean)) D (tyA c9) G A := X
  refine v_eq (lv2 := [(0, .int v0)]) rfl rfl rfl rfl ?_
  rw [f_X12_isLetter] at hf
  refine v_iload_n X dX12_isLetter_0 0 rfl rfl 1 rfl ?_
  refine v_bipush X dX12_isLetter_1 bp_97 3 rfl ?_
  refine v_bipush X dX12_isLetter_3 bp_122 5 rfl ?_
  obtain ⟨o1, ho1, hf⟩ := bnd hf
  refine v_callSi X (As := [.int v0, .int 97, .int 122]) (rest := []) (ws' := []) (c_X12_isBetween l hG D c9 v0 97 122 ho1) 3 (gS wm_111 wm_112 wm_37 wm_113) rfl rfl rfl pd_X12_isBetween ⟨Nat.le_of_ble_eq_true rfl, Nat.le_of_ble_eq_true rfl⟩ rfl rfl (Nat.le_of_ble_eq_true rfl) ⟨Nat.zero_le _, Nat.zero_le _⟩ [] [] [] rfl rfl rfl rfl dX12_isLetter_5 8 rfl ?_
  obtain ⟨z2, hz2, hf⟩ := bnd hf
  obtain rfl := Option.some.inj hf
  exact v_zretq hz2 X (Nat.zero_le _) (Nat.zero_le _) dX12_isLetter_8
theorem pd_X12_isLetter : yX12_isLetter.cls ≠ "java/lang/invoke/MethodHandle" ∧ yX12_isLetter.cls ≠ "java/lang/invoke/VarHandle" ∧ (parseMethodDescriptor yX12_isLetter.desc).map (fun d => d.parameters.length) = some 1 := by decide +kernel
def f_X12_advance_L0 (m_inputLength : Int32) (m_input : Nat → Int32) : Nat → Int32 → Option (Int32)
  | 0, _ => none
  | n + 1, m_position =>
    (f_X12_byteAt m_inputLength m_input m_position).bind fun o1 =>
    if o1 = 32 then (
      f_X12_advance_L0 m_inputLength m_input n (m_position + 1))
    else (
      (f_X12_byteAt m_inputLength m_input m_position).bind fun o2 =>
      if o2 = 10 then (
        f_X12_advance_L0 m_inputLength m_input n (m_position + 1))
      else (
        some (m_position)))
def f_X12_advance_L144 (m_inputLength : Int32) (m_input : Nat → Int32) : Nat → Int32 → Int32 → Option (Int32 × Int32)
  | 0, _, _ => none
  | n + 1, m_position, m_value =>
    (f_X12_byteAt m_inputLength m_input m_position).bind fun o7 =>
    (f_X12_isBetween o7 48 57).bind fun o8 =>
    if o8 = 0 then (
      some (m_position, m_value))
    else (
      Option.bind (if m_value ≤ 99999999 then (
        (f_X12_byteAt m_inputLength m_input m_position).bind fun o10 =>
        some ((((10 * m_value) + o10) - 48)))
      else (
        some (m_value)) : Option (Int32)) fun j9 =>
      f_X12_advance_L144 m_inputLength m_input n (m_position + 1) j9)
def f_X12_advance_L91 (m_inputLength : Int32) (m_input : Nat → Int32) : Nat → Int32 → Int32 → Option (Int32 × Int32)
  | 0, _, _ => none
  | n + 1, m_position, m_letters =>
    (f_X12_byteAt m_inputLength m_input m_position).bind fun o12 =>
    (f_X12_isLetter o12).bind fun o13 =>
    if o13 = 0 then (
      some (m_position, m_letters))
    else (
      f_X12_advance_L91 m_inputLength m_input n (m_position + 1) (m_letters + 1))
def f_X12_advance (m_inputLength : Int32) (m_position : Int32) (m_start : Int32) (m_token : Int32) (m_value : Int32) (m_letters : Int32) (m_input : Nat → Int32) : Option (Int32 × Int32 × Int32 × Int32 × Int32) :=
  (f_X12_advance_L0 m_inputLength m_input 5000 m_position).bind fun o3 =>
  (f_X12_byteAt m_inputLength m_input o3).bind fun o4 =>
  if o4 = (-1) then (
    some (o3, o3, 0, 0, 0))
  else (
    (f_X12_isLetter o4).bind fun o5 =>
    if o5 = 0 then (
      (f_X12_isBetween o4 48 57).bind fun o6 =>
      if o6 = 0 then (
        some ((o3 + 1), o3, 1, 0, 0))
      else (
        (f_X12_advance_L144 m_inputLength m_input 5000 o3 0).bind fun o11 =>
        some (o11.1, o3, 2, o11.2, 0)))
    else (
      (f_X12_advance_L91 m_inputLength m_input 5000 o3 0).bind fun o14 =>
      some (o14.1, o3, 3, 0, o14.2)))
set_option maxRecDepth 100000 in
set_option maxHeartbeats 4000000 in
theorem l_X12_advance_L0 (l : Launch) {G : (Nat → Prop) → State → Heap → Prop} (hG : vG G) (D : va_G) (c9 : Nat → ClassId) (ad : Nat → Nat) (m_undoable : Int32) (m_undoStart : Int32) (m_thrown : Int32) (m_inputLength : Int32) (m_start : Int32) (m_token : Int32) (m_value : Int32) (m_letters : Int32) (m_code : Int32) (m_place : Int32) (m_outputLength : Int32) (m_s : Nat → Int32) (m_parsed : Nat → Int32) (m_tried : Nat → Int32) (m_remembered : Nat → Int32) (m_slots : Nat → Int32) (m_kept : Nat → Int32) (m_away : Nat → Int32) (m_input : Nat → Int32) (m_halfway : Nat → Int32) (m_output : Nat → Int32) {p : Program} {e : Env} {s : State} {m : MethodId} {args : Array Value} {below : List Frame} {meth : Method} {c : Code} {A : Nat → Prop} {F : va_W} (X : vX p s m args meth c cX12_advance 2 none RX12 (wq yX12_advance cX12_advance 2 none) D (tyA c9) G A) {Q : State → Prop} (o : Int32) (K : vW p l e { frames := 2, cells := 0, slots := 0, locals := 42 } s m args below meth c 2 D A F 0 0 Q (wX12 ad c9 m_undoable m_undoStart m_thrown m_inputLength o m_start m_token m_value m_letters m_code m_place m_outputLength m_s m_parsed m_tried m_remembered m_slots m_kept m_away m_input m_halfway m_output) 39 [(0, .ref (ad 0))] []) :
    ∀ (n : Nat) (m_position : Int32), f_X12_advance_L0 m_inputLength m_input n m_position = some o → vW p l e { frames := 2, cells := 0, slots := 0, locals := 42 } s m args below meth c 2 D A F 0 0 Q (wX12 ad c9 m_undoable m_undoStart m_thrown m_inputLength m_position m_start m_token m_value m_letters m_code m_place m_outputLength m_s m_parsed m_tried m_remembered m_slots m_kept m_away m_input m_halfway m_output) 0 [(0, .ref (ad 0))] [] := by
  intro n
  induction n with
  | zero =>
    intro m_position hf
    rw [f_X12_advance_L0] at hf
    cases hf
  | succ n ih =>
    intro m_position hf
    rw [f_X12_advance_L0] at hf
    refine v_aload_n X dX12_advance_0 0 rfl rfl 1 rfl ?_
    refine v_aload_n X dX12_advance_1 0 rfl rfl 2 rfl ?_
    refine v_get X (C := RX12) (T := TX12) (N := 22) (ci := 11) (v := _) dX12_advance_2 (lay_of laym_X12) 0 rfl rfl 12 (by decide) (mw wm_120) rfl rfl 5 rfl ?_
    obtain ⟨o1, ho1, hf⟩ := bnd hf
    refine v_callVi X (ci := 11) (T := TX12) (C := RX12) (As := [.int m_position]) (rest := []) (ws' := (wX12 ad c9 m_undoable m_undoStart m_thrown m_inputLength m_position m_start m_token m_value m_letters m_code m_place m_outputLength m_s m_parsed m_tried m_remembered m_slots m_kept m_away m_input m_halfway m_output)) (c_X12_byteAt l hG D c9 ad m_undoable m_undoStart m_thrown m_inputLength m_position m_start m_token m_value m_letters m_code m_place m_outputLength m_s m_parsed m_tried m_remembered m_slots m_kept m_away m_input m_halfway m_output m_position ho1) 1 (gV wm_121 wm_122 wm_123 wm_37 wm_124) rfl rfl rfl ⟨rfl, pd_X12_byteAt⟩ ⟨Nat.le_of_ble_eq_true rfl, Nat.le_of_ble_eq_true rfl⟩ 0 rfl rfl rfl rfl (Nat.le_of_ble_eq_true rfl) ⟨Nat.zero_le _, Nat.zero_le _⟩ [0, 1, 2, 3, 4, 5, 6, 7, 8, 9, 10] [] [0, 1, 2, 3, 4, 5, 6, 7, 8, 9, 10] rfl rfl rfl rfl dX12_advance_5 8 rfl ?_
    refine v_bipush X dX12_advance_8 bp_32 10 rfl ?_
    refine v_icmp_eq X (tgt := 26) dX12_advance_10 rfl 13 rfl hf (fun hf => ?_) (fun hf => ?_)
    · refine v_aload_n X dX12_advance_26 0 rfl rfl 27 rfl ?_
      refine v_dup X dX12_advance_27 rfl 28 rfl ?_
      refine v_get X (C := RX12) (T := TX12) (N := 22) (ci := 11) (v := _) dX12_advance_28 (lay_of laym_X12) 0 rfl rfl 12 (by decide) (mw wm_120) rfl rfl 31 rfl ?_
      refine v_iconst X dX12_advance_31 ic_1 32 rfl ?_
      refine v_iadd X dX12_advance_32 33 rfl ?_
      refine v_put X (C := RX12) (T := TX12) (N := 22) (ci := 11) (ty := tyX12 12) (ws' := (wX12 ad c9 m_undoable m_undoStart m_thrown m_inputLength (m_position + 1) m_start m_token m_value m_letters m_code m_place m_outputLength m_s m_parsed m_tried m_remembered m_slots m_kept m_away m_input m_halfway m_output)) dX12_advance_33 (lay_of laym_X12) 0 rfl rfl 12 (by decide) tyX12 tyX12_ok nmX12 (mw wm_120) rfl rfl (tyX12_ok 12 (by decide)) rfl rfl (Nat.le_of_ble_eq_true rfl) rfl 36 rfl ?_
      refine v_goto X (tgt := 0) dX12_advance_36 rfl ?_
      exact ih (m_position + 1) hf
    · refine v_aload_n X dX12_advance_13 0 rfl rfl 14 rfl ?_
      refine v_aload_n X dX12_advance_14 0 rfl rfl 15 rfl ?_
      refine v_get X (C := RX12) (T := TX12) (N := 22) (ci := 11) (v := _) dX12_advance_15 (lay_of laym_X12) 0 rfl rfl 12 (by decide) (mw wm_120) rfl rfl 18 rfl ?_
      obtain ⟨o2, ho2, hf⟩ := bnd hf
      refine v_callVi X (ci := 11) (T := TX12) (C := RX12) (As := [.int m_position]) (rest := []) (ws' := (wX12 ad c9 m_undoable m_undoStart m_thrown m_inputLength m_position m_start m_token m_value m_letters m_code m_place m_outputLength m_s m_parsed m_tried m_remembered m_slots m_kept m_away m_input m_halfway m_output)) (c_X12_byteAt l hG D c9 ad m_undoable m_undoStart m_thrown m_inputLength m_position m_start m_token m_value m_letters m_code m_place m_outputLength m_s m_parsed m_tried m_remembered m_slots m_kept m_away m_input m_halfway m_output m_position ho2) 1 (gV wm_121 wm_122 wm_123 wm_37 wm_124) rfl rfl rfl ⟨rfl, pd_X12_byteAt⟩ ⟨Nat.le_of_ble_eq_true rfl, Nat.le_of_ble_eq_true rfl⟩ 0 rfl rfl rfl rfl (Nat.le_of_ble_eq_true rfl) ⟨Nat.zero_le _, Nat.zero_le _⟩ [0, 1, 2, 3, 4, 5, 6, 7, 8, 9, 10] [] [0, 1, 2, 3, 4, 5, 6, 7, 8, 9, 10] rfl rfl rfl rfl dX12_advance_18 21 rfl ?_
      refine v_bipush X dX12_advance_21 bp_10 23 rfl ?_
      refine v_icmp_ne X (tgt := 39) dX12_advance_23 rfl 26 rfl hf (fun hf => ?_) (fun hf => ?_)
      · obtain rfl := Option.some.inj hf
        exact K
      · refine v_aload_n X dX12_advance_26 0 rfl rfl 27 rfl ?_
        refine v_dup X dX12_advance_27 rfl 28 rfl ?_
        refine v_get X (C := RX12) (T := TX12) (N := 22) (ci := 11) (v := _) dX12_advance_28 (lay_of laym_X12) 0 rfl rfl 12 (by decide) (mw wm_120) rfl rfl 31 rfl ?_
        refine v_iconst X dX12_advance_31 ic_1 32 rfl ?_
        refine v_iadd X dX12_advance_32 33 rfl ?_
        refine v_put X (C := RX12) (T := TX12) (N := 22) (ci := 11) (ty := tyX12 12) (ws' := (wX12 ad c9 m_undoable m_undoStart m_thrown m_inputLength (m_position + 1) m_start m_token m_value m_letters m_code m_place m_outputLength m_s m_parsed m_tried m_remembered m_slots m_kept m_away m_input m_halfway m_output)) dX12_advance_33 (lay_of laym_X12) 0 rfl rfl 12 (by decide) tyX12 tyX12_ok nmX12 (mw wm_120) rfl rfl (tyX12_ok 12 (by decide)) rfl rfl (Nat.le_of_ble_eq_true rfl) rfl 36 rfl ?_
        refine v_goto X (tgt := 0) dX12_advance_36 rfl ?_
        exact ih (m_position + 1) hf
set_option maxRecDepth 100000 in
set_option maxHeartbeats 4000000 in
theorem l_X12_advance_L144 (l : Launch) {G : (Nat → Prop) → State → Heap → Prop} (hG : vG G) (D : va_G) (c9 : Nat → ClassId) (ad : Nat → Nat) (m_undoable : Int32) (m_undoStart : Int32) (m_thrown : Int32) (m_inputLength : Int32) (m_start : Int32) (m_token : Int32) (m_letters : Int32) (m_code : Int32) (m_place : Int32) (m_outputLength : Int32) (m_s : Nat → Int32) (m_parsed : Nat → Int32) (m_tried : Nat → Int32) (m_remembered : Nat → Int32) (m_slots : Nat → Int32) (m_kept : Nat → Int32) (m_away : Nat → Int32) (m_input : Nat → Int32) (m_halfway : Nat → Int32) (m_output : Nat → Int32) {p : Program} {e : Env} {s : State} {m : MethodId} {args : Array Value} {below : List Frame} {meth : Method} {c : Code} {A : Nat → Prop} {F : va_W} (X : vX p s m args meth c cX12_advance 2 none RX12 (wq yX12_advance cX12_advance 2 none) D (tyA c9) G A) {Q : State → Prop} (o : Int32 × Int32) (K : vW p l e { frames := 2, cells := 0, slots := 0, locals := 42 } s m args below meth c 2 D A F 0 0 Q (wX12 ad c9 m_undoable m_undoStart m_thrown m_inputLength o.1 m_start m_token o.2 m_letters m_code m_place m_outputLength m_s m_parsed m_tried m_remembered m_slots m_kept m_away m_input m_halfway m_output) 229 [] []) :
    ∀ (n : Nat) (m_position : Int32) (m_value : Int32), f_X12_advance_L144 m_inputLength m_input n m_position m_value = some o → vW p l e { frames := 2, cells := 0, slots := 0, locals := 42 } s m args below meth c 2 D A F 0 0 Q (wX12 ad c9 m_undoable m_undoStart m_thrown m_inputLength m_position m_start m_token m_value m_letters m_code m_place m_outputLength m_s m_parsed m_tried m_remembered m_slots m_kept m_away m_input m_halfway m_output) 144 [(0, .ref (ad 0))] [] := by
  intro n
  induction n with
  | zero =>
    intro m_position m_value hf
    rw [f_X12_advance_L144] at hf
    cases hf
  | succ n ih =>
    intro m_position m_value hf
    rw [f_X12_advance_L144] at hf
    refine v_aload_n X dX12_advance_144 0 rfl rfl 145 rfl ?_
    refine v_aload_n X dX12_advance_145 0 rfl rfl 146 rfl ?_
    refine v_get X (C := RX12) (T := TX12) (N := 22) (ci := 11) (v := _) dX12_advance_146 (lay_of laym_X12) 0 rfl rfl 12 (by decide) (mw wm_120) rfl rfl 149 rfl ?_
    obtain ⟨o7, ho7, hf⟩ := bnd hf
    refine v_callVi X (ci := 11) (T := TX12) (C := RX12) (As := [.int m_position]) (rest := []) (ws' := (wX12 ad c9 m_undoable m_undoStart m_thrown m_inputLength m_position m_start m_token m_value m_letters m_code m_place m_outputLength m_s m_parsed m_tried m_remembered m_slots m_kept m_away m_input m_halfway m_output)) (c_X12_byteAt l hG D c9 ad m_undoable m_undoStart m_thrown m_inputLength m_position m_start m_token m_value m_letters m_code m_place m_outputLength m_s m_parsed m_tried m_remembered m_slots m_kept m_away m_input m_halfway m_output m_position ho7) 1 (gV wm_121 wm_122 wm_123 wm_37 wm_124) rfl rfl rfl ⟨rfl, pd_X12_byteAt⟩ ⟨Nat.le_of_ble_eq_true rfl, Nat.le_of_ble_eq_true rfl⟩ 0 rfl rfl rfl rfl (Nat.le_of_ble_eq_true rfl) ⟨Nat.zero_le _, Nat.zero_le _⟩ [0, 1, 2, 3, 4, 5, 6, 7, 8, 9, 10] [] [0, 1, 2, 3, 4, 5, 6, 7, 8, 9, 10] rfl rfl rfl rfl dX12_advance_149 152 rfl ?_
    refine v_bipush X dX12_advance_152 bp_48 154 rfl ?_
    refine v_bipush X dX12_advance_154 bp_57 156 rfl ?_
    obtain ⟨o8, ho8, hf⟩ := bnd hf
    refine v_callSi X (As := [.int o7, .int 48, .int 57]) (rest := []) (ws' := (wX12 ad c9 m_undoable m_undoStart m_thrown m_inputLength m_position m_start m_token m_value m_letters m_code m_place m_outputLength m_s m_parsed m_tried m_remembered m_slots m_kept m_away m_input m_halfway m_output)) (c_X12_isBetween l hG D c9 o7 48 57 ho8) 3 (gS wm_111 wm_112 wm_37 wm_113) rfl rfl rfl pd_X12_isBetween ⟨Nat.le_of_ble_eq_true rfl, Nat.le_of_ble_eq_true rfl⟩ rfl rfl (Nat.le_of_ble_eq_true rfl) ⟨Nat.zero_le _, Nat.zero_le _⟩ [] [0, 1, 2, 3, 4, 5, 6, 7, 8, 9, 10] [0, 1, 2, 3, 4, 5, 6, 7, 8, 9, 10] rfl rfl rfl rfl dX12_advance_156 159 rfl ?_
    refine v_if_eq X (tgt := 229) dX12_advance_159 rfl 162 rfl hf (fun hf => ?_) (fun hf => ?_)
    · obtain rfl := Option.some.inj hf
      refine v_sub (lv' := []) [] rfl ?_
      exact K
    · refine v_aload_n X dX12_advance_162 0 rfl rfl 163 rfl ?_
      refine v_aload_n X dX12_advance_163 0 rfl rfl 164 rfl ?_
      refine v_get X (C := RX12) (T := TX12) (N := 22) (ci := 11) (v := _) dX12_advance_164 (lay_of laym_X12) 0 rfl rfl 15 (by decide) (mw wm_127) rfl rfl 167 rfl ?_
      refine v_ldc X dX12_advance_167 (X.2.2.2.2.2.1 _ (mw wm_132)) 169 rfl ?_
      obtain ⟨j9, hj9, hf⟩ := bnd hf
      have Jj9 : vW p l e { frames := 2, cells := 0, slots := 0, locals := 42 } s m args below meth c 2 D A F 0 0 Q (wX12 ad c9 m_undoable m_undoStart m_thrown m_inputLength m_position m_start m_token m_value m_letters m_code m_place m_outputLength m_s m_parsed m_tried m_remembered m_slots m_kept m_away m_input m_halfway m_output) 198 [(0, .ref (ad 0))] [.int j9, .ref (ad 0)] := by
        refine v_put X (C := RX12) (T := TX12) (N := 22) (ci := 11) (ty := tyX12 15) (ws' := (wX12 ad c9 m_undoable m_undoStart m_thrown m_inputLength m_position m_start m_token j9 m_letters m_code m_place m_outputLength m_s m_parsed m_tried m_remembered m_slots m_kept m_away m_input m_halfway m_output)) dX12_advance_198 (lay_of laym_X12) 0 rfl rfl 15 (by decide) tyX12 tyX12_ok nmX12 (mw wm_127) rfl rfl (tyX12_ok 15 (by decide)) rfl rfl (Nat.le_of_ble_eq_true rfl) rfl 201 rfl ?_
        refine v_aload_n X dX12_advance_201 0 rfl rfl 202 rfl ?_
        refine v_dup X dX12_advance_202 rfl 203 rfl ?_
        refine v_get X (C := RX12) (T := TX12) (N := 22) (ci := 11) (v := _) dX12_advance_203 (lay_of laym_X12) 0 rfl rfl 12 (by decide) (mw wm_120) rfl rfl 206 rfl ?_
        refine v_iconst X dX12_advance_206 ic_1 207 rfl ?_
        refine v_iadd X dX12_advance_207 208 rfl ?_
        refine v_put X (C := RX12) (T := TX12) (N := 22) (ci := 11) (ty := tyX12 12) (ws' := (wX12 ad c9 m_undoable m_undoStart m_thrown m_inputLength (m_position + 1) m_start m_token j9 m_letters m_code m_place m_outputLength m_s m_parsed m_tried m_remembered m_slots m_kept m_away m_input m_halfway m_output)) dX12_advance_208 (lay_of laym_X12) 0 rfl rfl 12 (by decide) tyX12 tyX12_ok nmX12 (mw wm_120) rfl rfl (tyX12_ok 12 (by decide)) rfl rfl (Nat.le_of_ble_eq_true rfl) rfl 211 rfl ?_
        refine v_goto X (tgt := 144) dX12_advance_211 rfl ?_
        exact ih (m_position + 1) j9 hf
      clear hf
      refine v_icmp_le X (tgt := 179) dX12_advance_169 rfl 172 rfl hj9 (fun hf => ?_) (fun hf => ?_)
      · refine v_bipush X dX12_advance_179 bp_10 181 rfl ?_
        refine v_aload_n X dX12_advance_181 0 rfl rfl 182 rfl ?_
        refine v_get X (C := RX12) (T := TX12) (N := 22) (ci := 11) (v := _) dX12_advance_182 (lay_of laym_X12) 0 rfl rfl 15 (by decide) (mw wm_127) rfl rfl 185 rfl ?_
        refine v_imul X dX12_advance_185 186 rfl ?_
        refine v_aload_n X dX12_advance_186 0 rfl rfl 187 rfl ?_
        refine v_aload_n X dX12_advance_187 0 rfl rfl 188 rfl ?_
        refine v_get X (C := RX12) (T := TX12) (N := 22) (ci := 11) (v := _) dX12_advance_188 (lay_of laym_X12) 0 rfl rfl 12 (by decide) (mw wm_120) rfl rfl 191 rfl ?_
        obtain ⟨o10, ho10, hf⟩ := bnd hf
        refine v_callVi X (ci := 11) (T := TX12) (C := RX12) (As := [.int m_position]) (rest := [.int (10 * m_value), .ref (ad 0)]) (ws' := (wX12 ad c9 m_undoable m_undoStart m_thrown m_inputLength m_position m_start m_token m_value m_letters m_code m_place m_outputLength m_s m_parsed m_tried m_remembered m_slots m_kept m_away m_input m_halfway m_output)) (c_X12_byteAt l hG D c9 ad m_undoable m_undoStart m_thrown m_inputLength m_position m_start m_token m_value m_letters m_code m_place m_outputLength m_s m_parsed m_tried m_remembered m_slots m_kept m_away m_input m_halfway m_output m_position ho10) 1 (gV wm_121 wm_122 wm_123 wm_37 wm_124) rfl rfl rfl ⟨rfl, pd_X12_byteAt⟩ ⟨Nat.le_of_ble_eq_true rfl, Nat.le_of_ble_eq_true rfl⟩ 0 rfl rfl rfl rfl (Nat.le_of_ble_eq_true rfl) ⟨Nat.zero_le _, Nat.zero_le _⟩ [0, 1, 2, 3, 4, 5, 6, 7, 8, 9, 10] [] [0, 1, 2, 3, 4, 5, 6, 7, 8, 9, 10] rfl rfl rfl rfl dX12_advance_191 194 rfl ?_
        refine v_iadd X dX12_advance_194 195 rfl ?_
        refine v_bipush X dX12_advance_195 bp_48 197 rfl ?_
        refine v_isub X dX12_advance_197 198 rfl ?_
        obtain rfl := Option.some.inj hf
        exact Jj9
      · refine v_aload_n X dX12_advance_172 0 rfl rfl 173 rfl ?_
        refine v_get X (C := RX12) (T := TX12) (N := 22) (ci := 11) (v := _) dX12_advance_173 (lay_of laym_X12) 0 rfl rfl 15 (by decide) (mw wm_127) rfl rfl 176 rfl ?_
        refine v_goto X (tgt := 198) dX12_advance_176 rfl ?_
        obtain rfl := Option.some.inj hf
        exact Jj9
set_option maxRecDepth 100000 in
set_option maxHeartbeats 4000000 in
theorem l_X12_advance_L91 (l : Launch) {G : (Nat → Prop) → State → Heap → Prop} (hG : vG G) (D : va_G) (c9 : Nat → ClassId) (ad : Nat → Nat) (m_undoable : Int32) (m_undoStart : Int32) (m_thrown : Int32) (m_inputLength : Int32) (m_start : Int32) (m_token : Int32) (m_value : Int32) (m_code : Int32) (m_place : Int32) (m_outputLength : Int32) (m_s : Nat → Int32) (m_parsed : Nat → Int32) (m_tried : Nat → Int32) (m_remembered : Nat → Int32) (m_slots : Nat → Int32) (m_kept : Nat → Int32) (m_away : Nat → Int32) (m_input : Nat → Int32) (m_halfway : Nat → Int32) (m_output : Nat → Int32) {p : Program} {e : Env} {s : State} {m : MethodId} {args : Array Value} {below : List Frame} {meth : Method} {c : Code} {A : Nat → Prop} {F : va_W} (X : vX p s m args meth c cX12_advance 2 none RX12 (wq yX12_advance cX12_advance 2 none) D (tyA c9) G A) {Q : State → Prop} (o : Int32 × Int32) (K : vW p l e { frames := 2, cells := 0, slots := 0, locals := 42 } s m args below meth c 2 D A F 0 0 Q (wX12 ad c9 m_undoable m_undoStart m_thrown m_inputLength o.1 m_start m_token m_value o.2 m_code m_place m_outputLength m_s m_parsed m_tried m_remembered m_slots m_kept m_away m_input m_halfway m_output) 229 [] []) :
    ∀ (n : Nat) (m_position : Int32) (m_letters : Int32), f_X12_advance_L91 m_inputLength m_input n m_position m_letters = some o → vW p l e { frames := 2, cells := 0, slots := 0, locals := 42 } s m args below meth c 2 D A F 0 0 Q (wX12 ad c9 m_undoable m_undoStart m_thrown m_inputLength m_position m_start m_token m_value m_letters m_code m_place m_outputLength m_s m_parsed m_tried m_remembered m_slots m_kept m_away m_input m_halfway m_output) 91 [(0, .ref (ad 0))] [] := by
  intro n
  induction n with
  | zero =>
    intro m_position m_letters hf
    rw [f_X12_advance_L91] at hf
    cases hf
  | succ n ih =>
    intro m_position m_letters hf
    rw [f_X12_advance_L91] at hf
    refine v_aload_n X dX12_advance_91 0 rfl rfl 92 rfl ?_
    refine v_aload_n X dX12_advance_92 0 rfl rfl 93 rfl ?_
    refine v_get X (C := RX12) (T := TX12) (N := 22) (ci := 11) (v := _) dX12_advance_93 (lay_of laym_X12) 0 rfl rfl 12 (by decide) (mw wm_120) rfl rfl 96 rfl ?_
    obtain ⟨o12, ho12, hf⟩ := bnd hf
    refine v_callVi X (ci := 11) (T := TX12) (C := RX12) (As := [.int m_position]) (rest := []) (ws' := (wX12 ad c9 m_undoable m_undoStart m_thrown m_inputLength m_position m_start m_token m_value m_letters m_code m_place m_outputLength m_s m_parsed m_tried m_remembered m_slots m_kept m_away m_input m_halfway m_output)) (c_X12_byteAt l hG D c9 ad m_undoable m_undoStart m_thrown m_inputLength m_position m_start m_token m_value m_letters m_code m_place m_outputLength m_s m_parsed m_tried m_remembered m_slots m_kept m_away m_input m_halfway m_output m_position ho12) 1 (gV wm_121 wm_122 wm_123 wm_37 wm_124) rfl rfl rfl ⟨rfl, pd_X12_byteAt⟩ ⟨Nat.le_of_ble_eq_true rfl, Nat.le_of_ble_eq_true rfl⟩ 0 rfl rfl rfl rfl (Nat.le_of_ble_eq_true rfl) ⟨Nat.zero_le _, Nat.zero_le _⟩ [0, 1, 2, 3, 4, 5, 6, 7, 8, 9, 10] [] [0, 1, 2, 3, 4, 5, 6, 7, 8, 9, 10] rfl rfl rfl rfl dX12_advance_96 99 rfl ?_
    obtain ⟨o13, ho13, hf⟩ := bnd hf
    refine v_callSi X (As := [.int o12]) (rest := []) (ws' := (wX12 ad c9 m_undoable m_undoStart m_thrown m_inputLength m_position m_start m_token m_value m_letters m_code m_place m_outputLength m_s m_parsed m_tried m_remembered m_slots m_kept m_away m_input m_halfway m_output)) (c_X12_isLetter l hG D c9 o12 ho13) 1 (gS wm_128 wm_129 wm_37 wm_130) rfl rfl rfl pd_X12_isLetter ⟨Nat.le_of_ble_eq_true rfl, Nat.le_of_ble_eq_true rfl⟩ rfl rfl (Nat.le_of_ble_eq_true rfl) ⟨Nat.zero_le _, Nat.zero_le _⟩ [] [0, 1, 2, 3, 4, 5, 6, 7, 8, 9, 10] [0, 1, 2, 3, 4, 5, 6, 7, 8, 9, 10] rfl rfl rfl rfl dX12_advance_99 102 rfl ?_
    refine v_if_eq X (tgt := 229) dX12_advance_102 rfl 105 rfl hf (fun hf => ?_) (fun hf => ?_)
    · obtain rfl := Option.some.inj hf
      refine v_sub (lv' := []) [] rfl ?_
      exact K
    · refine v_aload_n X dX12_advance_105 0 rfl rfl 106 rfl ?_
      refine v_dup X dX12_advance_106 rfl 107 rfl ?_
      refine v_get X (C := RX12) (T := TX12) (N := 22) (ci := 11) (v := _) dX12_advance_107 (lay_of laym_X12) 0 rfl rfl 16 (by decide) (mw wm_126) rfl rfl 110 rfl ?_
      refine v_iconst X dX12_advance_110 ic_1 111 rfl ?_
      refine v_iadd X dX12_advance_111 112 rfl ?_
      refine v_put X (C := RX12) (T := TX12) (N := 22) (ci := 11) (ty := tyX12 16) (ws' := (wX12 ad c9 m_undoable m_undoStart m_thrown m_inputLength m_position m_start m_token m_value (m_letters + 1) m_code m_place m_outputLength m_s m_parsed m_tried m_remembered m_slots m_kept m_away m_input m_halfway m_output)) dX12_advance_112 (lay_of laym_X12) 0 rfl rfl 16 (by decide) tyX12 tyX12_ok nmX12 (mw wm_126) rfl rfl (tyX12_ok 16 (by decide)) rfl rfl (Nat.le_of_ble_eq_true rfl) rfl 115 rfl ?_
      refine v_aload_n X dX12_advance_115 0 rfl rfl 116 rfl ?_
      refine v_dup X dX12_advance_116 rfl 117 rfl ?_
      refine v_get X (C := RX12) (T := TX12) (N := 22) (ci := 11) (v := _) dX12_advance_117 (lay_of laym_X12) 0 rfl rfl 12 (by decide) (mw wm_120) rfl rfl 120 rfl ?_
      refine v_iconst X dX12_advance_120 ic_1 121 rfl ?_
      refine v_iadd X dX12_advance_121 122 rfl ?_
      refine v_put X (C := RX12) (T := TX12) (N := 22) (ci := 11) (ty := tyX12 12) (ws' := (wX12 ad c9 m_undoable m_undoStart m_thrown m_inputLength (m_position + 1) m_start m_token m_value (m_letters + 1) m_code m_place m_outputLength m_s m_parsed m_tried m_remembered m_slots m_kept m_away m_input m_halfway m_output)) dX12_advance_122 (lay_of laym_X12) 0 rfl rfl 12 (by decide) tyX12 tyX12_ok nmX12 (mw wm_120) rfl rfl (tyX12_ok 12 (by decide)) rfl rfl (Nat.le_of_ble_eq_true rfl) rfl 125 rfl ?_
      refine v_goto X (tgt := 91) dX12_advance_125 rfl ?_
      exact ih (m_position + 1) (m_letters + 1) hf
set_option maxRecDepth 100000 in
set_option maxHeartbeats 4000000 in
theorem c_X12_advance (l : Launch) {G : (Nat → Prop) → State → Heap → Prop} (hG : vG G) (D : va_G) (c9 : Nat → ClassId) (ad : Nat → Nat) (m_undoable : Int32) (m_undoStart : Int32) (m_thrown : Int32) (m_inputLength : Int32) (m_position : Int32) (m_start : Int32) (m_token : Int32) (m_value : Int32) (m_letters : Int32) (m_code : Int32) (m_place : Int32) (m_outputLength : Int32) (m_s : Nat → Int32) (m_parsed : Nat → Int32) (m_tried : Nat → Int32) (m_remembered : Nat → Int32) (m_slots : Nat → Int32) (m_kept : Nat → Int32) (m_away : Nat → Int32) (m_input : Nat → Int32) (m_halfway : Nat → Int32) (m_output : Nat → Int32)  {o : Int32 × Int32 × Int32 × Int32 × Int32} (hf : f_X12_advance m_inputLength m_position m_start m_token m_value m_letters m_input = some o) : mV l yX12_advance (wq yX12_advance cX12_advance 2 none) { frames := 2, cells := 0, slots := 0, locals := 42 } G D (tyA c9) [.ref (ad 0)] (wX12 ad c9 m_undoable m_undoStart m_thrown m_inputLength m_position m_start m_token m_value m_letters m_code m_place m_outputLength m_s m_parsed m_tried m_remembered m_slots m_kept m_away m_input m_halfway m_output) [] 0 0 (wX12 ad c9 m_undoable m_undoStart m_thrown m_inputLength o.1 o.2.1 o.2.2.1 o.2.2.2.1 o.2.2.2.2 m_code m_place m_outputLength m_s m_parsed m_tried m_remembered m_slots m_kept m_away m_input m_halfway m_output) := by
  refine mV_of hG (cc := cX12_advance) (maxL := 2) (by decide) rfl (Nat.le_of_ble_eq_true rfl) ?_
  intro p e s m args below meth c A hnm X
  have X : vX p s m args meth c cX12_advance 2 none RX12 (wq yX12_advance cX12_advance 2 none) D (tyA c9) G A := X
  refine v_eq (lv2 := [(0, .ref (ad 0))]) rfl rfl rfl rfl ?_
  rw [f_X12_advance] at hf
  obtain ⟨o3, ho3, hf⟩ := bnd hf
  refine l_X12_advance_L0 l hG D c9 ad m_undoable m_undoStart m_thrown m_inputLength m_start m_token m_value m_letters m_code m_place m_outputLength m_s m_parsed m_tried m_remembered m_slots m_kept m_away m_input m_halfway m_output X o3 ?_ 5000 m_position ho3
  refine v_aload_n X dX12_advance_39 0 rfl rfl 40 rfl ?_
  refine v_aload_n X dX12_advance_40 0 rfl rfl 41 rfl ?_
  refine v_get X (C := RX12) (T := TX12) (N := 22) (ci := 11) (v := _) dX12_advance_41 (lay_of laym_X12) 0 rfl rfl 12 (by decide) (mw wm_120) rfl rfl 44 rfl ?_
  refine v_put X (C := RX12) (T := TX12) (N := 22) (ci := 11) (ty := tyX12 13) (ws' := (wX12 ad c9 m_undoable m_undoStart m_thrown m_inputLength o3 o3 m_token m_value m_letters m_code m_place m_outputLength m_s m_parsed m_tried m_remembered m_slots m_kept m_away m_input m_halfway m_output)) dX12_advance_44 (lay_of laym_X12) 0 rfl rfl 13 (by decide) tyX12 tyX12_ok nmX12 (mw wm_125) rfl rfl (tyX12_ok 13 (by decide)) rfl rfl (Nat.le_of_ble_eq_true rfl) rfl 47 rfl ?_
  refine v_aload_n X dX12_advance_47 0 rfl rfl 48 rfl ?_
  refine v_iconst X dX12_advance_48 ic_0 49 rfl ?_
  refine v_put X (C := RX12) (T := TX12) (N := 22) (ci := 11) (ty := tyX12 16) (ws' := (wX12 ad c9 m_undoable m_undoStart m_thrown m_inputLength o3 o3 m_token m_value 0 m_code m_place m_outputLength m_s m_parsed m_tried m_remembered m_slots m_kept m_away m_input m_halfway m_output)) dX12_advance_49 (lay_of laym_X12) 0 rfl rfl 16 (by decide) tyX12 tyX12_ok nmX12 (mw wm_126) rfl rfl (tyX12_ok 16 (by decide)) rfl rfl (Nat.le_of_ble_eq_true rfl) rfl 52 rfl ?_
  refine v_aload_n X dX12_advance_52 0 rfl rfl 53 rfl ?_
  refine v_iconst X dX12_advance_53 ic_0 54 rfl ?_
  refine v_put X (C := RX12) (T := TX12) (N := 22) (ci := 11) (ty := tyX12 15) (ws' := (wX12 ad c9 m_undoable m_undoStart m_thrown m_inputLength o3 o3 m_token 0 0 m_code m_place m_outputLength m_s m_parsed m_tried m_remembered m_slots m_kept m_away m_input m_halfway m_output)) dX12_advance_54 (lay_of laym_X12) 0 rfl rfl 15 (by decide) tyX12 tyX12_ok nmX12 (mw wm_127) rfl rfl (tyX12_ok 15 (by decide)) rfl rfl (Nat.le_of_ble_eq_true rfl) rfl 57 rfl ?_
  refine v_aload_n X dX12_advance_57 0 rfl rfl 58 rfl ?_
  refine v_aload_n X dX12_advance_58 0 rfl rfl 59 rfl ?_
  refine v_get X (C := RX12) (T := TX12) (N := 22) (ci := 11) (v := _) dX12_advance_59 (lay_of laym_X12) 0 rfl rfl 12 (by decide) (mw wm_120) rfl rfl 62 rfl ?_
  obtain ⟨o4, ho4, hf⟩ := bnd hf
  refine v_callVi X (ci := 11) (T := TX12) (C := RX12) (As := [.int o3]) (rest := []) (ws' := (wX12 ad c9 m_undoable m_undoStart m_thrown m_inputLength o3 o3 m_token 0 0 m_code m_place m_outputLength m_s m_parsed m_tried m_remembered m_slots m_kept m_away m_input m_halfway m_output)) (c_X12_byteAt l hG D c9 ad m_undoable m_undoStart m_thrown m_inputLength o3 o3 m_token 0 0 m_code m_place m_outputLength m_s m_parsed m_tried m_remembered m_slots m_kept m_away m_input m_halfway m_output o3 ho4) 1 (gV wm_121 wm_122 wm_123 wm_37 wm_124) rfl rfl rfl ⟨rfl, pd_X12_byteAt⟩ ⟨Nat.le_of_ble_eq_true rfl, Nat.le_of_ble_eq_true rfl⟩ 0 rfl rfl rfl rfl (Nat.le_of_ble_eq_true rfl) ⟨Nat.zero_le _, Nat.zero_le _⟩ [0, 1, 2, 3, 4, 5, 6, 7, 8, 9, 10] [] [0, 1, 2, 3, 4, 5, 6, 7, 8, 9, 10] rfl rfl rfl rfl dX12_advance_62 65 rfl ?_
  refine v_istore_n X (lv' := [(1, .int o4), (0, .ref (ad 0))]) dX12_advance_65 rfl (by decide) rfl 66 rfl ?_
  refine v_iload_n X dX12_advance_66 0 rfl rfl 67 rfl ?_
  refine v_iconst X dX12_advance_67 ic_m1 68 rfl ?_
  refine v_icmp_ne X (tgt := 79) dX12_advance_68 rfl 71 rfl hf (fun hf => ?_) (fun hf => ?_)
  · refine v_iload_n X dX12_advance_79 0 rfl rfl 80 rfl ?_
    obtain ⟨o5, ho5, hf⟩ := bnd hf
    refine v_callSi X (As := [.int o4]) (rest := []) (ws' := (wX12 ad c9 m_undoable m_undoStart m_thrown m_inputLength o3 o3 m_token 0 0 m_code m_place m_outputLength m_s m_parsed m_tried m_remembered m_slots m_kept m_away m_input m_halfway m_output)) (c_X12_isLetter l hG D c9 o4 ho5) 1 (gS wm_128 wm_129 wm_37 wm_130) rfl rfl rfl pd_X12_isLetter ⟨Nat.le_of_ble_eq_true rfl, Nat.le_of_ble_eq_true rfl⟩ rfl rfl (Nat.le_of_ble_eq_true rfl) ⟨Nat.zero_le _, Nat.zero_le _⟩ [] [0, 1, 2, 3, 4, 5, 6, 7, 8, 9, 10] [0, 1, 2, 3, 4, 5, 6, 7, 8, 9, 10] rfl rfl rfl rfl dX12_advance_80 83 rfl ?_
    refine v_if_eq X (tgt := 128) dX12_advance_83 rfl 86 rfl hf (fun hf => ?_) (fun hf => ?_)
    · refine v_iload_n X dX12_advance_128 0 rfl rfl 129 rfl ?_
      refine v_bipush X dX12_advance_129 bp_48 131 rfl ?_
      refine v_bipush X dX12_advance_131 bp_57 133 rfl ?_
      obtain ⟨o6, ho6, hf⟩ := bnd hf
      refine v_callSi X (As := [.int o4, .int 48, .int 57]) (rest := []) (ws' := (wX12 ad c9 m_undoable m_undoStart m_thrown m_inputLength o3 o3 m_token 0 0 m_code m_place m_outputLength m_s m_parsed m_tried m_remembered m_slots m_kept m_away m_input m_halfway m_output)) (c_X12_isBetween l hG D c9 o4 48 57 ho6) 3 (gS wm_111 wm_112 wm_37 wm_113) rfl rfl rfl pd_X12_isBetween ⟨Nat.le_of_ble_eq_true rfl, Nat.le_of_ble_eq_true rfl⟩ rfl rfl (Nat.le_of_ble_eq_true rfl) ⟨Nat.zero_le _, Nat.zero_le _⟩ [] [0, 1, 2, 3, 4, 5, 6, 7, 8, 9, 10] [0, 1, 2, 3, 4, 5, 6, 7, 8, 9, 10] rfl rfl rfl rfl dX12_advance_133 136 rfl ?_
      refine v_if_eq X (tgt := 214) dX12_advance_136 rfl 139 rfl hf (fun hf => ?_) (fun hf => ?_)
      · refine v_aload_n X dX12_advance_214 1 rfl rfl 215 rfl ?_
        refine v_iconst X dX12_advance_215 ic_1 216 rfl ?_
        refine v_put X (C := RX12) (T := TX12) (N := 22) (ci := 11) (ty := tyX12 14) (ws' := (wX12 ad c9 m_undoable m_undoStart m_thrown m_inputLength o3 o3 1 0 0 m_code m_place m_outputLength m_s m_parsed m_tried m_remembered m_slots m_kept m_away m_input m_halfway m_output)) dX12_advance_216 (lay_of laym_X12) 0 rfl rfl 14 (by decide) tyX12 tyX12_ok nmX12 (mw wm_131) rfl rfl (tyX12_ok 14 (by decide)) rfl rfl (Nat.le_of_ble_eq_true rfl) rfl 219 rfl ?_
        refine v_aload_n X dX12_advance_219 1 rfl rfl 220 rfl ?_
        refine v_dup X dX12_advance_220 rfl 221 rfl ?_
        refine v_get X (C := RX12) (T := TX12) (N := 22) (ci := 11) (v := _) dX12_advance_221 (lay_of laym_X12) 0 rfl rfl 12 (by decide) (mw wm_120) rfl rfl 224 rfl ?_
        refine v_iconst X dX12_advance_224 ic_1 225 rfl ?_
        refine v_iadd X dX12_advance_225 226 rfl ?_
        refine v_put X (C := RX12) (T := TX12) (N := 22) (ci := 11) (ty := tyX12 12) (ws' := (wX12 ad c9 m_undoable m_undoStart m_thrown m_inputLength (o3 + 1) o3 1 0 0 m_code m_place m_outputLength m_s m_parsed m_tried m_remembered m_slots m_kept m_away m_input m_halfway m_output)) dX12_advance_226 (lay_of laym_X12) 0 rfl rfl 12 (by decide) tyX12 tyX12_ok nmX12 (mw wm_120) rfl rfl (tyX12_ok 12 (by decide)) rfl rfl (Nat.le_of_ble_eq_true rfl) rfl 229 rfl ?_
        obtain rfl := Option.some.inj hf
        exact v_vret X (Nat.zero_le _) (Nat.zero_le _) dX12_advance_229
      · refine v_aload_n X dX12_advance_139 1 rfl rfl 140 rfl ?_
        refine v_iconst X dX12_advance_140 ic_2 141 rfl ?_
        refine v_put X (C := RX12) (T := TX12) (N := 22) (ci := 11) (ty := tyX12 14) (ws' := (wX12 ad c9 m_undoable m_undoStart m_thrown m_inputLength o3 o3 2 0 0 m_code m_place m_outputLength m_s m_parsed m_tried m_remembered m_slots m_kept m_away m_input m_halfway m_output)) dX12_advance_141 (lay_of laym_X12) 0 rfl rfl 14 (by decide) tyX12 tyX12_ok nmX12 (mw wm_131) rfl rfl (tyX12_ok 14 (by decide)) rfl rfl (Nat.le_of_ble_eq_true rfl) rfl 144 rfl ?_
        obtain ⟨o11, ho11, hf⟩ := bnd hf
        refine v_sub (lv' := [(0, .ref (ad 0))]) [1] rfl ?_
        refine l_X12_advance_L144 l hG D c9 ad m_undoable m_undoStart m_thrown m_inputLength o3 2 0 m_code m_place m_outputLength m_s m_parsed m_tried m_remembered m_slots m_kept m_away m_input m_halfway m_output X o11 ?_ 5000 o3 0 ho11
        obtain rfl := Option.some.inj hf
        exact v_vret X (Nat.zero_le _) (Nat.zero_le _) dX12_advance_229
    · refine v_aload_n X dX12_advance_86 1 rfl rfl 87 rfl ?_
      refine v_iconst X dX12_advance_87 ic_3 88 rfl ?_
      refine v_put X (C := RX12) (T := TX12) (N := 22) (ci := 11) (ty := tyX12 14) (ws' := (wX12 ad c9 m_undoable m_undoStart m_thrown m_inputLength o3 o3 3 0 0 m_code m_place m_outputLength m_s m_parsed m_tried m_remembered m_slots m_kept m_away m_input m_halfway m_output)) dX12_advance_88 (lay_of laym_X12) 0 rfl rfl 14 (by decide) tyX12 tyX12_ok nmX12 (mw wm_131) rfl rfl (tyX12_ok 14 (by decide)) rfl rfl (Nat.le_of_ble_eq_true rfl) rfl 91 rfl ?_
      obtain ⟨o14, ho14, hf⟩ := bnd hf
      refine v_sub (lv' := [(0, .ref (ad 0))]) [1] rfl ?_
      refine l_X12_advance_L91 l hG D c9 ad m_undoable m_undoStart m_thrown m_inputLength o3 3 0 m_code m_place m_outputLength m_s m_parsed m_tried m_remembered m_slots m_kept m_away m_input m_halfway m_output X o14 ?_ 5000 o3 0 ho14
      obtain rfl := Option.some.inj hf
      exact v_vret X (Nat.zero_le _) (Nat.zero_le _) dX12_advance_229
  · refine v_aload_n X dX12_advance_71 1 rfl rfl 72 rfl ?_
    refine v_iconst X dX12_advance_72 ic_0 73 rfl ?_
    refine v_put X (C := RX12) (T := TX12) (N := 22) (ci := 11) (ty := tyX12 14) (ws' := (wX12 ad c9 m_undoable m_undoStart m_thrown m_inputLength o3 o3 0 0 0 m_code m_place m_outputLength m_s m_parsed m_tried m_remembered m_slots m_kept m_away m_input m_halfway m_output)) dX12_advance_73 (lay_of laym_X12) 0 rfl rfl 14 (by decide) tyX12 tyX12_ok nmX12 (mw wm_131) rfl rfl (tyX12_ok 14 (by decide)) rfl rfl (Nat.le_of_ble_eq_true rfl) rfl 76 rfl ?_
    refine v_goto X (tgt := 229) dX12_advance_76 rfl ?_
    obtain rfl := Option.some.inj hf
    exact v_vret X (Nat.zero_le _) (Nat.zero_le _) dX12_advance_229
theorem pd_X12_advance : yX12_advance.cls ≠ "java/lang/invoke/MethodHandle" ∧ yX12_advance.cls ≠ "java/lang/invoke/VarHandle" ∧ (parseMethodDescriptor yX12_advance.desc).map (fun d => d.parameters.length) = some 0 := by decide +kernel
def f_X12_is_L23 (m_start : Int32) (m_token : Int32) (m_letters : Int32) (m_input : Nat → Int32) (w1 : Nat) : Nat → Int32 → Option (Int32)
  | 0, _ => none
  | n + 1, v2 =>
    if m_letters ≤ v2 then (
      some (1))
    else (
      (rd m_input 600 (m_start + v2)).bind fun x1 =>
      (sch w1 v2).bind fun x2 =>
      if x1 = x2 then (
        f_X12_is_L23 m_start m_token m_letters m_input w1 n  (v2 + 1))
      else (
        some (0)))
def f_X12_is (m_start : Int32) (m_token : Int32) (m_letters : Int32) (m_input : Nat → Int32) (w1 : Nat) : Option (Int32) :=
  if m_token = 3 then (
    if m_letters = (slen w1) then (
      f_X12_is_L23 m_start m_token m_letters m_input w1 5000 0)
    else (
      some (0)))
  else (
    some (0))
set_option maxRecDepth 100000 in
set_option maxHeartbeats 4000000 in
theorem l_X12_is_L23 (l : Launch) {G : (Nat → Prop) → State → Heap → Prop} (hG : vG G) (D : va_G) (c9 : Nat → ClassId) (sk sv : Nat → Nat) (hGU : ∀ (A : Nat → Prop) (U : State) (H : Heap), G A U H → vU sk sv A U H) (ad : Nat → Nat) (m_undoable : Int32) (m_undoStart : Int32) (m_thrown : Int32) (m_inputLength : Int32) (m_position : Int32) (m_start : Int32) (m_token : Int32) (m_value : Int32) (m_letters : Int32) (m_code : Int32) (m_place : Int32) (m_outputLength : Int32) (m_s : Nat → Int32) (m_parsed : Nat → Int32) (m_tried : Nat → Int32) (m_remembered : Nat → Int32) (m_slots : Nat → Int32) (m_kept : Nat → Int32) (m_away : Nat → Int32) (m_input : Nat → Int32) (m_halfway : Nat → Int32) (m_output : Nat → Int32) (w1 : Nat) (hw1 : w1 < nJS) {p : Program} {e : Env} {s : State} {m : MethodId} {args : Array Value} {below : List Frame} {meth : Method} {c : Code} {A : Nat → Prop} {F : va_W} (X : vX p s m args meth c cX12_is 3 (some .boolean) RX12 (wq yX12_is cX12_is 3 (some .boolean)) D (tyA c9) G A) (o : Int32) :
    ∀ (n : Nat) (v2 : Int32), f_X12_is_L23 m_start m_token m_letters m_input w1 n v2 = some o → vW p l e { frames := 5, cells := 0, slots := 0, locals := 150 } s m args below meth c 3 D A F 0 0 (MQ below (eI D (tyA c9) A o ((wX12 ad c9 m_undoable m_undoStart m_thrown m_inputLength m_position m_start m_token m_value m_letters m_code m_place m_outputLength m_s m_parsed m_tried m_remembered m_slots m_kept m_away m_input m_halfway m_output) ++ F)) args s 0 0 A) (wX12 ad c9 m_undoable m_undoStart m_thrown m_inputLength m_position m_start m_token m_value m_letters m_code m_place m_outputLength m_s m_parsed m_tried m_remembered m_slots m_kept m_away m_input m_halfway m_output) 23 [(0, .ref (ad 0)), (1, .ref (sk w1)), (2, .int v2)] [] := by
  intro n
  induction n with
  | zero =>
    intro v2 hf
    rw [f_X12_is_L23] at hf
    cases hf
  | succ n ih =>
    intro v2 hf
    rw [f_X12_is_L23] at hf
    refine v_iload_n X dX12_is_23 2 rfl rfl 24 rfl ?_
    refine v_aload_n X dX12_is_24 0 rfl rfl 25 rfl ?_
    refine v_get X (C := RX12) (T := TX12) (N := 22) (ci := 11) (v := _) dX12_is_25 (lay_of laym_X12) 0 rfl rfl 16 (by decide) (mw wm_126) rfl rfl 28 rfl ?_
    refine v_icmp_ge X (tgt := 58) dX12_is_28 rfl 31 rfl hf (fun hf => ?_) (fun hf => ?_)
    · refine v_iconst X dX12_is_58 ic_1 59 rfl ?_
      obtain rfl := Option.some.inj hf
      exact v_zret X (Nat.zero_le _) (Nat.zero_le _) nz1 dX12_is_59
    · refine v_aload_n X dX12_is_31 0 rfl rfl 32 rfl ?_
      refine v_get X (C := RX12) (T := TX12) (N := 22) (ci := 11) (v := _) dX12_is_32 (lay_of laym_X12) 0 rfl rfl 10 (by decide) (mw wm_27) rfl rfl 35 rfl ?_
      refine v_aload_n X dX12_is_35 0 rfl rfl 36 rfl ?_
      refine v_get X (C := RX12) (T := TX12) (N := 22) (ci := 11) (v := _) dX12_is_36 (lay_of laym_X12) 0 rfl rfl 13 (by decide) (mw wm_125) rfl rfl 39 rfl ?_
      refine v_iload_n X dX12_is_39 2 rfl rfl 40 rfl ?_
      refine v_iadd X dX12_is_40 41 rfl ?_
      obtain ⟨x1, hx1, hf⟩ := bnd hf
      refine v_iald X dX12_is_41 8 0 rfl rfl hx1 42 rfl ?_
      refine v_aload_n X dX12_is_42 1 rfl rfl 43 rfl ?_
      refine v_iload_n X dX12_is_43 2 rfl rfl 44 rfl ?_
      obtain ⟨x2, hx2, hf⟩ := bnd hf
      refine v_sch X hGU hw1 hx2 (gV wm_28 wm_29 wm_30 wm_3 wm_31) ⟨Nat.le_of_ble_eq_true rfl, Nat.le_of_ble_eq_true rfl⟩ (rest := [.int x1]) (Nat.le_of_ble_eq_true rfl) ⟨Nat.zero_le _, Nat.zero_le _⟩ dX12_is_44 47 rfl ?_
      refine v_icmp_eq X (tgt := 52) dX12_is_47 rfl 50 rfl hf (fun hf => ?_) (fun hf => ?_)
      · refine v_iinc X (lv' := [(2, .int (v2 + 1)), (0, .ref (ad 0)), (1, .ref (sk w1))]) dX12_is_52 2 rfl ic_1 (by decide) rfl 55 rfl ?_
        refine v_goto X (tgt := 23) dX12_is_55 rfl ?_
        refine v_sub (lv' := [(0, .ref (ad 0)), (1, .ref (sk w1)), (2, .int (v2 + 1))]) [1, 2, 0] rfl ?_
        exact ih (v2 + 1) hf
      · refine v_iconst X dX12_is_50 ic_0 51 rfl ?_
        obtain rfl := Option.some.inj hf
        exact v_zret X (Nat.zero_le _) (Nat.zero_le _) nz0 dX12_is_51
set_option maxRecDepth 100000 in
set_option maxHeartbeats 4000000 in
theorem c_X12_is (l : Launch) {G : (Nat → Prop) → State → Heap → Prop} (hG : vG G) (D : va_G) (c9 : Nat → ClassId) (sk sv : Nat → Nat) (hGU : ∀ (A : Nat → Prop) (U : State) (H : Heap), G A U H → vU sk sv A U H) (ad : Nat → Nat) (m_undoable : Int32) (m_undoStart : Int32) (m_thrown : Int32) (m_inputLength : Int32) (m_position : Int32) (m_start : Int32) (m_token : Int32) (m_value : Int32) (m_letters : Int32) (m_code : Int32) (m_place : Int32) (m_outputLength : Int32) (m_s : Nat → Int32) (m_parsed : Nat → Int32) (m_tried : Nat → Int32) (m_remembered : Nat → Int32) (m_slots : Nat → Int32) (m_kept : Nat → Int32) (m_away : Nat → Int32) (m_input : Nat → Int32) (m_halfway : Nat → Int32) (m_output : Nat → Int32) (w1 : Nat) (hw1 : w1 < nJS) {o : Int32} (hf : f_X12_is m_start m_token m_letters m_input w1 = some o) : mI l yX12_is (wq yX12_is cX12_is 3 (some .boolean)) { frames := 5, cells := 0, slots := 0, locals := 150 } G D (tyA c9) [.ref (ad 0), .ref (sk w1)] (wX12 ad c9 m_undoable m_undoStart m_thrown m_inputLength m_position m_start m_token m_value m_letters m_code m_place m_outputLength m_s m_parsed m_tried m_remembered m_slots m_kept m_away m_input m_halfway m_output) [] 0 0 o (wX12 ad c9 m_undoable m_undoStart m_thrown m_inputLength m_position m_start m_token m_value m_letters m_code m_place m_outputLength m_s m_parsed m_tried m_remembered m_slots m_kept m_away m_input m_halfway m_output) := by
  refine mI_of hG (cc := cX12_is) (maxL := 3) (ty := .boolean) (by decide) rfl (Nat.le_of_ble_eq_true rfl) ?_
  intro p e s m args below meth c A X
  have X : vX p s m args meth c cX12_is 3 (some .boolean) RX12 (wq yX12_is cX12_is 3 (some .boolean)) D (tyA c9) G A := X
  refine v_eq (lv2 := [(0, .ref (ad 0)), (1, .ref (sk w1))]) rfl rfl rfl rfl ?_
  rw [f_X12_is] at hf
  refine v_aload_n X dX12_is_0 0 rfl rfl 1 rfl ?_
  refine v_get X (C := RX12) (T := TX12) (N := 22) (ci := 11) (v := _) dX12_is_1 (lay_of laym_X12) 0 rfl rfl 14 (by decide) (mw wm_131) rfl rfl 4 rfl ?_
  refine v_iconst X dX12_is_4 ic_3 5 rfl ?_
  refine v_icmp_ne X (tgt := 19) dX12_is_5 rfl 8 rfl hf (fun hf => ?_) (fun hf => ?_)
  · refine v_iconst X dX12_is_19 ic_0 20 rfl ?_
    obtain rfl := Option.some.inj hf
    exact v_zret X (Nat.zero_le _) (Nat.zero_le _) nz0 dX12_is_20
  · refine v_aload_n X dX12_is_8 0 rfl rfl 9 rfl ?_
    refine v_get X (C := RX12) (T := TX12) (N := 22) (ci := 11) (v := _) dX12_is_9 (lay_of laym_X12) 0 rfl rfl 16 (by decide) (mw wm_126) rfl rfl 12 rfl ?_
    refine v_aload_n X dX12_is_12 1 rfl rfl 13 rfl ?_
    refine v_slen X hGU hw1 (gV wm_0 wm_1 wm_2 wm_3 wm_4) ⟨Nat.le_of_ble_eq_true rfl, Nat.le_of_ble_eq_true rfl⟩ (rest := [.int m_letters]) (Nat.le_of_ble_eq_true rfl) ⟨Nat.zero_le _, Nat.zero_le _⟩ dX12_is_13 16 rfl ?_
    refine v_icmp_eq X (tgt := 21) dX12_is_16 rfl 19 rfl hf (fun hf => ?_) (fun hf => ?_)
    · refine v_iconst X dX12_is_21 ic_0 22 rfl ?_
      refine v_istore_n X (lv' := [(2, .int 0), (0, .ref (ad 0)), (1, .ref (sk w1))]) dX12_is_22 rfl (by decide) rfl 23 rfl ?_
      refine v_sub (lv' := [(0, .ref (ad 0)), (1, .ref (sk w1)), (2, .int 0)]) [1, 2, 0] rfl ?_
      exact l_X12_is_L23 l hG D c9 sk sv hGU ad m_undoable m_undoStart m_thrown m_inputLength m_position m_start m_token m_value m_letters m_code m_place m_outputLength m_s m_parsed m_tried m_remembered m_slots m_kept m_away m_input m_halfway m_output w1 hw1 X _ 5000 0 hf
    · refine v_iconst X dX12_is_19 ic_0 20 rfl ?_
      obtain rfl := Option.some.inj hf
      exact v_zret X (Nat.zero_le _) (Nat.zero_le _) nz0 dX12_is_20
theorem pd_X12_is : yX12_is.cls ≠ "java/lang/invoke/MethodHandle" ∧ yX12_is.cls ≠ "java/lang/invoke/VarHandle" ∧ (parseMethodDescriptor yX12_is.desc).map (fun d => d.parameters.length) = some 1 := by decide +kernel
def f_X12_check (m_start : Int32) (m_code : Int32) (m_place : Int32) (v1 : Int32) (v2 : Int32) : Option (Int32 × Int32 × Int32) :=
  Option.bind (if m_code = 0 then (
    if v1 = 0 then (
      some (v2, m_start))
    else (
      some (m_code, m_place)))
  else (
    some (m_code, m_place)) : Option (Int32 × Int32)) fun j1 =>
  if j1.1 = 0 then (
    some (1, j1.1, j1.2))
  else (
    some (0, j1.1, j1.2))
set_option maxRecDepth 100000 in
set_option maxHeartbeats 4000000 in
theorem c_X12_check (l : Launch) {G : (Nat → Prop) → State → Heap → Prop} (hG : vG G) (D : va_G) (c9 : Nat → ClassId) (ad : Nat → Nat) (m_undoable : Int32) (m_undoStart : Int32) (m_thrown : Int32) (m_inputLength : Int32) (m_position : Int32) (m_start : Int32) (m_token : Int32) (m_value : Int32) (m_letters : Int32) (m_code : Int32) (m_place : Int32) (m_outputLength : Int32) (m_s : Nat → Int32) (m_parsed : Nat → Int32) (m_tried : Nat → Int32) (m_remembered : Nat → Int32) (m_slots : Nat → Int32) (m_kept : Nat → Int32) (m_away : Nat → Int32) (m_input : Nat → Int32) (m_halfway : Nat → Int32) (m_output : Nat → Int32) (v1 : Int32) (v2 : Int32) {o : Int32 × Int32 × Int32} (hf : f_X12_check m_start m_code m_place v1 v2 = some o) : mI l yX12_check (wq yX12_check cX12_check 3 (some .boolean)) { frames := 0, cells := 0, slots := 0, locals := 0 } G D (tyA c9) [.ref (ad 0), .int v1, .int v2] (wX12 ad c9 m_undoable m_undoStart m_thrown m_inputLength m_position m_start m_token m_value m_letters m_code m_place m_outputLength m_s m_parsed m_tried m_remembered m_slots m_kept m_away m_input m_halfway m_output) [] 0 0 o.1 (wX12 ad c9 m_undoable m_undoStart m_thrown m_inputLength m_position m_start m_token m_value m_letters o.2.1 o.2.2 m_outputLength m_s m_parsed m_tried m_remembered m_slots m_kept m_away m_input m_halfway m_output) := by
  refine mI_of hG (cc := cX12_check) (maxL := 3) (ty := .boolean) (by decide) rfl (Nat.le_of_ble_eq_true rfl) ?_
  intro p e s m args below meth c A X
  have X : vX p s m args meth c cX12_check 3 (some .boolean) RX12 (wq yX12_check cX12_check 3 (some .boolean)) D (tyA c9) G A := X
  refine v_eq (lv2 := [(0, .ref (ad 0)), (1, .int v1), (2, .int v2)]) rfl rfl rfl rfl ?_
  rw [f_X12_check] at hf
  refine v_aload_n X dX12_check_0 0 rfl rfl 1 rfl ?_
  refine v_get X (C := RX12) (T := TX12) (N := 22) (ci := 11) (v := _) dX12_check_1 (lay_of laym_X12) 0 rfl rfl 17 (by decide) (mw wm_118) rfl rfl 4 rfl ?_
  obtain ⟨j1, hj1, hf⟩ := bnd hf
  have Jj1 : vW p l e { frames := 0, cells := 0, slots := 0, locals := 0 } s m args below meth c 3 D A [] 0 0 (MQ below (eI D (tyA c9) A o.1 ((wX12 ad c9 m_undoable m_undoStart m_thrown m_inputLength m_position m_start m_token m_value m_letters o.2.1 o.2.2 m_outputLength m_s m_parsed m_tried m_remembered m_slots m_kept m_away m_input m_halfway m_output) ++ [])) args s 0 0 A) (wX12 ad c9 m_undoable m_undoStart m_thrown m_inputLength m_position m_start m_token m_value m_letters j1.1 j1.2 m_outputLength m_s m_parsed m_tried m_remembered m_slots m_kept m_away m_input m_halfway m_output) 24 [(0, .ref (ad 0))] [] := by
    refine v_aload_n X dX12_check_24 0 rfl rfl 25 rfl ?_
    refine v_get X (C := RX12) (T := TX12) (N := 22) (ci := 11) (v := _) dX12_check_25 (lay_of laym_X12) 0 rfl rfl 17 (by decide) (mw wm_118) rfl rfl 28 rfl ?_
    refine v_if_ne X (tgt := 35) dX12_check_28 rfl 31 rfl hf (fun hf => ?_) (fun hf => ?_)
    · refine v_iconst X dX12_check_35 ic_0 36 rfl ?_
      obtain rfl := Option.some.inj hf
      exact v_zret X (Nat.zero_le _) (Nat.zero_le _) nz0 dX12_check_36
    · refine v_iconst X dX12_check_31 ic_1 32 rfl ?_
      refine v_goto X (tgt := 36) dX12_check_32 rfl ?_
      obtain rfl := Option.some.inj hf
      exact v_zret X (Nat.zero_le _) (Nat.zero_le _) nz1 dX12_check_36
  clear hf
  refine v_if_ne X (tgt := 24) dX12_check_4 rfl 7 rfl hj1 (fun hf => ?_) (fun hf => ?_)
  · obtain rfl := Option.some.inj hf
    refine v_sub (lv' := [(0, .ref (ad 0))]) [0] rfl ?_
    exact Jj1
  · refine v_iload_n X dX12_check_7 1 rfl rfl 8 rfl ?_
    refine v_if_ne X (tgt := 24) dX12_check_8 rfl 11 rfl hf (fun hf => ?_) (fun hf => ?_)
    · obtain rfl := Option.some.inj hf
      refine v_sub (lv' := [(0, .ref (ad 0))]) [0] rfl ?_
      exact Jj1
    · refine v_aload_n X dX12_check_11 0 rfl rfl 12 rfl ?_
      refine v_iload_n X dX12_check_12 2 rfl rfl 13 rfl ?_
      refine v_put X (C := RX12) (T := TX12) (N := 22) (ci := 11) (ty := tyX12 17) (ws' := (wX12 ad c9 m_undoable m_undoStart m_thrown m_inputLength m_position m_start m_token m_value m_letters v2 m_place m_outputLength m_s m_parsed m_tried m_remembered m_slots m_kept m_away m_input m_halfway m_output)) dX12_check_13 (lay_of laym_X12) 0 rfl rfl 17 (by decide) tyX12 tyX12_ok nmX12 (mw wm_118) rfl rfl (tyX12_ok 17 (by decide)) rfl rfl (Nat.le_of_ble_eq_true rfl) rfl 16 rfl ?_
      refine v_aload_n X dX12_check_16 0 rfl rfl 17 rfl ?_
      refine v_aload_n X dX12_check_17 0 rfl rfl 18 rfl ?_
      refine v_get X (C := RX12) (T := TX12) (N := 22) (ci := 11) (v := _) dX12_check_18 (lay_of laym_X12) 0 rfl rfl 13 (by decide) (mw wm_125) rfl rfl 21 rfl ?_
      refine v_put X (C := RX12) (T := TX12) (N := 22) (ci := 11) (ty := tyX12 18) (ws' := (wX12 ad c9 m_undoable m_undoStart m_thrown m_inputLength m_position m_start m_token m_value m_letters v2 m_start m_outputLength m_s m_parsed m_tried m_remembered m_slots m_kept m_away m_input m_halfway m_output)) dX12_check_21 (lay_of laym_X12) 0 rfl rfl 18 (by decide) tyX12 tyX12_ok nmX12 (mw wm_119) rfl rfl (tyX12_ok 18 (by decide)) rfl rfl (Nat.le_of_ble_eq_true rfl) rfl 24 rfl ?_
      obtain rfl := Option.some.inj hf
      refine v_sub (lv' := [(0, .ref (ad 0))]) [0] rfl ?_
      exact Jj1
theorem pd_X12_check : yX12_check.cls ≠ "java/lang/invoke/MethodHandle" ∧ yX12_check.cls ≠ "java/lang/invoke/VarHandle" ∧ (parseMethodDescriptor yX12_check.desc).map (fun d => d.parameters.length) = some 2 := by decide +kernel
def f_X12_next (m_inputLength : Int32) (m_position : Int32) (m_start : Int32) (m_token : Int32) (m_value : Int32) (m_letters : Int32) (m_code : Int32) (m_input : Nat → Int32) : Option (Int32 × Int32 × Int32 × Int32 × Int32) :=
  if m_code = 0 then (
    (f_X12_advance m_inputLength m_position m_start m_token m_value m_letters m_input).bind fun o1 =>
    some (o1.1, o1.2.1, o1.2.2.1, o1.2.2.2.1, o1.2.2.2.2))
  else (
    some (m_position, m_start, m_token, m_value, m_letters))
set_option maxRecDepth 100000 in
set_option maxHeartbeats 4000000 in
theorem c_X12_next (l : Launch) {G : (Nat → Prop) → State → Heap → Prop} (hG : vG G) (D : va_G) (c9 : Nat → ClassId) (ad : Nat → Nat) (m_undoable : Int32) (m_undoStart : Int32) (m_thrown : Int32) (m_inputLength : Int32) (m_position : Int32) (m_start : Int32) (m_token : Int32) (m_value : Int32) (m_letters : Int32) (m_code : Int32) (m_place : Int32) (m_outputLength : Int32) (m_s : Nat → Int32) (m_parsed : Nat → Int32) (m_tried : Nat → Int32) (m_remembered : Nat → Int32) (m_slots : Nat → Int32) (m_kept : Nat → Int32) (m_away : Nat → Int32) (m_input : Nat → Int32) (m_halfway : Nat → Int32) (m_output : Nat → Int32)  {o : Int32 × Int32 × Int32 × Int32 × Int32} (hf : f_X12_next m_inputLength m_position m_start m_token m_value m_letters m_code m_input = some o) : mV l yX12_next (wq yX12_next cX12_next 1 none) { frames := 3, cells := 0, slots := 0, locals := 63 } G D (tyA c9) [.ref (ad 0)] (wX12 ad c9 m_undoable m_undoStart m_thrown m_inputLength m_position m_start m_token m_value m_letters m_code m_place m_outputLength m_s m_parsed m_tried m_remembered m_slots m_kept m_away m_input m_halfway m_output) [] 0 0 (wX12 ad c9 m_undoable m_undoStart m_thrown m_inputLength o.1 o.2.1 o.2.2.1 o.2.2.2.1 o.2.2.2.2 m_code m_place m_outputLength m_s m_parsed m_tried m_remembered m_slots m_kept m_away m_input m_halfway m_output) := by
  refine mV_of hG (cc := cX12_next) (maxL := 1) (by decide) rfl (Nat.le_of_ble_eq_true rfl) ?_
  intro p e s m args below meth c A hnm X
  have X : vX p s m args meth c cX12_next 1 none RX12 (wq yX12_next cX12_next 1 none) D (tyA c9) G A := X
  refine v_eq (lv2 := [(0, .ref (ad 0))]) rfl rfl rfl rfl ?_
  rw [f_X12_next] at hf
  refine v_aload_n X dX12_next_0 0 rfl rfl 1 rfl ?_
  refine v_get X (C := RX12) (T := TX12) (N := 22) (ci := 11) (v := _) dX12_next_1 (lay_of laym_X12) 0 rfl rfl 17 (by decide) (mw wm_118) rfl rfl 4 rfl ?_
  refine v_if_ne X (tgt := 11) dX12_next_4 rfl 7 rfl hf (fun hf => ?_) (fun hf => ?_)
  · obtain rfl := Option.some.inj hf
    exact v_vret X (Nat.zero_le _) (Nat.zero_le _) dX12_next_11
  · refine v_aload_n X dX12_next_7 0 rfl rfl 8 rfl ?_
    obtain ⟨o1, ho1, hf⟩ := bnd hf
    refine v_callVv X (ci := 11) (T := TX12) (C := RX12) (As := []) (rest := []) (ws' := (wX12 ad c9 m_undoable m_undoStart m_thrown m_inputLength o1.1 o1.2.1 o1.2.2.1 o1.2.2.2.1 o1.2.2.2.2 m_code m_place m_outputLength m_s m_parsed m_tried m_remembered m_slots m_kept m_away m_input m_halfway m_output)) (c_X12_advance l hG D c9 ad m_undoable m_undoStart m_thrown m_inputLength m_position m_start m_token m_value m_letters m_code m_place m_outputLength m_s m_parsed m_tried m_remembered m_slots m_kept m_away m_input m_halfway m_output ho1) 0 (gV wm_133 wm_134 wm_135 wm_37 wm_136) rfl rfl rfl ⟨rfl, pd_X12_advance⟩ ⟨Nat.le_of_ble_eq_true rfl, Nat.le_of_ble_eq_true rfl⟩ 0 rfl rfl rfl rfl (Nat.le_of_ble_eq_true rfl) ⟨Nat.zero_le _, Nat.zero_le _⟩ [0, 1, 2, 3, 4, 5, 6, 7, 8, 9, 10] [] [0, 1, 2, 3, 4, 5, 6, 7, 8, 9, 10] rfl rfl rfl rfl dX12_next_8 11 rfl ?_
    obtain rfl := Option.some.inj hf
    exact v_vret X (Nat.zero_le _) (Nat.zero_le _) dX12_next_11
theorem pd_X12_next : yX12_next.cls ≠ "java/lang/invoke/MethodHandle" ∧ yX12_next.cls ≠ "java/lang/invoke/VarHandle" ∧ (parseMethodDescriptor yX12_next.desc).map (fun d => d.parameters.length) = some 0 := by decide +kernel
def f_X12_number (m_inputLength : Int32) (m_position : Int32) (m_start : Int32) (m_token : Int32) (m_value : Int32) (m_letters : Int32) (m_code : Int32) (m_place : Int32) (m_input : Nat → Int32) (v1 : Int32) (v2 : Int32) : Option (Int32 × Int32 × Int32 × Int32 × Int32 × Int32 × Int32 × Int32) :=
  Option.bind (if m_token = 2 then (
    some (1))
  else (
    some (0)) : Option (Int32)) fun j1 =>
  (f_X12_check m_start m_code m_place j1 1).bind fun o2 =>
  (f_X12_isBetween m_value v1 v2).bind fun o3 =>
  (f_X12_check m_start o2.2.1 o2.2.2 o3 2).bind fun o4 =>
  Option.bind (if o4.2.1 = 0 then (
    some (m_value))
  else (
    some (v1)) : Option (Int32)) fun j5 =>
  (f_X12_next m_inputLength m_position m_start m_token m_value m_letters o4.2.1 m_input).bind fun o6 =>
  some (j5, o6.1, o6.2.1, o6.2.2.1, o6.2.2.2.1, o6.2.2.2.2, o4.2.1, o4.2.2)
set_option maxRecDepth 100000 in
set_option maxHeartbeats 4000000 in
theorem c_X12_number (l : Launch) {G : (Nat → Prop) → State → Heap → Prop} (hG : vG G) (D : va_G) (c9 : Nat → ClassId) (ad : Nat → Nat) (m_undoable : Int32) (m_undoStart : Int32) (m_thrown : Int32) (m_inputLength : Int32) (m_position : Int32) (m_start : Int32) (m_token : Int32) (m_value : Int32) (m_letters : Int32) (m_code : Int32) (m_place : Int32) (m_outputLength : Int32) (m_s : Nat → Int32) (m_parsed : Nat → Int32) (m_tried : Nat → Int32) (m_remembered : Nat → Int32) (m_slots : Nat → Int32) (m_kept : Nat → Int32) (m_away : Nat → Int32) (m_input : Nat → Int32) (m_halfway : Nat → Int32) (m_output : Nat → Int32) (v1 : Int32) (v2 : Int32) {o : Int32 × Int32 × Int32 × Int32 × Int32 × Int32 × Int32 × Int32} (hf : f_X12_number m_inputLength m_position m_start m_token m_value m_letters m_code m_place m_input v1 v2 = some o) : mI l yX12_number (wq yX12_number cX12_number 4 (some .int)) { frames := 4, cells := 0, slots := 0, locals := 83 } G D (tyA c9) [.ref (ad 0), .int v1, .int v2] (wX12 ad c9 m_undoable m_undoStart m_thrown m_inputLength m_position m_start m_token m_value m_letters m_code m_place m_outputLength m_s m_parsed m_tried m_remembered m_slots m_kept m_away m_input m_halfway m_output) [] 0 0 o.1 (wX12 ad c9 m_undoable m_undoStart m_thrown m_inputLength o.2.1 o.2.2.1 o.2.2.2.1 o.2.2.2.2.1 o.2.2.2.2.2.1 o.2.2.2.2.2.2.1 o.2.2.2.2.2.2.2 m_outputLength m_s m_parsed m_tried m_remembered m_slots m_kept m_away m_input m_halfway m_output) := by
  refine mI_of hG (cc := cX12_number) (maxL := 4) (ty := .int) (by decide) rfl (Nat.le_of_ble_eq_true rfl) ?_
  intro p e s m args below meth c A X
  have X : vX p s m args meth c cX12_number 4 (some .int) RX12 (wq yX12_number cX12_number 4 (some .int)) D (tyA c9) G A := X
  refine v_eq (lv2 := [(0, .ref (ad 0)), (1, .int v1), (2, .int v2)]) rfl rfl rfl rfl ?_
  rw [f_X12_number] at hf
  refine v_aload_n X dX12_number_0 0 rfl rfl 1 rfl ?_
  refine v_aload_n X dX12_number_1 0 rfl rfl 2 rfl ?_
  refine v_get X (C := RX12) (T := TX12) (N := 22) (ci := 11) (v := _) dX12_number_2 (lay_of laym_X12) 0 rfl rfl 14 (by decide) (mw wm_131) rfl rfl 5 rfl ?_
  refine v_iconst X dX12_number_5 ic_2 6 rfl ?_
  obtain ⟨j1, hj1, hf⟩ := bnd hf
  have Jj1 : vW p l e { frames := 4, cells := 0, slots := 0, locals := 83 } s m args below meth c 4 D A [] 0 0 (MQ below (eI D (tyA c9) A o.1 ((wX12 ad c9 m_undoable m_undoStart m_thrown m_inputLength o.2.1 o.2.2.1 o.2.2.2.1 o.2.2.2.2.1 o.2.2.2.2.2.1 o.2.2.2.2.2.2.1 o.2.2.2.2.2.2.2 m_outputLength m_s m_parsed m_tried m_remembered m_slots m_kept m_away m_input m_halfway m_output) ++ [])) args s 0 0 A) (wX12 ad c9 m_undoable m_undoStart m_thrown m_inputLength m_position m_start m_token m_value m_letters m_code m_place m_outputLength m_s m_parsed m_tried m_remembered m_slots m_kept m_away m_input m_halfway m_output) 14 [(0, .ref (ad 0)), (1, .int v1), (2, .int v2)] [.int j1, .ref (ad 0)] := by
    refine v_iconst X dX12_number_14 ic_1 15 rfl ?_
    obtain ⟨o2, ho2, hf⟩ := bnd hf
    refine v_callVi X (ci := 11) (T := TX12) (C := RX12) (As := [.int j1, .int 1]) (rest := []) (ws' := (wX12 ad c9 m_undoable m_undoStart m_thrown m_inputLength m_position m_start m_token m_value m_letters o2.2.1 o2.2.2 m_outputLength m_s m_parsed m_tried m_remembered m_slots m_kept m_away m_input m_halfway m_output)) (c_X12_check l hG D c9 ad m_undoable m_undoStart m_thrown m_inputLength m_position m_start m_token m_value m_letters m_code m_place m_outputLength m_s m_parsed m_tried m_remembered m_slots m_kept m_away m_input m_halfway m_output j1 1 ho2) 2 (gV wm_137 wm_138 wm_139 wm_37 wm_140) rfl rfl rfl ⟨rfl, pd_X12_check⟩ ⟨Nat.le_of_ble_eq_true rfl, Nat.le_of_ble_eq_true rfl⟩ 0 rfl rfl rfl rfl (Nat.le_of_ble_eq_true rfl) ⟨Nat.zero_le _, Nat.zero_le _⟩ [0, 1, 2, 3, 4, 5, 6, 7, 8, 9, 10] [] [0, 1, 2, 3, 4, 5, 6, 7, 8, 9, 10] rfl rfl rfl rfl dX12_number_15 18 rfl ?_
    refine v_pop X dX12_number_18 rfl 19 rfl ?_
    refine v_aload_n X dX12_number_19 0 rfl rfl 20 rfl ?_
    refine v_aload_n X dX12_number_20 0 rfl rfl 21 rfl ?_
    refine v_get X (C := RX12) (T := TX12) (N := 22) (ci := 11) (v := _) dX12_number_21 (lay_of laym_X12) 0 rfl rfl 15 (by decide) (mw wm_127) rfl rfl 24 rfl ?_
    refine v_iload_n X dX12_number_24 1 rfl rfl 25 rfl ?_
    refine v_iload_n X dX12_number_25 2 rfl rfl 26 rfl ?_
    obtain ⟨o3, ho3, hf⟩ := bnd hf
    refine v_callSi X (As := [.int m_value, .int v1, .int v2]) (rest := [.ref (ad 0)]) (ws' := (wX12 ad c9 m_undoable m_undoStart m_thrown m_inputLength m_position m_start m_token m_value m_letters o2.2.1 o2.2.2 m_outputLength m_s m_parsed m_tried m_remembered m_slots m_kept m_away m_input m_halfway m_output)) (c_X12_isBetween l hG D c9 m_value v1 v2 ho3) 3 (gS wm_111 wm_112 wm_37 wm_113) rfl rfl rfl pd_X12_isBetween ⟨Nat.le_of_ble_eq_true rfl, Nat.le_of_ble_eq_true rfl⟩ rfl rfl (Nat.le_of_ble_eq_true rfl) ⟨Nat.zero_le _, Nat.zero_le _⟩ [] [0, 1, 2, 3, 4, 5, 6, 7, 8, 9, 10] [0, 1, 2, 3, 4, 5, 6, 7, 8, 9, 10] rfl rfl rfl rfl dX12_number_26 29 rfl ?_
    refine v_iconst X dX12_number_29 ic_2 30 rfl ?_
    obtain ⟨o4, ho4, hf⟩ := bnd hf
    refine v_callVi X (ci := 11) (T := TX12) (C := RX12) (As := [.int o3, .int 2]) (rest := []) (ws' := (wX12 ad c9 m_undoable m_undoStart m_thrown m_inputLength m_position m_start m_token m_value m_letters o4.2.1 o4.2.2 m_outputLength m_s m_parsed m_tried m_remembered m_slots m_kept m_away m_input m_halfway m_output)) (c_X12_check l hG D c9 ad m_undoable m_undoStart m_thrown m_inputLength m_position m_start m_token m_value m_letters o2.2.1 o2.2.2 m_outputLength m_s m_parsed m_tried m_remembered m_slots m_kept m_away m_input m_halfway m_output o3 2 ho4) 2 (gV wm_137 wm_138 wm_139 wm_37 wm_140) rfl rfl rfl ⟨rfl, pd_X12_check⟩ ⟨Nat.le_of_ble_eq_true rfl, Nat.le_of_ble_eq_true rfl⟩ 0 rfl rfl rfl rfl (Nat.le_of_ble_eq_true rfl) ⟨Nat.zero_le _, Nat.zero_le _⟩ [0, 1, 2, 3, 4, 5, 6, 7, 8, 9, 10] [] [0, 1, 2, 3, 4, 5, 6, 7, 8, 9, 10] rfl rfl rfl rfl dX12_number_30 33 rfl ?_
    refine v_pop X dX12_number_33 rfl 34 rfl ?_
    refine v_aload_n X dX12_number_34 0 rfl rfl 35 rfl ?_
    refine v_get X (C := RX12) (T := TX12) (N := 22) (ci := 11) (v := _) dX12_number_35 (lay_of laym_X12) 0 rfl rfl 17 (by decide) (mw wm_118) rfl rfl 38 rfl ?_
    obtain ⟨j5, hj5, hf⟩ := bnd hf
    have Jj5 : vW p l e { frames := 4, cells := 0, slots := 0, locals := 83 } s m args below meth c 4 D A [] 0 0 (MQ below (eI D (tyA c9) A o.1 ((wX12 ad c9 m_undoable m_undoStart m_thrown m_inputLength o.2.1 o.2.2.1 o.2.2.2.1 o.2.2.2.2.1 o.2.2.2.2.2.1 o.2.2.2.2.2.2.1 o.2.2.2.2.2.2.2 m_outputLength m_s m_parsed m_tried m_remembered m_slots m_kept m_away m_input m_halfway m_output) ++ [])) args s 0 0 A) (wX12 ad c9 m_undoable m_undoStart m_thrown m_inputLength m_position m_start m_token m_value m_letters o4.2.1 o4.2.2 m_outputLength m_s m_parsed m_tried m_remembered m_slots m_kept m_away m_input m_halfway m_output) 49 [(0, .ref (ad 0))] [.int j5] := by
      refine v_istore_n X (lv' := [(3, .int j5), (0, .ref (ad 0))]) dX12_number_49 rfl (by decide) rfl 50 rfl ?_
      refine v_aload_n X dX12_number_50 1 rfl rfl 51 rfl ?_
      obtain ⟨o6, ho6, hf⟩ := bnd hf
      refine v_callVv X (ci := 11) (T := TX12) (C := RX12) (As := []) (rest := []) (ws' := (wX12 ad c9 m_undoable m_undoStart m_thrown m_inputLength o6.1 o6.2.1 o6.2.2.1 o6.2.2.2.1 o6.2.2.2.2 o4.2.1 o4.2.2 m_outputLength m_s m_parsed m_tried m_remembered m_slots m_kept m_away m_input m_halfway m_output)) (c_X12_next l hG D c9 ad m_undoable m_undoStart m_thrown m_inputLength m_position m_start m_token m_value m_letters o4.2.1 o4.2.2 m_outputLength m_s m_parsed m_tried m_remembered m_slots m_kept m_away m_input m_halfway m_output ho6) 0 (gV wm_141 wm_142 wm_143 wm_37 wm_144) rfl rfl rfl ⟨rfl, pd_X12_next⟩ ⟨Nat.le_of_ble_eq_true rfl, Nat.le_of_ble_eq_true rfl⟩ 0 rfl rfl rfl rfl (Nat.le_of_ble_eq_true rfl) ⟨Nat.zero_le _, Nat.zero_le _⟩ [0, 1, 2, 3, 4, 5, 6, 7, 8, 9, 10] [] [0, 1, 2, 3, 4, 5, 6, 7, 8, 9, 10] rfl rfl rfl rfl dX12_number_51 54 rfl ?_
      refine v_iload_n X dX12_number_54 0 rfl rfl 55 rfl ?_
      obtain rfl := Option.some.inj hf
      exact v_iret X (Nat.zero_le _) (Nat.zero_le _) dX12_number_55
    clear hf
    refine v_if_ne X (tgt := 48) dX12_number_38 rfl 41 rfl hj5 (fun hf => ?_) (fun hf => ?_)
    · refine v_iload_n X dX12_number_48 1 rfl rfl 49 rfl ?_
      obtain rfl := Option.some.inj hf
      refine v_sub (lv' := [(0, .ref (ad 0))]) [0] rfl ?_
      exact Jj5
    · refine v_aload_n X dX12_number_41 0 rfl rfl 42 rfl ?_
      refine v_get X (C := RX12) (T := TX12) (N := 22) (ci := 11) (v := _) dX12_number_42 (lay_of laym_X12) 0 rfl rfl 15 (by decide) (mw wm_127) rfl rfl 45 rfl ?_
      refine v_goto X (tgt := 49) dX12_number_45 rfl ?_
      obtain rfl := Option.some.inj hf
      refine v_sub (lv' := [(0, .ref (ad 0))]) [0] rfl ?_
      exact Jj5
  clear hf
  refine v_icmp_ne X (tgt := 13) dX12_number_6 rfl 9 rfl hj1 (fun hf => ?_) (fun hf => ?_)
  · refine v_iconst X dX12_number_13 ic_0 14 rfl ?_
    obtain rfl := Option.some.inj hf
    exact Jj1
  · refine v_iconst X dX12_number_9 ic_1 10 rfl ?_
    refine v_goto X (tgt := 14) dX12_number_10 rfl ?_
    obtain rfl := Option.some.inj hf
    exact Jj1
theorem pd_X12_number : yX12_number.cls ≠ "java/lang/invoke/MethodHandle" ∧ yX12_number.cls ≠ "java/lang/invoke/VarHandle" ∧ (parseMethodDescriptor yX12_number.desc).map (fun d => d.parameters.length) = some 2 := by decide +kernel
def f_X12_semicolon (m_start : Int32) (m_token : Int32) (m_code : Int32) (m_place : Int32) (m_input : Nat → Int32) : Option (Int32 × Int32) :=
  Option.bind (if m_token = 1 then (
    (rd m_input 600 m_start).bind fun x2 =>
    if x2 = 59 then (
      some (1))
    else (
      some (0)))
  else (
    some (0)) : Option (Int32)) fun j1 =>
  (f_X12_check m_start m_code m_place j1 1).bind fun o3 =>
  some (o3.2.1, o3.2.2)
set_option maxRecDepth 100000 in
set_option maxHeartbeats 4000000 in
theorem c_X12_semicolon (l : Launch) {G : (Nat → Prop) → State → Heap → Prop} (hG : vG G) (D : va_G) (c9 : Nat → ClassId) (ad : Nat → Nat) (m_undoable : Int32) (m_undoStart : Int32) (m_thrown : Int32) (m_inputLength : Int32) (m_position : Int32) (m_start : Int32) (m_token : Int32) (m_value : Int32) (m_letters : Int32) (m_code : Int32) (m_place : Int32) (m_outputLength : Int32) (m_s : Nat → Int32) (m_parsed : Nat → Int32) (m_tried : Nat → Int32) (m_remembered : Nat → Int32) (m_slots : Nat → Int32) (m_kept : Nat → Int32) (m_away : Nat → Int32) (m_input : Nat → Int32) (m_halfway : Nat → Int32) (m_output : Nat → Int32)  {o : Int32 × Int32} (hf : f_X12_semicolon m_start m_token m_code m_place m_input = some o) : mV l yX12_semicolon (wq yX12_semicolon cX12_semicolon 1 none) { frames := 1, cells := 0, slots := 0, locals := 22 } G D (tyA c9) [.ref (ad 0)] (wX12 ad c9 m_undoable m_undoStart m_thrown m_inputLength m_position m_start m_token m_value m_letters m_code m_place m_outputLength m_s m_parsed m_tried m_remembered m_slots m_kept m_away m_input m_halfway m_output) [] 0 0 (wX12 ad c9 m_undoable m_undoStart m_thrown m_inputLength m_position m_start m_token m_value m_letters o.1 o.2 m_outputLength m_s m_parsed m_tried m_remembered m_slots m_kept m_away m_input m_halfway m_output) := by
  refine mV_of hG (cc := cX12_semicolon) (maxL := 1) (by decide) rfl (Nat.le_of_ble_eq_true rfl) ?_
  intro p e s m args below meth c A hnm X
  have X : vX p s m args meth c cX12_semicolon 1 none RX12 (wq yX12_semicolon cX12_semicolon 1 none) D (tyA c9) G A := X
  refine v_eq (lv2 := [(0, .ref (ad 0))]) rfl rfl rfl rfl ?_
  rw [f_X12_semicolon] at hf
  refine v_aload_n X dX12_semicolon_0 0 rfl rfl 1 rfl ?_
  refine v_aload_n X dX12_semicolon_1 0 rfl rfl 2 rfl ?_
  refine v_get X (C := RX12) (T := TX12) (N := 22) (ci := 11) (v := _) dX12_semicolon_2 (lay_of laym_X12) 0 rfl rfl 14 (by decide) (mw wm_131) rfl rfl 5 rfl ?_
  refine v_iconst X dX12_semicolon_5 ic_1 6 rfl ?_
  obtain ⟨j1, hj1, hf⟩ := bnd hf
  have Jj1 : vW p l e { frames := 1, cells := 0, slots := 0, locals := 22 } s m args below meth c 1 D A [] 0 0 (MQ below (eV D (tyA c9) A ((wX12 ad c9 m_undoable m_undoStart m_thrown m_inputLength m_position m_start m_token m_value m_letters o.1 o.2 m_outputLength m_s m_parsed m_tried m_remembered m_slots m_kept m_away m_input m_halfway m_output) ++ [])) args s 0 0 A) (wX12 ad c9 m_undoable m_undoStart m_thrown m_inputLength m_position m_start m_token m_value m_letters m_code m_place m_outputLength m_s m_parsed m_tried m_remembered m_slots m_kept m_away m_input m_halfway m_output) 28 [] [.int j1, .ref (ad 0)] := by
    refine v_iconst X dX12_semicolon_28 ic_1 29 rfl ?_
    obtain ⟨o3, ho3, hf⟩ := bnd hf
    refine v_callVi X (ci := 11) (T := TX12) (C := RX12) (As := [.int j1, .int 1]) (rest := []) (ws' := (wX12 ad c9 m_undoable m_undoStart m_thrown m_inputLength m_position m_start m_token m_value m_letters o3.2.1 o3.2.2 m_outputLength m_s m_parsed m_tried m_remembered m_slots m_kept m_away m_input m_halfway m_output)) (c_X12_check l hG D c9 ad m_undoable m_undoStart m_thrown m_inputLength m_position m_start m_token m_value m_letters m_code m_place m_outputLength m_s m_parsed m_tried m_remembered m_slots m_kept m_away m_input m_halfway m_output j1 1 ho3) 2 (gV wm_137 wm_138 wm_139 wm_37 wm_140) rfl rfl rfl ⟨rfl, pd_X12_check⟩ ⟨Nat.le_of_ble_eq_true rfl, Nat.le_of_ble_eq_true rfl⟩ 0 rfl rfl rfl rfl (Nat.le_of_ble_eq_true rfl) ⟨Nat.zero_le _, Nat.zero_le _⟩ [0, 1, 2, 3, 4, 5, 6, 7, 8, 9, 10] [] [0, 1, 2, 3, 4, 5, 6, 7, 8, 9, 10] rfl rfl rfl rfl dX12_semicolon_29 32 rfl ?_
    refine v_pop X dX12_semicolon_32 rfl 33 rfl ?_
    obtain rfl := Option.some.inj hf
    exact v_vret X (Nat.zero_le _) (Nat.zero_le _) dX12_semicolon_33
  clear hf
  refine v_icmp_ne X (tgt := 27) dX12_semicolon_6 rfl 9 rfl hj1 (fun hf => ?_) (fun hf => ?_)
  · refine v_iconst X dX12_semicolon_27 ic_0 28 rfl ?_
    obtain rfl := Option.some.inj hf
    refine v_sub (lv' := []) [] rfl ?_
    exact Jj1
  · refine v_aload_n X dX12_semicolon_9 0 rfl rfl 10 rfl ?_
    refine v_get X (C := RX12) (T := TX12) (N := 22) (ci := 11) (v := _) dX12_semicolon_10 (lay_of laym_X12) 0 rfl rfl 10 (by decide) (mw wm_27) rfl rfl 13 rfl ?_
    refine v_aload_n X dX12_semicolon_13 0 rfl rfl 14 rfl ?_
    refine v_get X (C := RX12) (T := TX12) (N := 22) (ci := 11) (v := _) dX12_semicolon_14 (lay_of laym_X12) 0 rfl rfl 13 (by decide) (mw wm_125) rfl rfl 17 rfl ?_
    obtain ⟨x2, hx2, hf⟩ := bnd hf
    refine v_iald X dX12_semicolon_17 8 0 rfl rfl hx2 18 rfl ?_
    refine v_bipush X dX12_semicolon_18 bp_59 20 rfl ?_
    refine v_icmp_ne X (tgt := 27) dX12_semicolon_20 rfl 23 rfl hf (fun hf => ?_) (fun hf => ?_)
    · refine v_iconst X dX12_semicolon_27 ic_0 28 rfl ?_
      obtain rfl := Option.some.inj hf
      refine v_sub (lv' := []) [] rfl ?_
      exact Jj1
    · refine v_iconst X dX12_semicolon_23 ic_1 24 rfl ?_
      refine v_goto X (tgt := 28) dX12_semicolon_24 rfl ?_
      obtain rfl := Option.some.inj hf
      refine v_sub (lv' := []) [] rfl ?_
      exact Jj1
theorem pd_X12_semicolon : yX12_semicolon.cls ≠ "java/lang/invoke/MethodHandle" ∧ yX12_semicolon.cls ≠ "java/lang/invoke/VarHandle" ∧ (parseMethodDescriptor yX12_semicolon.desc).map (fun d => d.parameters.length) = some 0 := by decide +kernel
def f_X12_finish (m_inputLength : Int32) (m_position : Int32) (m_start : Int32) (m_token : Int32) (m_value : Int32) (m_letters : Int32) (m_code : Int32) (m_place : Int32) (m_input : Nat → Int32) : Option (Int32 × Int32 × Int32 × Int32 × Int32 × Int32 × Int32) :=
  (f_X12_semicolon m_start m_token m_code m_place m_input).bind fun o1 =>
  (f_X12_next m_inputLength m_position m_start m_token m_value m_letters o1.1 m_input).bind fun o2 =>
  some (o2.1, o2.2.1, o2.2.2.1, o2.2.2.2.1, o2.2.2.2.2, o1.1, o1.2)
set_option maxRecDepth 100000 in
set_option maxHeartbeats 4000000 in
theorem c_X12_finish (l : Launch) {G : (Nat → Prop) → State → Heap → Prop} (hG : vG G) (D : va_G) (c9 : Nat → ClassId) (ad : Nat → Nat) (m_undoable : Int32) (m_undoStart : Int32) (m_thrown : Int32) (m_inputLength : Int32) (m_position : Int32) (m_start : Int32) (m_token : Int32) (m_value : Int32) (m_letters : Int32) (m_code : Int32) (m_place : Int32) (m_outputLength : Int32) (m_s : Nat → Int32) (m_parsed : Nat → Int32) (m_tried : Nat → Int32) (m_remembered : Nat → Int32) (m_slots : Nat → Int32) (m_kept : Nat → Int32) (m_away : Nat → Int32) (m_input : Nat → Int32) (m_halfway : Nat → Int32) (m_output : Nat → Int32)  {o : Int32 × Int32 × Int32 × Int32 × Int32 × Int32 × Int32} (hf : f_X12_finish m_inputLength m_position m_start m_token m_value m_letters m_code m_place m_input = some o) : mV l yX12_finish (wq yX12_finish cX12_finish 1 none) { frames := 4, cells := 0, slots := 0, locals := 83 } G D (tyA c9) [.ref (ad 0)] (wX12 ad c9 m_undoable m_undoStart m_thrown m_inputLength m_position m_start m_token m_value m_letters m_code m_place m_outputLength m_s m_parsed m_tried m_remembered m_slots m_kept m_away m_input m_halfway m_output) [] 0 0 (wX12 ad c9 m_undoable m_undoStart m_thrown m_inputLength o.1 o.2.1 o.2.2.1 o.2.2.2.1 o.2.2.2.2.1 o.2.2.2.2.2.1 o.2.2.2.2.2.2 m_outputLength m_s m_parsed m_tried m_remembered m_slots m_kept m_away m_input m_halfway m_output) := by
  refine mV_of hG (cc := cX12_finish) (maxL := 1) (by decide) rfl (Nat.le_of_ble_eq_true rfl) ?_
  intro p e s m args below meth c A hnm X
  have X : vX p s m args meth c cX12_finish 1 none RX12 (wq yX12_finish cX12_finish 1 none) D (tyA c9) G A := X
  refine v_eq (lv2 := [(0, .ref (ad 0))]) rfl rfl rfl rfl ?_
  rw [f_X12_finish] at hf
  refine v_aload_n X dX12_finish_0 0 rfl rfl 1 rfl ?_
  obtain ⟨o1, ho1, hf⟩ := bnd hf
  refine v_callVv X (ci := 11) (T := TX12) (C := RX12) (As := []) (rest := []) (ws' := (wX12 ad c9 m_undoable m_undoStart m_thrown m_inputLength m_position m_start m_token m_value m_letters o1.1 o1.2 m_outputLength m_s m_parsed m_tried m_remembered m_slots m_kept m_away m_input m_halfway m_output)) (c_X12_semicolon l hG D c9 ad m_undoable m_undoStart m_thrown m_inputLength m_position m_start m_token m_value m_letters m_code m_place m_outputLength m_s m_parsed m_tried m_remembered m_slots m_kept m_away m_input m_halfway m_output ho1) 0 (gV wm_145 wm_146 wm_147 wm_37 wm_148) rfl rfl rfl ⟨rfl, pd_X12_semicolon⟩ ⟨Nat.le_of_ble_eq_true rfl, Nat.le_of_ble_eq_true rfl⟩ 0 rfl rfl rfl rfl (Nat.le_of_ble_eq_true rfl) ⟨Nat.zero_le _, Nat.zero_le _⟩ [0, 1, 2, 3, 4, 5, 6, 7, 8, 9, 10] [] [0, 1, 2, 3, 4, 5, 6, 7, 8, 9, 10] rfl rfl rfl rfl dX12_finish_1 4 rfl ?_
  refine v_aload_n X dX12_finish_4 0 rfl rfl 5 rfl ?_
  obtain ⟨o2, ho2, hf⟩ := bnd hf
  refine v_callVv X (ci := 11) (T := TX12) (C := RX12) (As := []) (rest := []) (ws' := (wX12 ad c9 m_undoable m_undoStart m_thrown m_inputLength o2.1 o2.2.1 o2.2.2.1 o2.2.2.2.1 o2.2.2.2.2 o1.1 o1.2 m_outputLength m_s m_parsed m_tried m_remembered m_slots m_kept m_away m_input m_halfway m_output)) (c_X12_next l hG D c9 ad m_undoable m_undoStart m_thrown m_inputLength m_position m_start m_token m_value m_letters o1.1 o1.2 m_outputLength m_s m_parsed m_tried m_remembered m_slots m_kept m_away m_input m_halfway m_output ho2) 0 (gV wm_141 wm_142 wm_143 wm_37 wm_144) rfl rfl rfl ⟨rfl, pd_X12_next⟩ ⟨Nat.le_of_ble_eq_true rfl, Nat.le_of_ble_eq_true rfl⟩ 0 rfl rfl rfl rfl (Nat.le_of_ble_eq_true rfl) ⟨Nat.zero_le _, Nat.zero_le _⟩ [0, 1, 2, 3, 4, 5, 6, 7, 8, 9, 10] [] [0, 1, 2, 3, 4, 5, 6, 7, 8, 9, 10] rfl rfl rfl rfl dX12_finish_5 8 rfl ?_
  obtain rfl := Option.some.inj hf
  exact v_vret X (Nat.zero_le _) (Nat.zero_le _) dX12_finish_8
theorem pd_X12_finish : yX12_finish.cls ≠ "java/lang/invoke/MethodHandle" ∧ yX12_finish.cls ≠ "java/lang/invoke/VarHandle" ∧ (parseMethodDescriptor yX12_finish.desc).map (fun d => d.parameters.length) = some 0 := by decide +kernel
def f_X12_mayDo (m_start : Int32) (m_token : Int32) (m_code : Int32) (m_place : Int32) (m_input : Nat → Int32) (v1 : Int32) : Option (Int32 × Int32 × Int32) :=
  (f_X12_semicolon m_start m_token m_code m_place m_input).bind fun o1 =>
  Option.bind (if o1.1 = 0 then (
    if v1 = 0 then (
      some (1))
    else (
      some (0)))
  else (
    some (1)) : Option (Int32)) fun j2 =>
  (f_X12_check m_start o1.1 o1.2 j2 6).bind fun o3 =>
  if o3.2.1 = 0 then (
    some (1, o3.2.1, o3.2.2))
  else (
    some (0, o3.2.1, o3.2.2))
set_option maxRecDepth 100000 in
set_option maxHeartbeats 4000000 in
theorem c_X12_mayDo (l : Launch) {G : (Nat → Prop) → State → Heap → Prop} (hG : vG G) (D : va_G) (c9 : Nat → ClassId) (ad : Nat → Nat) (m_undoable : Int32) (m_undoStart : Int32) (m_thrown : Int32) (m_inputLength : Int32) (m_position : Int32) (m_start : Int32) (m_token : Int32) (m_value : Int32) (m_letters : Int32) (m_code : Int32) (m_place : Int32) (m_outputLength : Int32) (m_s : Nat → Int32) (m_parsed : Nat → Int32) (m_tried : Nat → Int32) (m_remembered : Nat → Int32) (m_slots : Nat → Int32) (m_kept : Nat → Int32) (m_away : Nat → Int32) (m_input : Nat → Int32) (m_halfway : Nat → Int32) (m_output : Nat → Int32) (v1 : Int32) {o : Int32 × Int32 × Int32} (hf : f_X12_mayDo m_start m_token m_code m_place m_input v1 = some o) : mI l yX12_mayDo (wq yX12_mayDo cX12_mayDo 2 (some .boolean)) { frames := 2, cells := 0, slots := 0, locals := 42 } G D (tyA c9) [.ref (ad 0), .int v1] (wX12 ad c9 m_undoable m_undoStart m_thrown m_inputLength m_position m_start m_token m_value m_letters m_code m_place m_outputLength m_s m_parsed m_tried m_remembered m_slots m_kept m_away m_input m_halfway m_output) [] 0 0 o.1 (wX12 ad c9 m_undoable m_undoStart m_thrown m_inputLength m_position m_start m_token m_value m_letters o.2.1 o.2.2 m_outputLength m_s m_parsed m_tried m_remembered m_slots m_kept m_away m_input m_halfway m_output) := by
  refine mI_of hG (cc := cX12_mayDo) (maxL := 2) (ty := .boolean) (by decide) rfl (Nat.le_of_ble_eq_true rfl) ?_
  intro p e s m args below meth c A X
  have X : vX p s m args meth c cX12_mayDo 2 (some .boolean) RX12 (wq yX12_mayDo cX12_mayDo 2 (some .boolean)) D (tyA c9) G A := X
  refine v_eq (lv2 := [(0, .ref (ad 0)), (1, .int v1)]) rfl rfl rfl rfl ?_
  rw [f_X12_mayDo] at hf
  refine v_aload_n X dX12_mayDo_0 0 rfl rfl 1 rfl ?_
  obtain ⟨o1, ho1, hf⟩ := bnd hf
  refine v_callVv X (ci := 11) (T := TX12) (C := RX12) (As := []) (rest := []) (ws' := (wX12 ad c9 m_undoable m_undoStart m_thrown m_inputLength m_position m_start m_token m_value m_letters o1.1 o1.2 m_outputLength m_s m_parsed m_tried m_remembered m_slots m_kept m_away m_input m_halfway m_output)) (c_X12_semicolon l hG D c9 ad m_undoable m_undoStart m_thrown m_inputLength m_position m_start m_token m_value m_letters m_code m_place m_outputLength m_s m_parsed m_tried m_remembered m_slots m_kept m_away m_input m_halfway m_output ho1) 0 (gV wm_145 wm_146 wm_147 wm_37 wm_148) rfl rfl rfl ⟨rfl, pd_X12_semicolon⟩ ⟨Nat.le_of_ble_eq_true rfl, Nat.le_of_ble_eq_true rfl⟩ 0 rfl rfl rfl rfl (Nat.le_of_ble_eq_true rfl) ⟨Nat.zero_le _, Nat.zero_le _⟩ [0, 1, 2, 3, 4, 5, 6, 7, 8, 9, 10] [] [0, 1, 2, 3, 4, 5, 6, 7, 8, 9, 10] rfl rfl rfl rfl dX12_mayDo_1 4 rfl ?_
  refine v_aload_n X dX12_mayDo_4 0 rfl rfl 5 rfl ?_
  refine v_aload_n X dX12_mayDo_5 0 rfl rfl 6 rfl ?_
  refine v_get X (C := RX12) (T := TX12) (N := 22) (ci := 11) (v := _) dX12_mayDo_6 (lay_of laym_X12) 0 rfl rfl 17 (by decide) (mw wm_118) rfl rfl 9 rfl ?_
  obtain ⟨j2, hj2, hf⟩ := bnd hf
  have Jj2 : vW p l e { frames := 2, cells := 0, slots := 0, locals := 42 } s m args below meth c 2 D A [] 0 0 (MQ below (eI D (tyA c9) A o.1 ((wX12 ad c9 m_undoable m_undoStart m_thrown m_inputLength m_position m_start m_token m_value m_letters o.2.1 o.2.2 m_outputLength m_s m_parsed m_tried m_remembered m_slots m_kept m_away m_input m_halfway m_output) ++ [])) args s 0 0 A) (wX12 ad c9 m_undoable m_undoStart m_thrown m_inputLength m_position m_start m_token m_value m_letters o1.1 o1.2 m_outputLength m_s m_parsed m_tried m_remembered m_slots m_kept m_away m_input m_halfway m_output) 21 [(0, .ref (ad 0))] [.int j2, .ref (ad 0)] := by
    refine v_bipush X dX12_mayDo_21 bp_6 23 rfl ?_
    obtain ⟨o3, ho3, hf⟩ := bnd hf
    refine v_callVi X (ci := 11) (T := TX12) (C := RX12) (As := [.int j2, .int 6]) (rest := []) (ws' := (wX12 ad c9 m_undoable m_undoStart m_thrown m_inputLength m_position m_start m_token m_value m_letters o3.2.1 o3.2.2 m_outputLength m_s m_parsed m_tried m_remembered m_slots m_kept m_away m_input m_halfway m_output)) (c_X12_check l hG D c9 ad m_undoable m_undoStart m_thrown m_inputLength m_position m_start m_token m_value m_letters o1.1 o1.2 m_outputLength m_s m_parsed m_tried m_remembered m_slots m_kept m_away m_input m_halfway m_output j2 6 ho3) 2 (gV wm_137 wm_138 wm_139 wm_37 wm_140) rfl rfl rfl ⟨rfl, pd_X12_check⟩ ⟨Nat.le_of_ble_eq_true rfl, Nat.le_of_ble_eq_true rfl⟩ 0 rfl rfl rfl rfl (Nat.le_of_ble_eq_true rfl) ⟨Nat.zero_le _, Nat.zero_le _⟩ [0, 1, 2, 3, 4, 5, 6, 7, 8, 9, 10] [] [0, 1, 2, 3, 4, 5, 6, 7, 8, 9, 10] rfl rfl rfl rfl dX12_mayDo_23 26 rfl ?_
    refine v_pop X dX12_mayDo_26 rfl 27 rfl ?_
    refine v_aload_n X dX12_mayDo_27 0 rfl rfl 28 rfl ?_
    refine v_get X (C := RX12) (T := TX12) (N := 22) (ci := 11) (v := _) dX12_mayDo_28 (lay_of laym_X12) 0 rfl rfl 17 (by decide) (mw wm_118) rfl rfl 31 rfl ?_
    refine v_if_ne X (tgt := 38) dX12_mayDo_31 rfl 34 rfl hf (fun hf => ?_) (fun hf => ?_)
    · refine v_iconst X dX12_mayDo_38 ic_0 39 rfl ?_
      obtain rfl := Option.some.inj hf
      exact v_zret X (Nat.zero_le _) (Nat.zero_le _) nz0 dX12_mayDo_39
    · refine v_iconst X dX12_mayDo_34 ic_1 35 rfl ?_
      refine v_goto X (tgt := 39) dX12_mayDo_35 rfl ?_
      obtain rfl := Option.some.inj hf
      exact v_zret X (Nat.zero_le _) (Nat.zero_le _) nz1 dX12_mayDo_39
  clear hf
  refine v_if_ne X (tgt := 16) dX12_mayDo_9 rfl 12 rfl hj2 (fun hf => ?_) (fun hf => ?_)
  · refine v_iconst X dX12_mayDo_16 ic_1 17 rfl ?_
    refine v_goto X (tgt := 21) dX12_mayDo_17 rfl ?_
    obtain rfl := Option.some.inj hf
    refine v_sub (lv' := [(0, .ref (ad 0))]) [0] rfl ?_
    exact Jj2
  · refine v_iload_n X dX12_mayDo_12 1 rfl rfl 13 rfl ?_
    refine v_if_ne X (tgt := 20) dX12_mayDo_13 rfl 16 rfl hf (fun hf => ?_) (fun hf => ?_)
    · refine v_iconst X dX12_mayDo_20 ic_0 21 rfl ?_
      obtain rfl := Option.some.inj hf
      refine v_sub (lv' := [(0, .ref (ad 0))]) [0] rfl ?_
      exact Jj2
    · refine v_iconst X dX12_mayDo_16 ic_1 17 rfl ?_
      refine v_goto X (tgt := 21) dX12_mayDo_17 rfl ?_
      obtain rfl := Option.some.inj hf
      refine v_sub (lv' := [(0, .ref (ad 0))]) [0] rfl ?_
      exact Jj2
theorem pd_X12_mayDo : yX12_mayDo.cls ≠ "java/lang/invoke/MethodHandle" ∧ yX12_mayDo.cls ≠ "java/lang/invoke/VarHandle" ∧ (parseMethodDescriptor yX12_mayDo.desc).map (fun d => d.parameters.length) = some 1 := by decide +kernel
def f_X12_nameFrom_L16 (m_input : Nat → Int32) (v1 : Int32) (v2 : Int32) : Nat → Int32 → Int32 → Option (Int32)
  | 0, _, _ => none
  | n + 1, v3, v4 =>
    if 4 ≤ v4 then (
      some (v3))
    else (
      if v2 ≤ v4 then (
        Option.bind (if v2 ≤ v4 then (
          some (0))
        else (
          (rd m_input 600 (v1 + v4)).bind fun x3 =>
          some ((x3 - 96))) : Option (Int32)) fun j2 =>
        f_X12_nameFrom_L16 m_input v1 v2 n  ((v3 * 27) + j2) (v4 + 1))
      else (
        (rd m_input 600 (v1 + v4)).bind fun x4 =>
        (f_X12_isLetter x4).bind fun o5 =>
        if o5 = 0 then (
          some ((-1)))
        else (
          Option.bind (if v2 ≤ v4 then (
            some (0))
          else (
            (rd m_input 600 (v1 + v4)).bind fun x7 =>
            some ((x7 - 96))) : Option (Int32)) fun j6 =>
          f_X12_nameFrom_L16 m_input v1 v2 n  ((v3 * 27) + j6) (v4 + 1))))
def f_X12_nameFrom (m_input : Nat → Int32) (v1 : Int32) (v2 : Int32) : Option (Int32) :=
  (f_X12_isBetween v2 1 4).bind fun o1 =>
  if o1 = 0 then (
    some ((-1)))
  else (
    f_X12_nameFrom_L16 m_input v1 v2 5000 0 0)
set_option maxRecDepth 100000 in
set_option maxHeartbeats 4000000 in
theorem l_X12_nameFrom_L16 (l : Launch) {G : (Nat → Prop) → State → Heap → Prop} (hG : vG G) (D : va_G) (c9 : Nat → ClassId) (ad : Nat → Nat) (m_undoable : Int32) (m_undoStart : Int32) (m_thrown : Int32) (m_inputLength : Int32) (m_position : Int32) (m_start : Int32) (m_token : Int32) (m_value : Int32) (m_letters : Int32) (m_code : Int32) (m_place : Int32) (m_outputLength : Int32) (m_s : Nat → Int32) (m_parsed : Nat → Int32) (m_tried : Nat → Int32) (m_remembered : Nat → Int32) (m_slots : Nat → Int32) (m_kept : Nat → Int32) (m_away : Nat → Int32) (m_input : Nat → Int32) (m_halfway : Nat → Int32) (m_output : Nat → Int32) (v1 : Int32) (v2 : Int32) {p : Program} {e : Env} {s : State} {m : MethodId} {args : Array Value} {below : List Frame} {meth : Method} {c : Code} {A : Nat → Prop} {F : va_W} (X : vX p s m args meth c cX12_nameFrom 5 (some .int) RX12 (wq yX12_nameFrom cX12_nameFrom 5 (some .int)) D (tyA c9) G A) (o : Int32) :
    ∀ (n : Nat) (v3 : Int32) (v4 : Int32), f_X12_nameFrom_L16 m_input v1 v2 n v3 v4 = some o → vW p l e { frames := 2, cells := 0, slots := 0, locals := 42 } s m args below meth c 5 D A F 0 0 (MQ below (eI D (tyA c9) A o ((wX12 ad c9 m_undoable m_undoStart m_thrown m_inputLength m_position m_start m_token m_value m_letters m_code m_place m_outputLength m_s m_parsed m_tried m_remembered m_slots m_kept m_away m_input m_halfway m_output) ++ F)) args s 0 0 A) (wX12 ad c9 m_undoable m_undoStart m_thrown m_inputLength m_position m_start m_token m_value m_letters m_code m_place m_outputLength m_s m_parsed m_tried m_remembered m_slots m_kept m_away m_input m_halfway m_output) 16 [(0, .ref (ad 0)), (1, .int v1), (2, .int v2), (3, .int v3), (4, .int v4)] [] := by
  intro n
  induction n with
  | zero =>
    intro v3 v4 hf
    rw [f_X12_nameFrom_L16] at hf
    cases hf
  | succ n ih =>
    intro v3 v4 hf
    rw [f_X12_nameFrom_L16] at hf
    refine v_iload X dX12_nameFrom_16 4 rfl 18 rfl ?_
    refine v_iconst X dX12_nameFrom_18 ic_4 19 rfl ?_
    refine v_icmp_ge X (tgt := 79) dX12_nameFrom_19 rfl 22 rfl hf (fun hf => ?_) (fun hf => ?_)
    · refine v_iload_n X dX12_nameFrom_79 3 rfl rfl 80 rfl ?_
      obtain rfl := Option.some.inj hf
      exact v_iret X (Nat.zero_le _) (Nat.zero_le _) dX12_nameFrom_80
    · refine v_iload X dX12_nameFrom_22 4 rfl 24 rfl ?_
      refine v_iload_n X dX12_nameFrom_24 2 rfl rfl 25 rfl ?_
      refine v_icmp_ge X (tgt := 45) dX12_nameFrom_25 rfl 28 rfl hf (fun hf => ?_) (fun hf => ?_)
      · refine v_iload_n X dX12_nameFrom_45 3 rfl rfl 46 rfl ?_
        refine v_bipush X dX12_nameFrom_46 bp_27 48 rfl ?_
        refine v_imul X dX12_nameFrom_48 49 rfl ?_
        refine v_iload X dX12_nameFrom_49 4 rfl 51 rfl ?_
        refine v_iload_n X dX12_nameFrom_51 2 rfl rfl 52 rfl ?_
        obtain ⟨j2, hj2, hf⟩ := bnd hf
        have Jj2 : vW p l e { frames := 2, cells := 0, slots := 0, locals := 42 } s m args below meth c 5 D A F 0 0 (MQ below (eI D (tyA c9) A o ((wX12 ad c9 m_undoable m_undoStart m_thrown m_inputLength m_position m_start m_token m_value m_letters m_code m_place m_outputLength m_s m_parsed m_tried m_remembered m_slots m_kept m_away m_input m_halfway m_output) ++ F)) args s 0 0 A) (wX12 ad c9 m_undoable m_undoStart m_thrown m_inputLength m_position m_start m_token m_value m_letters m_code m_place m_outputLength m_s m_parsed m_tried m_remembered m_slots m_kept m_away m_input m_halfway m_output) 71 [(0, .ref (ad 0)), (1, .int v1), (2, .int v2), (4, .int v4)] [.int j2, .int (v3 * 27)] := by
          refine v_iadd X dX12_nameFrom_71 72 rfl ?_
          refine v_istore_n X (lv' := [(3, .int ((v3 * 27) + j2)), (0, .ref (ad 0)), (1, .int v1), (2, .int v2), (4, .int v4)]) dX12_nameFrom_72 rfl (by decide) rfl 73 rfl ?_
          refine v_iinc X (lv' := [(4, .int (v4 + 1)), (3, .int ((v3 * 27) + j2)), (0, .ref (ad 0)), (1, .int v1), (2, .int v2)]) dX12_nameFrom_73 4 rfl ic_1 (by decide) rfl 76 rfl ?_
          refine v_goto X (tgt := 16) dX12_nameFrom_76 rfl ?_
          refine v_sub (lv' := [(0, .ref (ad 0)), (1, .int v1), (2, .int v2), (3, .int ((v3 * 27) + j2)), (4, .int (v4 + 1))]) [2, 3, 4, 1, 0] rfl ?_
          exact ih ((v3 * 27) + j2) (v4 + 1) hf
        clear hf
        refine v_icmp_ge X (tgt := 70) dX12_nameFrom_52 rfl 55 rfl hj2 (fun hf => ?_) (fun hf => ?_)
        · refine v_iconst X dX12_nameFrom_70 ic_0 71 rfl ?_
          obtain rfl := Option.some.inj hf
          refine v_sub (lv' := [(0, .ref (ad 0)), (1, .int v1), (2, .int v2), (4, .int v4)]) [0, 1, 2, 4] rfl ?_
          exact Jj2
        · refine v_aload_n X dX12_nameFrom_55 0 rfl rfl 56 rfl ?_
          refine v_get X (C := RX12) (T := TX12) (N := 22) (ci := 11) (v := _) dX12_nameFrom_56 (lay_of laym_X12) 0 rfl rfl 10 (by decide) (mw wm_27) rfl rfl 59 rfl ?_
          refine v_iload_n X dX12_nameFrom_59 1 rfl rfl 60 rfl ?_
          refine v_iload X dX12_nameFrom_60 4 rfl 62 rfl ?_
          refine v_iadd X dX12_nameFrom_62 63 rfl ?_
          obtain ⟨x3, hx3, hf⟩ := bnd hf
          refine v_iald X dX12_nameFrom_63 8 0 rfl rfl hx3 64 rfl ?_
          refine v_bipush X dX12_nameFrom_64 bp_96 66 rfl ?_
          refine v_isub X dX12_nameFrom_66 67 rfl ?_
          refine v_goto X (tgt := 71) dX12_nameFrom_67 rfl ?_
          obtain rfl := Option.some.inj hf
          refine v_sub (lv' := [(0, .ref (ad 0)), (1, .int v1), (2, .int v2), (4, .int v4)]) [0, 1, 2, 4] rfl ?_
          exact Jj2
      · refine v_aload_n X dX12_nameFrom_28 0 rfl rfl 29 rfl ?_
        refine v_get X (C := RX12) (T := TX12) (N := 22) (ci := 11) (v := _) dX12_nameFrom_29 (lay_of laym_X12) 0 rfl rfl 10 (by decide) (mw wm_27) rfl rfl 32 rfl ?_
        refine v_iload_n X dX12_nameFrom_32 1 rfl rfl 33 rfl ?_
        refine v_iload X dX12_nameFrom_33 4 rfl 35 rfl ?_
        refine v_iadd X dX12_nameFrom_35 36 rfl ?_
        obtain ⟨x4, hx4, hf⟩ := bnd hf
        refine v_iald X dX12_nameFrom_36 8 0 rfl rfl hx4 37 rfl ?_
        obtain ⟨o5, ho5, hf⟩ := bnd hf
        refine v_callSi X (As := [.int x4]) (rest := []) (ws' := (wX12 ad c9 m_undoable m_undoStart m_thrown m_inputLength m_position m_start m_token m_value m_letters m_code m_place m_outputLength m_s m_parsed m_tried m_remembered m_slots m_kept m_away m_input m_halfway m_output)) (c_X12_isLetter l hG D c9 x4 ho5) 1 (gS wm_128 wm_129 wm_37 wm_130) rfl rfl rfl pd_X12_isLetter ⟨Nat.le_of_ble_eq_true rfl, Nat.le_of_ble_eq_true rfl⟩ rfl rfl (Nat.le_of_ble_eq_true rfl) ⟨Nat.zero_le _, Nat.zero_le _⟩ [] [0, 1, 2, 3, 4, 5, 6, 7, 8, 9, 10] [0, 1, 2, 3, 4, 5, 6, 7, 8, 9, 10] rfl rfl rfl rfl dX12_nameFrom_37 40 rfl ?_
        refine v_if_ne X (tgt := 45) dX12_nameFrom_40 rfl 43 rfl hf (fun hf => ?_) (fun hf => ?_)
        · refine v_iload_n X dX12_nameFrom_45 3 rfl rfl 46 rfl ?_
          refine v_bipush X dX12_nameFrom_46 bp_27 48 rfl ?_
          refine v_imul X dX12_nameFrom_48 49 rfl ?_
          refine v_iload X dX12_nameFrom_49 4 rfl 51 rfl ?_
          refine v_iload_n X dX12_nameFrom_51 2 rfl rfl 52 rfl ?_
          obtain ⟨j6, hj6, hf⟩ := bnd hf
          have Jj6 : vW p l e { frames := 2, cells := 0, slots := 0, locals := 42 } s m args below meth c 5 D A F 0 0 (MQ below (eI D (tyA c9) A o ((wX12 ad c9 m_undoable m_undoStart m_thrown m_inputLength m_position m_start m_token m_value m_letters m_code m_place m_outputLength m_s m_parsed m_tried m_remembered m_slots m_kept m_away m_input m_halfway m_output) ++ F)) args s 0 0 A) (wX12 ad c9 m_undoable m_undoStart m_thrown m_inputLength m_position m_start m_token m_value m_letters m_code m_place m_outputLength m_s m_parsed m_tried m_remembered m_slots m_kept m_away m_input m_halfway m_output) 71 [(0, .ref (ad 0)), (1, .int v1), (2, .int v2), (4, .int v4)] [.int j6, .int (v3 * 27)] := by
            refine v_iadd X dX12_nameFrom_71 72 rfl ?_
            refine v_istore_n X (lv' := [(3, .int ((v3 * 27) + j6)), (0, .ref (ad 0)), (1, .int v1), (2, .int v2), (4, .int v4)]) dX12_nameFrom_72 rfl (by decide) rfl 73 rfl ?_
            refine v_iinc X (lv' := [(4, .int (v4 + 1)), (3, .int ((v3 * 27) + j6)), (0, .ref (ad 0)), (1, .int v1), (2, .int v2)]) dX12_nameFrom_73 4 rfl ic_1 (by decide) rfl 76 rfl ?_
            refine v_goto X (tgt := 16) dX12_nameFrom_76 rfl ?_
            refine v_sub (lv' := [(0, .ref (ad 0)), (1, .int v1), (2, .int v2), (3, .int ((v3 * 27) + j6)), (4, .int (v4 + 1))]) [2, 3, 4, 1, 0] rfl ?_
            exact ih ((v3 * 27) + j6) (v4 + 1) hf
          clear hf
          refine v_icmp_ge X (tgt := 70) dX12_nameFrom_52 rfl 55 rfl hj6 (fun hf => ?_) (fun hf => ?_)
          · refine v_iconst X dX12_nameFrom_70 ic_0 71 rfl ?_
            obtain rfl := Option.some.inj hf
            refine v_sub (lv' := [(0, .ref (ad 0)), (1, .int v1), (2, .int v2), (4, .int v4)]) [0, 1, 2, 4] rfl ?_
            exact Jj6
          · refine v_aload_n X dX12_nameFrom_55 0 rfl rfl 56 rfl ?_
            refine v_get X (C := RX12) (T := TX12) (N := 22) (ci := 11) (v := _) dX12_nameFrom_56 (lay_of laym_X12) 0 rfl rfl 10 (by decide) (mw wm_27) rfl rfl 59 rfl ?_
            refine v_iload_n X dX12_nameFrom_59 1 rfl rfl 60 rfl ?_
            refine v_iload X dX12_nameFrom_60 4 rfl 62 rfl ?_
            refine v_iadd X dX12_nameFrom_62 63 rfl ?_
            obtain ⟨x7, hx7, hf⟩ := bnd hf
            refine v_iald X dX12_nameFrom_63 8 0 rfl rfl hx7 64 rfl ?_
            refine v_bipush X dX12_nameFrom_64 bp_96 66 rfl ?_
            refine v_isub X dX12_nameFrom_66 67 rfl ?_
            refine v_goto X (tgt := 71) dX12_nameFrom_67 rfl ?_
            obtain rfl := Option.some.inj hf
            refine v_sub (lv' := [(0, .ref (ad 0)), (1, .int v1), (2, .int v2), (4, .int v4)]) [0, 1, 2, 4] rfl ?_
            exact Jj6
        · refine v_iconst X dX12_nameFrom_43 ic_m1 44 rfl ?_
          obtain rfl := Option.some.inj hf
          exact v_iret X (Nat.zero_le _) (Nat.zero_le _) dX12_nameFrom_44
set_option maxRecDepth 100000 in
set_option maxHeartbeats 4000000 in
theorem c_X12_nameFrom (l : Launch) {G : (Nat → Prop) → State → Heap → Prop} (hG : vG G) (D : va_G) (c9 : Nat → ClassId) (ad : Nat → Nat) (m_undoable : Int32) (m_undoStart : Int32) (m_thrown : Int32) (m_inputLength : Int32) (m_position : Int32) (m_start : Int32) (m_token : Int32) (m_value : Int32) (m_letters : Int32) (m_code : Int32) (m_place : Int32) (m_outputLength : Int32) (m_s : Nat → Int32) (m_parsed : Nat → Int32) (m_tried : Nat → Int32) (m_remembered : Nat → Int32) (m_slots : Nat → Int32) (m_kept : Nat → Int32) (m_away : Nat → Int32) (m_input : Nat → Int32) (m_halfway : Nat → Int32) (m_output : Nat → Int32) (v1 : Int32) (v2 : Int32) {o : Int32} (hf : f_X12_nameFrom m_input v1 v2 = some o) : mI l yX12_nameFrom (wq yX12_nameFrom cX12_nameFrom 5 (some .int)) { frames := 2, cells := 0, slots := 0, locals := 42 } G D (tyA c9) [.ref (ad 0), .int v1, .int v2] (wX12 ad c9 m_undoable m_undoStart m_thrown m_inputLength m_position m_start m_token m_value m_letters m_code m_place m_outputLength m_s m_parsed m_tried m_remembered m_slots m_kept m_away m_input m_halfway m_output) [] 0 0 o (wX12 ad c9 m_undoable m_undoStart m_thrown m_inputLength m_position m_start m_token m_value m_letters m_code m_place m_outputLength m_s m_parsed m_tried m_remembered m_slots m_kept m_away m_input m_halfway m_output) := by
  refine mI_of hG (cc := cX12_nameFrom) (maxL := 5) (ty := .int) (by decide) rfl (Nat.le_of_ble_eq_true rfl) ?_
  intro p e s m args below meth c A X
  have X : vX p s m args meth c cX12_nameFrom 5 (some .int) RX12 (wq yX12_nameFrom cX12_nameFrom 5 (some .int)) D (tyA c9) G A := X
  refine v_eq (lv2 := [(0, .ref (ad 0)), (1, .int v1), (2, .int v2)]) rfl rfl rfl rfl ?_
  rw [f_X12_nameFrom] at hf
  refine v_iload_n X dX12_nameFrom_0 2 rfl rfl 1 rfl ?_
  refine v_iconst X dX12_nameFrom_1 ic_1 2 rfl ?_
  refine v_iconst X dX12_nameFrom_2 ic_4 3 rfl ?_
  obtain ⟨o1, ho1, hf⟩ := bnd hf
  refine v_callSi X (As := [.int v2, .int 1, .int 4]) (rest := []) (ws' := (wX12 ad c9 m_undoable m_undoStart m_thrown m_inputLength m_position m_start m_token m_value m_letters m_code m_place m_outputLength m_s m_parsed m_tried m_remembered m_slots m_kept m_away m_input m_halfway m_output)) (c_X12_isBetween l hG D c9 v2 1 4 ho1) 3 (gS wm_111 wm_112 wm_37 wm_113) rfl rfl rfl pd_X12_isBetween ⟨Nat.le_of_ble_eq_true rfl, Nat.le_of_ble_eq_true rfl⟩ rfl rfl (Nat.le_of_ble_eq_true rfl) ⟨Nat.zero_le _, Nat.zero_le _⟩ [] [0, 1, 2, 3, 4, 5, 6, 7, 8, 9, 10] [0, 1, 2, 3, 4, 5, 6, 7, 8, 9, 10] rfl rfl rfl rfl dX12_nameFrom_3 6 rfl ?_
  refine v_if_ne X (tgt := 11) dX12_nameFrom_6 rfl 9 rfl hf (fun hf => ?_) (fun hf => ?_)
  · refine v_iconst X dX12_nameFrom_11 ic_0 12 rfl ?_
    refine v_istore_n X (lv' := [(3, .int 0), (0, .ref (ad 0)), (1, .int v1), (2, .int v2)]) dX12_nameFrom_12 rfl (by decide) rfl 13 rfl ?_
    refine v_iconst X dX12_nameFrom_13 ic_0 14 rfl ?_
    refine v_istore X (lv' := [(4, .int 0), (3, .int 0), (0, .ref (ad 0)), (1, .int v1), (2, .int v2)]) dX12_nameFrom_14 (by decide) rfl 16 rfl ?_
    refine v_sub (lv' := [(0, .ref (ad 0)), (1, .int v1), (2, .int v2), (3, .int 0), (4, .int 0)]) [2, 3, 4, 1, 0] rfl ?_
    exact l_X12_nameFrom_L16 l hG D c9 ad m_undoable m_undoStart m_thrown m_inputLength m_position m_start m_token m_value m_letters m_code m_place m_outputLength m_s m_parsed m_tried m_remembered m_slots m_kept m_away m_input m_halfway m_output v1 v2 X _ 5000 0 0 hf
  · refine v_iconst X dX12_nameFrom_9 ic_m1 10 rfl ?_
    obtain rfl := Option.some.inj hf
    exact v_iret X (Nat.zero_le _) (Nat.zero_le _) dX12_nameFrom_10
theorem pd_X12_nameFrom : yX12_nameFrom.cls ≠ "java/lang/invoke/MethodHandle" ∧ yX12_nameFrom.cls ≠ "java/lang/invoke/VarHandle" ∧ (parseMethodDescriptor yX12_nameFrom.desc).map (fun d => d.parameters.length) = some 2 := by decide +kernel
