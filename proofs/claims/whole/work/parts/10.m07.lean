def f_X12_startOf (m_thrown : Int32) (m_s : Nat → Int32) (v1 : Int32) : Option (Int32 × Int32) :=
  (f_X12_ofIt m_thrown m_s v1 5).bind fun o1 =>
  some (o1.1, o1.2)
set_option maxRecDepth 100000 in
set_option maxHeartbeats 4000000 in
theorem c_X12_startOf (l : Launch) {G : (Nat → Prop) → State → Heap → Prop} (hG : vG G) (D : va_G) (c9 : Nat → ClassId) (ad : Nat → Nat) (m_undoable : Int32) (m_undoStart : Int32) (m_thrown : Int32) (m_inputLength : Int32) (m_position : Int32) (m_start : Int32) (m_token : Int32) (m_value : Int32) (m_letters : Int32) (m_code : Int32) (m_place : Int32) (m_outputLength : Int32) (m_s : Nat → Int32) (m_parsed : Nat → Int32) (m_tried : Nat → Int32) (m_remembered : Nat → Int32) (m_slots : Nat → Int32) (m_kept : Nat → Int32) (m_away : Nat → Int32) (m_input : Nat → Int32) (m_halfway : Nat → Int32) (m_output : Nat → Int32) (v1 : Int32) {o : Int32 × Int32} (hf : f_X12_startOf m_thrown m_s v1 = some o) : mI l yX12_startOf wsX12_startOf { frames := 4, cells := 0, slots := 0, locals := 85 } G D (tyA c9) [.ref (ad 0), .int v1] (wX12 ad c9 m_undoable m_undoStart m_thrown m_inputLength m_position m_start m_token m_value m_letters m_code m_place m_outputLength m_s m_parsed m_tried m_remembered m_slots m_kept m_away m_input m_halfway m_output) [] 0 0 o.1 (wX12 ad c9 m_undoable m_undoStart o.2 m_inputLength m_position m_start m_token m_value m_letters m_code m_place m_outputLength m_s m_parsed m_tried m_remembered m_slots m_kept m_away m_input m_halfway m_output) := by
  refine mI_of hG (cc := cX12_startOf) (maxL := 2) (ty := .int) (by decide) rfl (Nat.le_of_ble_eq_true rfl) ?_
  intro p e s m args below meth c A X
  have X : vX p s m args meth c cX12_startOf 2 (some .int) RX12 wsX12_startOf D (tyA c9) G A := X
  refine v_eq (lv2 := [(0, .ref (ad 0)), (1, .int v1)]) rfl rfl rfl rfl ?_
  rw [f_X12_startOf] at hf
  refine v_aload_n X dX12_startOf_0 0 rfl rfl 1 rfl ?_
  refine v_iload_n X dX12_startOf_1 1 rfl rfl 2 rfl ?_
  refine v_iconst X dX12_startOf_2 ic_5 3 rfl ?_
  obtain ⟨o1, ho1, hf⟩ := bnd hf
  refine v_callVi X (ci := 11) (T := TX12) (C := RX12) (As := [.int v1, .int 5]) (rest := []) (ws' := (wX12 ad c9 m_undoable m_undoStart o1.2 m_inputLength m_position m_start m_token m_value m_letters m_code m_place m_outputLength m_s m_parsed m_tried m_remembered m_slots m_kept m_away m_input m_halfway m_output)) (c_X12_ofIt l hG D c9 ad m_undoable m_undoStart m_thrown m_inputLength m_position m_start m_token m_value m_letters m_code m_place m_outputLength m_s m_parsed m_tried m_remembered m_slots m_kept m_away m_input m_halfway m_output v1 5 ho1) 2 gX12_startOf_X12_ofIt rfl rfl rfl ⟨rfl, pd_X12_ofIt⟩ ⟨Nat.le_of_ble_eq_true rfl, Nat.le_of_ble_eq_true rfl⟩ 0 rfl rfl rfl rfl (Nat.le_of_ble_eq_true rfl) ⟨Nat.zero_le _, Nat.zero_le _⟩ [0, 1, 2, 3, 4, 5, 6, 7, 8, 9, 10] [] [0, 1, 2, 3, 4, 5, 6, 7, 8, 9, 10] rfl rfl rfl rfl dX12_startOf_3 6 rfl ?_
  cases hf
  exact v_iret X (Nat.zero_le _) (Nat.zero_le _) dX12_startOf_6
theorem pd_X12_startOf : yX12_startOf.cls ≠ "java/lang/invoke/MethodHandle" ∧ yX12_startOf.cls ≠ "java/lang/invoke/VarHandle" ∧ (parseMethodDescriptor yX12_startOf.desc).map (fun d => d.parameters.length) = some 1 := by decide +kernel
def f_X12_endOf (m_thrown : Int32) (m_s : Nat → Int32) (v1 : Int32) : Option (Int32 × Int32) :=
  (f_X12_ofIt m_thrown m_s v1 6).bind fun o1 =>
  some (o1.1, o1.2)
set_option maxRecDepth 100000 in
set_option maxHeartbeats 4000000 in
theorem c_X12_endOf (l : Launch) {G : (Nat → Prop) → State → Heap → Prop} (hG : vG G) (D : va_G) (c9 : Nat → ClassId) (ad : Nat → Nat) (m_undoable : Int32) (m_undoStart : Int32) (m_thrown : Int32) (m_inputLength : Int32) (m_position : Int32) (m_start : Int32) (m_token : Int32) (m_value : Int32) (m_letters : Int32) (m_code : Int32) (m_place : Int32) (m_outputLength : Int32) (m_s : Nat → Int32) (m_parsed : Nat → Int32) (m_tried : Nat → Int32) (m_remembered : Nat → Int32) (m_slots : Nat → Int32) (m_kept : Nat → Int32) (m_away : Nat → Int32) (m_input : Nat → Int32) (m_halfway : Nat → Int32) (m_output : Nat → Int32) (v1 : Int32) {o : Int32 × Int32} (hf : f_X12_endOf m_thrown m_s v1 = some o) : mI l yX12_endOf wsX12_endOf { frames := 4, cells := 0, slots := 0, locals := 85 } G D (tyA c9) [.ref (ad 0), .int v1] (wX12 ad c9 m_undoable m_undoStart m_thrown m_inputLength m_position m_start m_token m_value m_letters m_code m_place m_outputLength m_s m_parsed m_tried m_remembered m_slots m_kept m_away m_input m_halfway m_output) [] 0 0 o.1 (wX12 ad c9 m_undoable m_undoStart o.2 m_inputLength m_position m_start m_token m_value m_letters m_code m_place m_outputLength m_s m_parsed m_tried m_remembered m_slots m_kept m_away m_input m_halfway m_output) := by
  refine mI_of hG (cc := cX12_endOf) (maxL := 2) (ty := .int) (by decide) rfl (Nat.le_of_ble_eq_true rfl) ?_
  intro p e s m args below meth c A X
  have X : vX p s m args meth c cX12_endOf 2 (some .int) RX12 wsX12_endOf D (tyA c9) G A := X
  refine v_eq (lv2 := [(0, .ref (ad 0)), (1, .int v1)]) rfl rfl rfl rfl ?_
  rw [f_X12_endOf] at hf
  refine v_aload_n X dX12_endOf_0 0 rfl rfl 1 rfl ?_
  refine v_iload_n X dX12_endOf_1 1 rfl rfl 2 rfl ?_
  refine v_bipush X dX12_endOf_2 bp_6 4 rfl ?_
  obtain ⟨o1, ho1, hf⟩ := bnd hf
  refine v_callVi X (ci := 11) (T := TX12) (C := RX12) (As := [.int v1, .int 6]) (rest := []) (ws' := (wX12 ad c9 m_undoable m_undoStart o1.2 m_inputLength m_position m_start m_token m_value m_letters m_code m_place m_outputLength m_s m_parsed m_tried m_remembered m_slots m_kept m_away m_input m_halfway m_output)) (c_X12_ofIt l hG D c9 ad m_undoable m_undoStart m_thrown m_inputLength m_position m_start m_token m_value m_letters m_code m_place m_outputLength m_s m_parsed m_tried m_remembered m_slots m_kept m_away m_input m_halfway m_output v1 6 ho1) 2 gX12_endOf_X12_ofIt rfl rfl rfl ⟨rfl, pd_X12_ofIt⟩ ⟨Nat.le_of_ble_eq_true rfl, Nat.le_of_ble_eq_true rfl⟩ 0 rfl rfl rfl rfl (Nat.le_of_ble_eq_true rfl) ⟨Nat.zero_le _, Nat.zero_le _⟩ [0, 1, 2, 3, 4, 5, 6, 7, 8, 9, 10] [] [0, 1, 2, 3, 4, 5, 6, 7, 8, 9, 10] rfl rfl rfl rfl dX12_endOf_4 7 rfl ?_
  cases hf
  exact v_iret X (Nat.zero_le _) (Nat.zero_le _) dX12_endOf_7
theorem pd_X12_endOf : yX12_endOf.cls ≠ "java/lang/invoke/MethodHandle" ∧ yX12_endOf.cls ≠ "java/lang/invoke/VarHandle" ∧ (parseMethodDescriptor yX12_endOf.desc).map (fun d => d.parameters.length) = some 1 := by decide +kernel
def f_X12_lastEndOf (m_thrown : Int32) (m_s : Nat → Int32) (v1 : Int32) : Option (Int32 × Int32) :=
  (f_X12_ofIt m_thrown m_s v1 7).bind fun o1 =>
  some (o1.1, o1.2)
set_option maxRecDepth 100000 in
set_option maxHeartbeats 4000000 in
theorem c_X12_lastEndOf (l : Launch) {G : (Nat → Prop) → State → Heap → Prop} (hG : vG G) (D : va_G) (c9 : Nat → ClassId) (ad : Nat → Nat) (m_undoable : Int32) (m_undoStart : Int32) (m_thrown : Int32) (m_inputLength : Int32) (m_position : Int32) (m_start : Int32) (m_token : Int32) (m_value : Int32) (m_letters : Int32) (m_code : Int32) (m_place : Int32) (m_outputLength : Int32) (m_s : Nat → Int32) (m_parsed : Nat → Int32) (m_tried : Nat → Int32) (m_remembered : Nat → Int32) (m_slots : Nat → Int32) (m_kept : Nat → Int32) (m_away : Nat → Int32) (m_input : Nat → Int32) (m_halfway : Nat → Int32) (m_output : Nat → Int32) (v1 : Int32) {o : Int32 × Int32} (hf : f_X12_lastEndOf m_thrown m_s v1 = some o) : mI l yX12_lastEndOf wsX12_lastEndOf { frames := 4, cells := 0, slots := 0, locals := 85 } G D (tyA c9) [.ref (ad 0), .int v1] (wX12 ad c9 m_undoable m_undoStart m_thrown m_inputLength m_position m_start m_token m_value m_letters m_code m_place m_outputLength m_s m_parsed m_tried m_remembered m_slots m_kept m_away m_input m_halfway m_output) [] 0 0 o.1 (wX12 ad c9 m_undoable m_undoStart o.2 m_inputLength m_position m_start m_token m_value m_letters m_code m_place m_outputLength m_s m_parsed m_tried m_remembered m_slots m_kept m_away m_input m_halfway m_output) := by
  refine mI_of hG (cc := cX12_lastEndOf) (maxL := 2) (ty := .int) (by decide) rfl (Nat.le_of_ble_eq_true rfl) ?_
  intro p e s m args below meth c A X
  have X : vX p s m args meth c cX12_lastEndOf 2 (some .int) RX12 wsX12_lastEndOf D (tyA c9) G A := X
  refine v_eq (lv2 := [(0, .ref (ad 0)), (1, .int v1)]) rfl rfl rfl rfl ?_
  rw [f_X12_lastEndOf] at hf
  refine v_aload_n X dX12_lastEndOf_0 0 rfl rfl 1 rfl ?_
  refine v_iload_n X dX12_lastEndOf_1 1 rfl rfl 2 rfl ?_
  refine v_bipush X dX12_lastEndOf_2 bp_7 4 rfl ?_
  obtain ⟨o1, ho1, hf⟩ := bnd hf
  refine v_callVi X (ci := 11) (T := TX12) (C := RX12) (As := [.int v1, .int 7]) (rest := []) (ws' := (wX12 ad c9 m_undoable m_undoStart o1.2 m_inputLength m_position m_start m_token m_value m_letters m_code m_place m_outputLength m_s m_parsed m_tried m_remembered m_slots m_kept m_away m_input m_halfway m_output)) (c_X12_ofIt l hG D c9 ad m_undoable m_undoStart m_thrown m_inputLength m_position m_start m_token m_value m_letters m_code m_place m_outputLength m_s m_parsed m_tried m_remembered m_slots m_kept m_away m_input m_halfway m_output v1 7 ho1) 2 gX12_lastEndOf_X12_ofIt rfl rfl rfl ⟨rfl, pd_X12_ofIt⟩ ⟨Nat.le_of_ble_eq_true rfl, Nat.le_of_ble_eq_true rfl⟩ 0 rfl rfl rfl rfl (Nat.le_of_ble_eq_true rfl) ⟨Nat.zero_le _, Nat.zero_le _⟩ [0, 1, 2, 3, 4, 5, 6, 7, 8, 9, 10] [] [0, 1, 2, 3, 4, 5, 6, 7, 8, 9, 10] rfl rfl rfl rfl dX12_lastEndOf_4 7 rfl ?_
  cases hf
  exact v_iret X (Nat.zero_le _) (Nat.zero_le _) dX12_lastEndOf_7
theorem pd_X12_lastEndOf : yX12_lastEndOf.cls ≠ "java/lang/invoke/MethodHandle" ∧ yX12_lastEndOf.cls ≠ "java/lang/invoke/VarHandle" ∧ (parseMethodDescriptor yX12_lastEndOf.desc).map (fun d => d.parameters.length) = some 1 := by decide +kernel
def f_X12_keyOf (m_thrown : Int32) (m_s : Nat → Int32) (v1 : Int32) : Option (Int32 × Int32) :=
  (f_X12_ofIt m_thrown m_s v1 8).bind fun o1 =>
  some (o1.1, o1.2)
set_option maxRecDepth 100000 in
set_option maxHeartbeats 4000000 in
theorem c_X12_keyOf (l : Launch) {G : (Nat → Prop) → State → Heap → Prop} (hG : vG G) (D : va_G) (c9 : Nat → ClassId) (ad : Nat → Nat) (m_undoable : Int32) (m_undoStart : Int32) (m_thrown : Int32) (m_inputLength : Int32) (m_position : Int32) (m_start : Int32) (m_token : Int32) (m_value : Int32) (m_letters : Int32) (m_code : Int32) (m_place : Int32) (m_outputLength : Int32) (m_s : Nat → Int32) (m_parsed : Nat → Int32) (m_tried : Nat → Int32) (m_remembered : Nat → Int32) (m_slots : Nat → Int32) (m_kept : Nat → Int32) (m_away : Nat → Int32) (m_input : Nat → Int32) (m_halfway : Nat → Int32) (m_output : Nat → Int32) (v1 : Int32) {o : Int32 × Int32} (hf : f_X12_keyOf m_thrown m_s v1 = some o) : mI l yX12_keyOf wsX12_keyOf { frames := 4, cells := 0, slots := 0, locals := 85 } G D (tyA c9) [.ref (ad 0), .int v1] (wX12 ad c9 m_undoable m_undoStart m_thrown m_inputLength m_position m_start m_token m_value m_letters m_code m_place m_outputLength m_s m_parsed m_tried m_remembered m_slots m_kept m_away m_input m_halfway m_output) [] 0 0 o.1 (wX12 ad c9 m_undoable m_undoStart o.2 m_inputLength m_position m_start m_token m_value m_letters m_code m_place m_outputLength m_s m_parsed m_tried m_remembered m_slots m_kept m_away m_input m_halfway m_output) := by
  refine mI_of hG (cc := cX12_keyOf) (maxL := 2) (ty := .int) (by decide) rfl (Nat.le_of_ble_eq_true rfl) ?_
  intro p e s m args below meth c A X
  have X : vX p s m args meth c cX12_keyOf 2 (some .int) RX12 wsX12_keyOf D (tyA c9) G A := X
  refine v_eq (lv2 := [(0, .ref (ad 0)), (1, .int v1)]) rfl rfl rfl rfl ?_
  rw [f_X12_keyOf] at hf
  refine v_aload_n X dX12_keyOf_0 0 rfl rfl 1 rfl ?_
  refine v_iload_n X dX12_keyOf_1 1 rfl rfl 2 rfl ?_
  refine v_bipush X dX12_keyOf_2 bp_8 4 rfl ?_
  obtain ⟨o1, ho1, hf⟩ := bnd hf
  refine v_callVi X (ci := 11) (T := TX12) (C := RX12) (As := [.int v1, .int 8]) (rest := []) (ws' := (wX12 ad c9 m_undoable m_undoStart o1.2 m_inputLength m_position m_start m_token m_value m_letters m_code m_place m_outputLength m_s m_parsed m_tried m_remembered m_slots m_kept m_away m_input m_halfway m_output)) (c_X12_ofIt l hG D c9 ad m_undoable m_undoStart m_thrown m_inputLength m_position m_start m_token m_value m_letters m_code m_place m_outputLength m_s m_parsed m_tried m_remembered m_slots m_kept m_away m_input m_halfway m_output v1 8 ho1) 2 gX12_keyOf_X12_ofIt rfl rfl rfl ⟨rfl, pd_X12_ofIt⟩ ⟨Nat.le_of_ble_eq_true rfl, Nat.le_of_ble_eq_true rfl⟩ 0 rfl rfl rfl rfl (Nat.le_of_ble_eq_true rfl) ⟨Nat.zero_le _, Nat.zero_le _⟩ [0, 1, 2, 3, 4, 5, 6, 7, 8, 9, 10] [] [0, 1, 2, 3, 4, 5, 6, 7, 8, 9, 10] rfl rfl rfl rfl dX12_keyOf_4 7 rfl ?_
  cases hf
  exact v_iret X (Nat.zero_le _) (Nat.zero_le _) dX12_keyOf_7
theorem pd_X12_keyOf : yX12_keyOf.cls ≠ "java/lang/invoke/MethodHandle" ∧ yX12_keyOf.cls ≠ "java/lang/invoke/VarHandle" ∧ (parseMethodDescriptor yX12_keyOf.desc).map (fun d => d.parameters.length) = some 1 := by decide +kernel
def f_X12_isRenewable (m_thrown : Int32) (m_s : Nat → Int32) (v1 : Int32) : Option (Int32 × Int32) :=
  (f_X12_ofIt m_thrown m_s v1 9).bind fun o1 =>
  if o1.1 = 1 then (
    some (1, o1.2))
  else (
    some (0, o1.2))
set_option maxRecDepth 100000 in
set_option maxHeartbeats 4000000 in
theorem c_X12_isRenewable (l : Launch) {G : (Nat → Prop) → State → Heap → Prop} (hG : vG G) (D : va_G) (c9 : Nat → ClassId) (ad : Nat → Nat) (m_undoable : Int32) (m_undoStart : Int32) (m_thrown : Int32) (m_inputLength : Int32) (m_position : Int32) (m_start : Int32) (m_token : Int32) (m_value : Int32) (m_letters : Int32) (m_code : Int32) (m_place : Int32) (m_outputLength : Int32) (m_s : Nat → Int32) (m_parsed : Nat → Int32) (m_tried : Nat → Int32) (m_remembered : Nat → Int32) (m_slots : Nat → Int32) (m_kept : Nat → Int32) (m_away : Nat → Int32) (m_input : Nat → Int32) (m_halfway : Nat → Int32) (m_output : Nat → Int32) (v1 : Int32) {o : Int32 × Int32} (hf : f_X12_isRenewable m_thrown m_s v1 = some o) : mI l yX12_isRenewable wsX12_isRenewable { frames := 4, cells := 0, slots := 0, locals := 85 } G D (tyA c9) [.ref (ad 0), .int v1] (wX12 ad c9 m_undoable m_undoStart m_thrown m_inputLength m_position m_start m_token m_value m_letters m_code m_place m_outputLength m_s m_parsed m_tried m_remembered m_slots m_kept m_away m_input m_halfway m_output) [] 0 0 o.1 (wX12 ad c9 m_undoable m_undoStart o.2 m_inputLength m_position m_start m_token m_value m_letters m_code m_place m_outputLength m_s m_parsed m_tried m_remembered m_slots m_kept m_away m_input m_halfway m_output) := by
  refine mI_of hG (cc := cX12_isRenewable) (maxL := 2) (ty := .boolean) (by decide) rfl (Nat.le_of_ble_eq_true rfl) ?_
  intro p e s m args below meth c A X
  have X : vX p s m args meth c cX12_isRenewable 2 (some .boolean) RX12 wsX12_isRenewable D (tyA c9) G A := X
  refine v_eq (lv2 := [(0, .ref (ad 0)), (1, .int v1)]) rfl rfl rfl rfl ?_
  rw [f_X12_isRenewable] at hf
  refine v_aload_n X dX12_isRenewable_0 0 rfl rfl 1 rfl ?_
  refine v_iload_n X dX12_isRenewable_1 1 rfl rfl 2 rfl ?_
  refine v_bipush X dX12_isRenewable_2 bp_9 4 rfl ?_
  obtain ⟨o1, ho1, hf⟩ := bnd hf
  refine v_callVi X (ci := 11) (T := TX12) (C := RX12) (As := [.int v1, .int 9]) (rest := []) (ws' := (wX12 ad c9 m_undoable m_undoStart o1.2 m_inputLength m_position m_start m_token m_value m_letters m_code m_place m_outputLength m_s m_parsed m_tried m_remembered m_slots m_kept m_away m_input m_halfway m_output)) (c_X12_ofIt l hG D c9 ad m_undoable m_undoStart m_thrown m_inputLength m_position m_start m_token m_value m_letters m_code m_place m_outputLength m_s m_parsed m_tried m_remembered m_slots m_kept m_away m_input m_halfway m_output v1 9 ho1) 2 gX12_isRenewable_X12_ofIt rfl rfl rfl ⟨rfl, pd_X12_ofIt⟩ ⟨Nat.le_of_ble_eq_true rfl, Nat.le_of_ble_eq_true rfl⟩ 0 rfl rfl rfl rfl (Nat.le_of_ble_eq_true rfl) ⟨Nat.zero_le _, Nat.zero_le _⟩ [0, 1, 2, 3, 4, 5, 6, 7, 8, 9, 10] [] [0, 1, 2, 3, 4, 5, 6, 7, 8, 9, 10] rfl rfl rfl rfl dX12_isRenewable_4 7 rfl ?_
  refine v_iconst X dX12_isRenewable_7 ic_1 8 rfl ?_
  refine v_icmp_ne X (tgt := 15) dX12_isRenewable_8 rfl 11 rfl hf (fun hf => ?_) (fun hf => ?_)
  · refine v_iconst X dX12_isRenewable_15 ic_0 16 rfl ?_
    cases hf
    exact v_zret X (Nat.zero_le _) (Nat.zero_le _) rfl dX12_isRenewable_16
  · refine v_iconst X dX12_isRenewable_11 ic_1 12 rfl ?_
    refine v_goto X (tgt := 16) dX12_isRenewable_12 rfl ?_
    cases hf
    exact v_zret X (Nat.zero_le _) (Nat.zero_le _) rfl dX12_isRenewable_16
theorem pd_X12_isRenewable : yX12_isRenewable.cls ≠ "java/lang/invoke/MethodHandle" ∧ yX12_isRenewable.cls ≠ "java/lang/invoke/VarHandle" ∧ (parseMethodDescriptor yX12_isRenewable.desc).map (fun d => d.parameters.length) = some 1 := by decide +kernel
theorem k_X12_isValid_w12 : ∀ w ∈ u_ws RX12 TX12 22, w ∈ wsX12_isValid := in_r _ [21, 22, 23, 24, 25, 26, 27, 28, 29, 30, 31, 32, 33, 34, 35, 36, 37, 38, 39, 40, 41, 42] rfl
theorem k_X12_isValid_1 : Cond.fieldLink RX12 7 "TicketGateModel" "s" "[I" ∈ wsX12_isValid := List.mem_of_getElem? (i := 1) rfl
def f_X12_isValid (m_thrown : Int32) (m_s : Nat → Int32) (v1 : Int32) : Option (Int32 × Int32) :=
  (f_X12_noTicket m_thrown m_s v1).bind fun o1 =>
  if o1.1 = 0 then (
    (f_X12_find m_s v1).bind fun o2 =>
    (f_X12_lives m_s o2).bind fun o3 =>
    (zr o3).bind fun z4 => some (z4, o1.2))
  else (
    some (0, o1.2))
set_option maxRecDepth 100000 in
set_option maxHeartbeats 4000000 in
theorem c_X12_isValid (l : Launch) {G : (Nat → Prop) → State → Heap → Prop} (hG : vG G) (D : va_G) (c9 : Nat → ClassId) (ad : Nat → Nat) (m_undoable : Int32) (m_undoStart : Int32) (m_thrown : Int32) (m_inputLength : Int32) (m_position : Int32) (m_start : Int32) (m_token : Int32) (m_value : Int32) (m_letters : Int32) (m_code : Int32) (m_place : Int32) (m_outputLength : Int32) (m_s : Nat → Int32) (m_parsed : Nat → Int32) (m_tried : Nat → Int32) (m_remembered : Nat → Int32) (m_slots : Nat → Int32) (m_kept : Nat → Int32) (m_away : Nat → Int32) (m_input : Nat → Int32) (m_halfway : Nat → Int32) (m_output : Nat → Int32) (v1 : Int32) {o : Int32 × Int32} (hf : f_X12_isValid m_thrown m_s v1 = some o) : mI l yX12_isValid wsX12_isValid { frames := 3, cells := 0, slots := 0, locals := 63 } G D (tyA c9) [.ref (ad 0), .int v1] (wX12 ad c9 m_undoable m_undoStart m_thrown m_inputLength m_position m_start m_token m_value m_letters m_code m_place m_outputLength m_s m_parsed m_tried m_remembered m_slots m_kept m_away m_input m_halfway m_output) [] 0 0 o.1 (wX12 ad c9 m_undoable m_undoStart o.2 m_inputLength m_position m_start m_token m_value m_letters m_code m_place m_outputLength m_s m_parsed m_tried m_remembered m_slots m_kept m_away m_input m_halfway m_output) := by
  refine mI_of hG (cc := cX12_isValid) (maxL := 2) (ty := .boolean) (by decide) rfl (Nat.le_of_ble_eq_true rfl) ?_
  intro p e s m args below meth c A X
  have X : vX p s m args meth c cX12_isValid 2 (some .boolean) RX12 wsX12_isValid D (tyA c9) G A := X
  refine v_eq (lv2 := [(0, .ref (ad 0)), (1, .int v1)]) rfl rfl rfl rfl ?_
  rw [f_X12_isValid] at hf
  refine v_aload_n X dX12_isValid_0 0 rfl rfl 1 rfl ?_
  refine v_iload_n X dX12_isValid_1 1 rfl rfl 2 rfl ?_
  obtain ⟨o1, ho1, hf⟩ := bnd hf
  refine v_callVi X (ci := 11) (T := TX12) (C := RX12) (As := [.int v1]) (rest := []) (ws' := (wX12 ad c9 m_undoable m_undoStart o1.2 m_inputLength m_position m_start m_token m_value m_letters m_code m_place m_outputLength m_s m_parsed m_tried m_remembered m_slots m_kept m_away m_input m_halfway m_output)) (c_X12_noTicket l hG D c9 ad m_undoable m_undoStart m_thrown m_inputLength m_position m_start m_token m_value m_letters m_code m_place m_outputLength m_s m_parsed m_tried m_remembered m_slots m_kept m_away m_input m_halfway m_output v1 ho1) 1 gX12_isValid_X12_noTicket rfl rfl rfl ⟨rfl, pd_X12_noTicket⟩ ⟨Nat.le_of_ble_eq_true rfl, Nat.le_of_ble_eq_true rfl⟩ 0 rfl rfl rfl rfl (Nat.le_of_ble_eq_true rfl) ⟨Nat.zero_le _, Nat.zero_le _⟩ [0, 1, 2, 3, 4, 5, 6, 7, 8, 9, 10] [] [0, 1, 2, 3, 4, 5, 6, 7, 8, 9, 10] rfl rfl rfl rfl dX12_isValid_2 5 rfl ?_
  refine v_if_eq X (tgt := 10) dX12_isValid_5 rfl 8 rfl hf (fun hf => ?_) (fun hf => ?_)
  · refine v_aload_n X dX12_isValid_10 0 rfl rfl 11 rfl ?_
    refine v_get X (C := RX12) (T := TX12) (N := 22) (ci := 11) (v := _) dX12_isValid_11 k_X12_isValid_w12 0 rfl rfl 0 (by decide) k_X12_isValid_1 rfl rfl 14 rfl ?_
    refine v_aload_n X dX12_isValid_14 0 rfl rfl 15 rfl ?_
    refine v_get X (C := RX12) (T := TX12) (N := 22) (ci := 11) (v := _) dX12_isValid_15 k_X12_isValid_w12 0 rfl rfl 0 (by decide) k_X12_isValid_1 rfl rfl 18 rfl ?_
    refine v_iload_n X dX12_isValid_18 1 rfl rfl 19 rfl ?_
    obtain ⟨o2, ho2, hf⟩ := bnd hf
    refine v_callSi X (As := [.ref (ad 1), .int v1]) (rest := [.ref (ad 1)]) (ws' := (wX12 ad c9 m_undoable m_undoStart o1.2 m_inputLength m_position m_start m_token m_value m_letters m_code m_place m_outputLength m_s m_parsed m_tried m_remembered m_slots m_kept m_away m_input m_halfway m_output)) (c_X12_find l hG D c9 (ad 1) m_s v1 ho2) 2 gX12_isValid_X12_find rfl rfl rfl pd_X12_find ⟨Nat.le_of_ble_eq_true rfl, Nat.le_of_ble_eq_true rfl⟩ rfl rfl (Nat.le_of_ble_eq_true rfl) ⟨Nat.zero_le _, Nat.zero_le _⟩ [1] [0, 2, 3, 4, 5, 6, 7, 8, 9, 10] [0, 10, 1, 2, 3, 4, 5, 6, 7, 8, 9] rfl rfl rfl rfl dX12_isValid_19 22 rfl ?_
    obtain ⟨o3, ho3, hf⟩ := bnd hf
    refine v_callSi X (As := [.ref (ad 1), .int o2]) (rest := []) (ws' := (wX12 ad c9 m_undoable m_undoStart o1.2 m_inputLength m_position m_start m_token m_value m_letters m_code m_place m_outputLength m_s m_parsed m_tried m_remembered m_slots m_kept m_away m_input m_halfway m_output)) (c_X12_lives l hG D c9 (ad 1) m_s o2 ho3) 2 gX12_isValid_X12_lives rfl rfl rfl pd_X12_lives ⟨Nat.le_of_ble_eq_true rfl, Nat.le_of_ble_eq_true rfl⟩ rfl rfl (Nat.le_of_ble_eq_true rfl) ⟨Nat.zero_le _, Nat.zero_le _⟩ [1] [0, 2, 3, 4, 5, 6, 7, 8, 9, 10] [0, 10, 1, 2, 3, 4, 5, 6, 7, 8, 9] rfl rfl rfl rfl dX12_isValid_22 25 rfl ?_
    obtain ⟨z4, hz4, hf⟩ := bnd hf
    cases hf
    exact v_zretq hz4 X (Nat.zero_le _) (Nat.zero_le _) dX12_isValid_25
  · refine v_iconst X dX12_isValid_8 ic_0 9 rfl ?_
    cases hf
    exact v_zret X (Nat.zero_le _) (Nat.zero_le _) rfl dX12_isValid_9
theorem pd_X12_isValid : yX12_isValid.cls ≠ "java/lang/invoke/MethodHandle" ∧ yX12_isValid.cls ≠ "java/lang/invoke/VarHandle" ∧ (parseMethodDescriptor yX12_isValid.desc).map (fun d => d.parameters.length) = some 1 := by decide +kernel
theorem k_X12_minutesLeft_w12 : ∀ w ∈ u_ws RX12 TX12 22, w ∈ wsX12_minutesLeft := in_r _ [21, 22, 23, 24, 25, 26, 27, 28, 29, 30, 31, 32, 33, 34, 35, 36, 37, 38, 39, 40, 41, 42] rfl
theorem k_X12_minutesLeft_1 : Cond.fieldLink RX12 7 "TicketGateModel" "s" "[I" ∈ wsX12_minutesLeft := List.mem_of_getElem? (i := 1) rfl
def f_X12_minutesLeft (m_thrown : Int32) (m_s : Nat → Int32) (v1 : Int32) : Option (Int32 × Int32) :=
  (f_X12_noTicket m_thrown m_s v1).bind fun o1 =>
  if o1.1 = 0 then (
    (f_X12_find m_s v1).bind fun o2 =>
    (f_X12_ofTicket o2).bind fun o3 =>
    (rd m_s 463 (o3 + 6)).bind fun x4 =>
    (rd m_s 463 0).bind fun x5 =>
    (f_X12_greater 0 (x4 - x5)).bind fun o6 =>
    some (o6, o1.2))
  else (
    some (0, o1.2))
set_option maxRecDepth 100000 in
set_option maxHeartbeats 4000000 in
theorem c_X12_minutesLeft (l : Launch) {G : (Nat → Prop) → State → Heap → Prop} (hG : vG G) (D : va_G) (c9 : Nat → ClassId) (ad : Nat → Nat) (m_undoable : Int32) (m_undoStart : Int32) (m_thrown : Int32) (m_inputLength : Int32) (m_position : Int32) (m_start : Int32) (m_token : Int32) (m_value : Int32) (m_letters : Int32) (m_code : Int32) (m_place : Int32) (m_outputLength : Int32) (m_s : Nat → Int32) (m_parsed : Nat → Int32) (m_tried : Nat → Int32) (m_remembered : Nat → Int32) (m_slots : Nat → Int32) (m_kept : Nat → Int32) (m_away : Nat → Int32) (m_input : Nat → Int32) (m_halfway : Nat → Int32) (m_output : Nat → Int32) (v1 : Int32) {o : Int32 × Int32} (hf : f_X12_minutesLeft m_thrown m_s v1 = some o) : mI l yX12_minutesLeft wsX12_minutesLeft { frames := 3, cells := 0, slots := 0, locals := 63 } G D (tyA c9) [.ref (ad 0), .int v1] (wX12 ad c9 m_undoable m_undoStart m_thrown m_inputLength m_position m_start m_token m_value m_letters m_code m_place m_outputLength m_s m_parsed m_tried m_remembered m_slots m_kept m_away m_input m_halfway m_output) [] 0 0 o.1 (wX12 ad c9 m_undoable m_undoStart o.2 m_inputLength m_position m_start m_token m_value m_letters m_code m_place m_outputLength m_s m_parsed m_tried m_remembered m_slots m_kept m_away m_input m_halfway m_output) := by
  refine mI_of hG (cc := cX12_minutesLeft) (maxL := 2) (ty := .int) (by decide) rfl (Nat.le_of_ble_eq_true rfl) ?_
  intro p e s m args below meth c A X
  have X : vX p s m args meth c cX12_minutesLeft 2 (some .int) RX12 wsX12_minutesLeft D (tyA c9) G A := X
  refine v_eq (lv2 := [(0, .ref (ad 0)), (1, .int v1)]) rfl rfl rfl rfl ?_
  rw [f_X12_minutesLeft] at hf
  refine v_aload_n X dX12_minutesLeft_0 0 rfl rfl 1 rfl ?_
  refine v_iload_n X dX12_minutesLeft_1 1 rfl rfl 2 rfl ?_
  obtain ⟨o1, ho1, hf⟩ := bnd hf
  refine v_callVi X (ci := 11) (T := TX12) (C := RX12) (As := [.int v1]) (rest := []) (ws' := (wX12 ad c9 m_undoable m_undoStart o1.2 m_inputLength m_position m_start m_token m_value m_letters m_code m_place m_outputLength m_s m_parsed m_tried m_remembered m_slots m_kept m_away m_input m_halfway m_output)) (c_X12_noTicket l hG D c9 ad m_undoable m_undoStart m_thrown m_inputLength m_position m_start m_token m_value m_letters m_code m_place m_outputLength m_s m_parsed m_tried m_remembered m_slots m_kept m_away m_input m_halfway m_output v1 ho1) 1 gX12_minutesLeft_X12_noTicket rfl rfl rfl ⟨rfl, pd_X12_noTicket⟩ ⟨Nat.le_of_ble_eq_true rfl, Nat.le_of_ble_eq_true rfl⟩ 0 rfl rfl rfl rfl (Nat.le_of_ble_eq_true rfl) ⟨Nat.zero_le _, Nat.zero_le _⟩ [0, 1, 2, 3, 4, 5, 6, 7, 8, 9, 10] [] [0, 1, 2, 3, 4, 5, 6, 7, 8, 9, 10] rfl rfl rfl rfl dX12_minutesLeft_2 5 rfl ?_
  refine v_if_eq X (tgt := 10) dX12_minutesLeft_5 rfl 8 rfl hf (fun hf => ?_) (fun hf => ?_)
  · refine v_iconst X dX12_minutesLeft_10 ic_0 11 rfl ?_
    refine v_aload_n X dX12_minutesLeft_11 0 rfl rfl 12 rfl ?_
    refine v_get X (C := RX12) (T := TX12) (N := 22) (ci := 11) (v := _) dX12_minutesLeft_12 k_X12_minutesLeft_w12 0 rfl rfl 0 (by decide) k_X12_minutesLeft_1 rfl rfl 15 rfl ?_
    refine v_aload_n X dX12_minutesLeft_15 0 rfl rfl 16 rfl ?_
    refine v_get X (C := RX12) (T := TX12) (N := 22) (ci := 11) (v := _) dX12_minutesLeft_16 k_X12_minutesLeft_w12 0 rfl rfl 0 (by decide) k_X12_minutesLeft_1 rfl rfl 19 rfl ?_
    refine v_iload_n X dX12_minutesLeft_19 1 rfl rfl 20 rfl ?_
    obtain ⟨o2, ho2, hf⟩ := bnd hf
    refine v_callSi X (As := [.ref (ad 1), .int v1]) (rest := [.ref (ad 1), .int 0]) (ws' := (wX12 ad c9 m_undoable m_undoStart o1.2 m_inputLength m_position m_start m_token m_value m_letters m_code m_place m_outputLength m_s m_parsed m_tried m_remembered m_slots m_kept m_away m_input m_halfway m_output)) (c_X12_find l hG D c9 (ad 1) m_s v1 ho2) 2 gX12_minutesLeft_X12_find rfl rfl rfl pd_X12_find ⟨Nat.le_of_ble_eq_true rfl, Nat.le_of_ble_eq_true rfl⟩ rfl rfl (Nat.le_of_ble_eq_true rfl) ⟨Nat.zero_le _, Nat.zero_le _⟩ [1] [0, 2, 3, 4, 5, 6, 7, 8, 9, 10] [0, 10, 1, 2, 3, 4, 5, 6, 7, 8, 9] rfl rfl rfl rfl dX12_minutesLeft_20 23 rfl ?_
    obtain ⟨o3, ho3, hf⟩ := bnd hf
    refine v_callSi X (As := [.int o2]) (rest := [.ref (ad 1), .int 0]) (ws' := (wX12 ad c9 m_undoable m_undoStart o1.2 m_inputLength m_position m_start m_token m_value m_letters m_code m_place m_outputLength m_s m_parsed m_tried m_remembered m_slots m_kept m_away m_input m_halfway m_output)) (c_X12_ofTicket l hG D c9 o2 ho3) 1 gX12_minutesLeft_X12_ofTicket rfl rfl rfl pd_X12_ofTicket ⟨Nat.le_of_ble_eq_true rfl, Nat.le_of_ble_eq_true rfl⟩ rfl rfl (Nat.le_of_ble_eq_true rfl) ⟨Nat.zero_le _, Nat.zero_le _⟩ [] [0, 1, 2, 3, 4, 5, 6, 7, 8, 9, 10] [0, 1, 2, 3, 4, 5, 6, 7, 8, 9, 10] rfl rfl rfl rfl dX12_minutesLeft_23 26 rfl ?_
    refine v_bipush X dX12_minutesLeft_26 bp_6 28 rfl ?_
    refine v_iadd X dX12_minutesLeft_28 29 rfl ?_
    obtain ⟨x4, hx4, hf⟩ := bnd hf
    refine v_iald X dX12_minutesLeft_29 1 0 rfl rfl hx4 30 rfl ?_
    refine v_aload_n X dX12_minutesLeft_30 0 rfl rfl 31 rfl ?_
    refine v_get X (C := RX12) (T := TX12) (N := 22) (ci := 11) (v := _) dX12_minutesLeft_31 k_X12_minutesLeft_w12 0 rfl rfl 0 (by decide) k_X12_minutesLeft_1 rfl rfl 34 rfl ?_
    refine v_iconst X dX12_minutesLeft_34 ic_0 35 rfl ?_
    obtain ⟨x5, hx5, hf⟩ := bnd hf
    refine v_iald X dX12_minutesLeft_35 1 0 rfl rfl hx5 36 rfl ?_
    refine v_isub X dX12_minutesLeft_36 37 rfl ?_
    obtain ⟨o6, ho6, hf⟩ := bnd hf
    refine v_callSi X (As := [.int 0, .int (x4 - x5)]) (rest := []) (ws' := (wX12 ad c9 m_undoable m_undoStart o1.2 m_inputLength m_position m_start m_token m_value m_letters m_code m_place m_outputLength m_s m_parsed m_tried m_remembered m_slots m_kept m_away m_input m_halfway m_output)) (c_X12_greater l hG D c9 0 (x4 - x5) ho6) 2 gX12_minutesLeft_X12_greater rfl rfl rfl pd_X12_greater ⟨Nat.le_of_ble_eq_true rfl, Nat.le_of_ble_eq_true rfl⟩ rfl rfl (Nat.le_of_ble_eq_true rfl) ⟨Nat.zero_le _, Nat.zero_le _⟩ [] [0, 1, 2, 3, 4, 5, 6, 7, 8, 9, 10] [0, 1, 2, 3, 4, 5, 6, 7, 8, 9, 10] rfl rfl rfl rfl dX12_minutesLeft_37 40 rfl ?_
    cases hf
    exact v_iret X (Nat.zero_le _) (Nat.zero_le _) dX12_minutesLeft_40
  · refine v_iconst X dX12_minutesLeft_8 ic_0 9 rfl ?_
    cases hf
    exact v_iret X (Nat.zero_le _) (Nat.zero_le _) dX12_minutesLeft_9
theorem pd_X12_minutesLeft : yX12_minutesLeft.cls ≠ "java/lang/invoke/MethodHandle" ∧ yX12_minutesLeft.cls ≠ "java/lang/invoke/VarHandle" ∧ (parseMethodDescriptor yX12_minutesLeft.desc).map (fun d => d.parameters.length) = some 1 := by decide +kernel
theorem k_X12_loginRefusal_w12 : ∀ w ∈ u_ws RX12 TX12 22, w ∈ wsX12_loginRefusal := in_r _ [38, 39, 40, 41, 42, 43, 44, 45, 46, 47, 48, 49, 50, 51, 52, 53, 54, 55, 56, 57, 58, 59] rfl
theorem k_X12_loginRefusal_1 : Cond.fieldLink RX12 7 "TicketGateModel" "s" "[I" ∈ wsX12_loginRefusal := List.mem_of_getElem? (i := 1) rfl
def f_X12_loginRefusal (m_thrown : Int32) (m_s : Nat → Int32) (v1 : Int32) (v2 : Int32) : Option (Int32 × Int32) :=
  (f_X12_noUser m_thrown m_s v1).bind fun o1 =>
  if o1.1 = 0 then (
    (f_X12_out o1.2 v2 0 9999).bind fun o2 =>
    if o2.1 = 0 then (
      (f_X12_whyNotLogin m_s v1 v2).bind fun o3 =>
      some (o3, o2.2))
    else (
      some (0, o2.2)))
  else (
    some (0, o1.2))
set_option maxRecDepth 100000 in
set_option maxHeartbeats 4000000 in
theorem c_X12_loginRefusal (l : Launch) {G : (Nat → Prop) → State → Heap → Prop} (hG : vG G) (D : va_G) (c9 : Nat → ClassId) (ad : Nat → Nat) (m_undoable : Int32) (m_undoStart : Int32) (m_thrown : Int32) (m_inputLength : Int32) (m_position : Int32) (m_start : Int32) (m_token : Int32) (m_value : Int32) (m_letters : Int32) (m_code : Int32) (m_place : Int32) (m_outputLength : Int32) (m_s : Nat → Int32) (m_parsed : Nat → Int32) (m_tried : Nat → Int32) (m_remembered : Nat → Int32) (m_slots : Nat → Int32) (m_kept : Nat → Int32) (m_away : Nat → Int32) (m_input : Nat → Int32) (m_halfway : Nat → Int32) (m_output : Nat → Int32) (v1 : Int32) (v2 : Int32) {o : Int32 × Int32} (hf : f_X12_loginRefusal m_thrown m_s v1 v2 = some o) : mI l yX12_loginRefusal wsX12_loginRefusal { frames := 4, cells := 0, slots := 0, locals := 87 } G D (tyA c9) [.ref (ad 0), .int v1, .int v2] (wX12 ad c9 m_undoable m_undoStart m_thrown m_inputLength m_position m_start m_token m_value m_letters m_code m_place m_outputLength m_s m_parsed m_tried m_remembered m_slots m_kept m_away m_input m_halfway m_output) [] 0 0 o.1 (wX12 ad c9 m_undoable m_undoStart o.2 m_inputLength m_position m_start m_token m_value m_letters m_code m_place m_outputLength m_s m_parsed m_tried m_remembered m_slots m_kept m_away m_input m_halfway m_output) := by
  refine mI_of hG (cc := cX12_loginRefusal) (maxL := 3) (ty := .int) (by decide) rfl (Nat.le_of_ble_eq_true rfl) ?_
  intro p e s m args below meth c A X
  have X : vX p s m args meth c cX12_loginRefusal 3 (some .int) RX12 wsX12_loginRefusal D (tyA c9) G A := X
  refine v_eq (lv2 := [(0, .ref (ad 0)), (1, .int v1), (2, .int v2)]) rfl rfl rfl rfl ?_
  rw [f_X12_loginRefusal] at hf
  refine v_aload_n X dX12_loginRefusal_0 0 rfl rfl 1 rfl ?_
  refine v_iload_n X dX12_loginRefusal_1 1 rfl rfl 2 rfl ?_
  obtain ⟨o1, ho1, hf⟩ := bnd hf
  refine v_callVi X (ci := 11) (T := TX12) (C := RX12) (As := [.int v1]) (rest := []) (ws' := (wX12 ad c9 m_undoable m_undoStart o1.2 m_inputLength m_position m_start m_token m_value m_letters m_code m_place m_outputLength m_s m_parsed m_tried m_remembered m_slots m_kept m_away m_input m_halfway m_output)) (c_X12_noUser l hG D c9 ad m_undoable m_undoStart m_thrown m_inputLength m_position m_start m_token m_value m_letters m_code m_place m_outputLength m_s m_parsed m_tried m_remembered m_slots m_kept m_away m_input m_halfway m_output v1 ho1) 1 gX12_loginRefusal_X12_noUser rfl rfl rfl ⟨rfl, pd_X12_noUser⟩ ⟨Nat.le_of_ble_eq_true rfl, Nat.le_of_ble_eq_true rfl⟩ 0 rfl rfl rfl rfl (Nat.le_of_ble_eq_true rfl) ⟨Nat.zero_le _, Nat.zero_le _⟩ [0, 1, 2, 3, 4, 5, 6, 7, 8, 9, 10] [] [0, 1, 2, 3, 4, 5, 6, 7, 8, 9, 10] rfl rfl rfl rfl dX12_loginRefusal_2 5 rfl ?_
  refine v_if_ne X (tgt := 20) dX12_loginRefusal_5 rfl 8 rfl hf (fun hf => ?_) (fun hf => ?_)
  · refine v_iconst X dX12_loginRefusal_20 ic_0 21 rfl ?_
    cases hf
    exact v_iret X (Nat.zero_le _) (Nat.zero_le _) dX12_loginRefusal_21
  · refine v_aload_n X dX12_loginRefusal_8 0 rfl rfl 9 rfl ?_
    refine v_iload_n X dX12_loginRefusal_9 2 rfl rfl 10 rfl ?_
    refine v_iconst X dX12_loginRefusal_10 ic_0 11 rfl ?_
    refine v_sipush X dX12_loginRefusal_11 sp_9999 14 rfl ?_
    obtain ⟨o2, ho2, hf⟩ := bnd hf
    refine v_callVi X (ci := 11) (T := TX12) (C := RX12) (As := [.int v2, .int 0, .int 9999]) (rest := []) (ws' := (wX12 ad c9 m_undoable m_undoStart o2.2 m_inputLength m_position m_start m_token m_value m_letters m_code m_place m_outputLength m_s m_parsed m_tried m_remembered m_slots m_kept m_away m_input m_halfway m_output)) (c_X12_out l hG D c9 ad m_undoable m_undoStart o1.2 m_inputLength m_position m_start m_token m_value m_letters m_code m_place m_outputLength m_s m_parsed m_tried m_remembered m_slots m_kept m_away m_input m_halfway m_output v2 0 9999 ho2) 3 gX12_loginRefusal_X12_out rfl rfl rfl ⟨rfl, pd_X12_out⟩ ⟨Nat.le_of_ble_eq_true rfl, Nat.le_of_ble_eq_true rfl⟩ 0 rfl rfl rfl rfl (Nat.le_of_ble_eq_true rfl) ⟨Nat.zero_le _, Nat.zero_le _⟩ [0, 1, 2, 3, 4, 5, 6, 7, 8, 9, 10] [] [0, 1, 2, 3, 4, 5, 6, 7, 8, 9, 10] rfl rfl rfl rfl dX12_loginRefusal_14 17 rfl ?_
    refine v_if_eq X (tgt := 22) dX12_loginRefusal_17 rfl 20 rfl hf (fun hf => ?_) (fun hf => ?_)
    · refine v_aload_n X dX12_loginRefusal_22 0 rfl rfl 23 rfl ?_
      refine v_get X (C := RX12) (T := TX12) (N := 22) (ci := 11) (v := _) dX12_loginRefusal_23 k_X12_loginRefusal_w12 0 rfl rfl 0 (by decide) k_X12_loginRefusal_1 rfl rfl 26 rfl ?_
      refine v_iload_n X dX12_loginRefusal_26 1 rfl rfl 27 rfl ?_
      refine v_iload_n X dX12_loginRefusal_27 2 rfl rfl 28 rfl ?_
      obtain ⟨o3, ho3, hf⟩ := bnd hf
      refine v_callSi X (As := [.ref (ad 1), .int v1, .int v2]) (rest := []) (ws' := (wX12 ad c9 m_undoable m_undoStart o2.2 m_inputLength m_position m_start m_token m_value m_letters m_code m_place m_outputLength m_s m_parsed m_tried m_remembered m_slots m_kept m_away m_input m_halfway m_output)) (c_X12_whyNotLogin l hG D c9 (ad 1) m_s v1 v2 ho3) 3 gX12_loginRefusal_X12_whyNotLogin rfl rfl rfl pd_X12_whyNotLogin ⟨Nat.le_of_ble_eq_true rfl, Nat.le_of_ble_eq_true rfl⟩ rfl rfl (Nat.le_of_ble_eq_true rfl) ⟨Nat.zero_le _, Nat.zero_le _⟩ [1] [0, 2, 3, 4, 5, 6, 7, 8, 9, 10] [0, 10, 1, 2, 3, 4, 5, 6, 7, 8, 9] rfl rfl rfl rfl dX12_loginRefusal_28 31 rfl ?_
      cases hf
      exact v_iret X (Nat.zero_le _) (Nat.zero_le _) dX12_loginRefusal_31
    · refine v_iconst X dX12_loginRefusal_20 ic_0 21 rfl ?_
      cases hf
      exact v_iret X (Nat.zero_le _) (Nat.zero_le _) dX12_loginRefusal_21
theorem pd_X12_loginRefusal : yX12_loginRefusal.cls ≠ "java/lang/invoke/MethodHandle" ∧ yX12_loginRefusal.cls ≠ "java/lang/invoke/VarHandle" ∧ (parseMethodDescriptor yX12_loginRefusal.desc).map (fun d => d.parameters.length) = some 2 := by decide +kernel
theorem k_X12_referRefusal_w12 : ∀ w ∈ u_ws RX12 TX12 22, w ∈ wsX12_referRefusal := in_r _ [52, 53, 54, 55, 56, 57, 58, 59, 60, 61, 62, 63, 64, 65, 66, 67, 68, 69, 70, 71, 72, 73] rfl
theorem k_X12_referRefusal_1 : Cond.fieldLink RX12 7 "TicketGateModel" "s" "[I" ∈ wsX12_referRefusal := List.mem_of_getElem? (i := 1) rfl
def f_X12_referRefusal (m_thrown : Int32) (m_s : Nat → Int32) (v1 : Int32) (v2 : Int32) : Option (Int32 × Int32) :=
  (f_X12_noTicket m_thrown m_s v1).bind fun o1 =>
  if o1.1 = 0 then (
    (rd m_s 463 3).bind fun x2 =>
    (f_X12_out o1.2 v2 0 (x2 - 1)).bind fun o3 =>
    if o3.1 = 0 then (
      (f_X12_find m_s v1).bind fun o4 =>
      (f_X12_whyNotRefer m_s o4 v2).bind fun o5 =>
      some (o5, o3.2))
    else (
      some (0, o3.2)))
  else (
    some (0, o1.2))
set_option maxRecDepth 100000 in
set_option maxHeartbeats 4000000 in
theorem c_X12_referRefusal (l : Launch) {G : (Nat → Prop) → State → Heap → Prop} (hG : vG G) (D : va_G) (c9 : Nat → ClassId) (ad : Nat → Nat) (m_undoable : Int32) (m_undoStart : Int32) (m_thrown : Int32) (m_inputLength : Int32) (m_position : Int32) (m_start : Int32) (m_token : Int32) (m_value : Int32) (m_letters : Int32) (m_code : Int32) (m_place : Int32) (m_outputLength : Int32) (m_s : Nat → Int32) (m_parsed : Nat → Int32) (m_tried : Nat → Int32) (m_remembered : Nat → Int32) (m_slots : Nat → Int32) (m_kept : Nat → Int32) (m_away : Nat → Int32) (m_input : Nat → Int32) (m_halfway : Nat → Int32) (m_output : Nat → Int32) (v1 : Int32) (v2 : Int32) {o : Int32 × Int32} (hf : f_X12_referRefusal m_thrown m_s v1 v2 = some o) : mI l yX12_referRefusal wsX12_referRefusal { frames := 5, cells := 0, slots := 0, locals := 110 } G D (tyA c9) [.ref (ad 0), .int v1, .int v2] (wX12 ad c9 m_undoable m_undoStart m_thrown m_inputLength m_position m_start m_token m_value m_letters m_code m_place m_outputLength m_s m_parsed m_tried m_remembered m_slots m_kept m_away m_input m_halfway m_output) [] 0 0 o.1 (wX12 ad c9 m_undoable m_undoStart o.2 m_inputLength m_position m_start m_token m_value m_letters m_code m_place m_outputLength m_s m_parsed m_tried m_remembered m_slots m_kept m_away m_input m_halfway m_output) := by
  refine mI_of hG (cc := cX12_referRefusal) (maxL := 3) (ty := .int) (by decide) rfl (Nat.le_of_ble_eq_true rfl) ?_
  intro p e s m args below meth c A X
  have X : vX p s m args meth c cX12_referRefusal 3 (some .int) RX12 wsX12_referRefusal D (tyA c9) G A := X
  refine v_eq (lv2 := [(0, .ref (ad 0)), (1, .int v1), (2, .int v2)]) rfl rfl rfl rfl ?_
  rw [f_X12_referRefusal] at hf
  refine v_aload_n X dX12_referRefusal_0 0 rfl rfl 1 rfl ?_
  refine v_iload_n X dX12_referRefusal_1 1 rfl rfl 2 rfl ?_
  obtain ⟨o1, ho1, hf⟩ := bnd hf
  refine v_callVi X (ci := 11) (T := TX12) (C := RX12) (As := [.int v1]) (rest := []) (ws' := (wX12 ad c9 m_undoable m_undoStart o1.2 m_inputLength m_position m_start m_token m_value m_letters m_code m_place m_outputLength m_s m_parsed m_tried m_remembered m_slots m_kept m_away m_input m_halfway m_output)) (c_X12_noTicket l hG D c9 ad m_undoable m_undoStart m_thrown m_inputLength m_position m_start m_token m_value m_letters m_code m_place m_outputLength m_s m_parsed m_tried m_remembered m_slots m_kept m_away m_input m_halfway m_output v1 ho1) 1 gX12_referRefusal_X12_noTicket rfl rfl rfl ⟨rfl, pd_X12_noTicket⟩ ⟨Nat.le_of_ble_eq_true rfl, Nat.le_of_ble_eq_true rfl⟩ 0 rfl rfl rfl rfl (Nat.le_of_ble_eq_true rfl) ⟨Nat.zero_le _, Nat.zero_le _⟩ [0, 1, 2, 3, 4, 5, 6, 7, 8, 9, 10] [] [0, 1, 2, 3, 4, 5, 6, 7, 8, 9, 10] rfl rfl rfl rfl dX12_referRefusal_2 5 rfl ?_
  refine v_if_ne X (tgt := 25) dX12_referRefusal_5 rfl 8 rfl hf (fun hf => ?_) (fun hf => ?_)
  · refine v_iconst X dX12_referRefusal_25 ic_0 26 rfl ?_
    cases hf
    exact v_iret X (Nat.zero_le _) (Nat.zero_le _) dX12_referRefusal_26
  · refine v_aload_n X dX12_referRefusal_8 0 rfl rfl 9 rfl ?_
    refine v_iload_n X dX12_referRefusal_9 2 rfl rfl 10 rfl ?_
    refine v_iconst X dX12_referRefusal_10 ic_0 11 rfl ?_
    refine v_aload_n X dX12_referRefusal_11 0 rfl rfl 12 rfl ?_
    refine v_get X (C := RX12) (T := TX12) (N := 22) (ci := 11) (v := _) dX12_referRefusal_12 k_X12_referRefusal_w12 0 rfl rfl 0 (by decide) k_X12_referRefusal_1 rfl rfl 15 rfl ?_
    refine v_iconst X dX12_referRefusal_15 ic_3 16 rfl ?_
    obtain ⟨x2, hx2, hf⟩ := bnd hf
    refine v_iald X dX12_referRefusal_16 1 0 rfl rfl hx2 17 rfl ?_
    refine v_iconst X dX12_referRefusal_17 ic_1 18 rfl ?_
    refine v_isub X dX12_referRefusal_18 19 rfl ?_
    obtain ⟨o3, ho3, hf⟩ := bnd hf
    refine v_callVi X (ci := 11) (T := TX12) (C := RX12) (As := [.int v2, .int 0, .int (x2 - 1)]) (rest := []) (ws' := (wX12 ad c9 m_undoable m_undoStart o3.2 m_inputLength m_position m_start m_token m_value m_letters m_code m_place m_outputLength m_s m_parsed m_tried m_remembered m_slots m_kept m_away m_input m_halfway m_output)) (c_X12_out l hG D c9 ad m_undoable m_undoStart o1.2 m_inputLength m_position m_start m_token m_value m_letters m_code m_place m_outputLength m_s m_parsed m_tried m_remembered m_slots m_kept m_away m_input m_halfway m_output v2 0 (x2 - 1) ho3) 3 gX12_referRefusal_X12_out rfl rfl rfl ⟨rfl, pd_X12_out⟩ ⟨Nat.le_of_ble_eq_true rfl, Nat.le_of_ble_eq_true rfl⟩ 0 rfl rfl rfl rfl (Nat.le_of_ble_eq_true rfl) ⟨Nat.zero_le _, Nat.zero_le _⟩ [0, 1, 2, 3, 4, 5, 6, 7, 8, 9, 10] [] [0, 1, 2, 3, 4, 5, 6, 7, 8, 9, 10] rfl rfl rfl rfl dX12_referRefusal_19 22 rfl ?_
    refine v_if_eq X (tgt := 27) dX12_referRefusal_22 rfl 25 rfl hf (fun hf => ?_) (fun hf => ?_)
    · refine v_aload_n X dX12_referRefusal_27 0 rfl rfl 28 rfl ?_
      refine v_get X (C := RX12) (T := TX12) (N := 22) (ci := 11) (v := _) dX12_referRefusal_28 k_X12_referRefusal_w12 0 rfl rfl 0 (by decide) k_X12_referRefusal_1 rfl rfl 31 rfl ?_
      refine v_aload_n X dX12_referRefusal_31 0 rfl rfl 32 rfl ?_
      refine v_get X (C := RX12) (T := TX12) (N := 22) (ci := 11) (v := _) dX12_referRefusal_32 k_X12_referRefusal_w12 0 rfl rfl 0 (by decide) k_X12_referRefusal_1 rfl rfl 35 rfl ?_
      refine v_iload_n X dX12_referRefusal_35 1 rfl rfl 36 rfl ?_
      obtain ⟨o4, ho4, hf⟩ := bnd hf
      refine v_callSi X (As := [.ref (ad 1), .int v1]) (rest := [.ref (ad 1)]) (ws' := (wX12 ad c9 m_undoable m_undoStart o3.2 m_inputLength m_position m_start m_token m_value m_letters m_code m_place m_outputLength m_s m_parsed m_tried m_remembered m_slots m_kept m_away m_input m_halfway m_output)) (c_X12_find l hG D c9 (ad 1) m_s v1 ho4) 2 gX12_referRefusal_X12_find rfl rfl rfl pd_X12_find ⟨Nat.le_of_ble_eq_true rfl, Nat.le_of_ble_eq_true rfl⟩ rfl rfl (Nat.le_of_ble_eq_true rfl) ⟨Nat.zero_le _, Nat.zero_le _⟩ [1] [0, 2, 3, 4, 5, 6, 7, 8, 9, 10] [0, 10, 1, 2, 3, 4, 5, 6, 7, 8, 9] rfl rfl rfl rfl dX12_referRefusal_36 39 rfl ?_
      refine v_iload_n X dX12_referRefusal_39 2 rfl rfl 40 rfl ?_
      obtain ⟨o5, ho5, hf⟩ := bnd hf
      refine v_callSi X (As := [.ref (ad 1), .int o4, .int v2]) (rest := []) (ws' := (wX12 ad c9 m_undoable m_undoStart o3.2 m_inputLength m_position m_start m_token m_value m_letters m_code m_place m_outputLength m_s m_parsed m_tried m_remembered m_slots m_kept m_away m_input m_halfway m_output)) (c_X12_whyNotRefer l hG D c9 (ad 1) m_s o4 v2 ho5) 3 gX12_referRefusal_X12_whyNotRefer rfl rfl rfl pd_X12_whyNotRefer ⟨Nat.le_of_ble_eq_true rfl, Nat.le_of_ble_eq_true rfl⟩ rfl rfl (Nat.le_of_ble_eq_true rfl) ⟨Nat.zero_le _, Nat.zero_le _⟩ [1] [0, 2, 3, 4, 5, 6, 7, 8, 9, 10] [0, 10, 1, 2, 3, 4, 5, 6, 7, 8, 9] rfl rfl rfl rfl dX12_referRefusal_40 43 rfl ?_
      cases hf
      exact v_iret X (Nat.zero_le _) (Nat.zero_le _) dX12_referRefusal_43
    · refine v_iconst X dX12_referRefusal_25 ic_0 26 rfl ?_
      cases hf
      exact v_iret X (Nat.zero_le _) (Nat.zero_le _) dX12_referRefusal_26
theorem pd_X12_referRefusal : yX12_referRefusal.cls ≠ "java/lang/invoke/MethodHandle" ∧ yX12_referRefusal.cls ≠ "java/lang/invoke/VarHandle" ∧ (parseMethodDescriptor yX12_referRefusal.desc).map (fun d => d.parameters.length) = some 2 := by decide +kernel
theorem k_X12_requestRefusal_w12 : ∀ w ∈ u_ws RX12 TX12 22, w ∈ wsX12_requestRefusal := in_r _ [52, 53, 54, 55, 56, 57, 58, 59, 60, 61, 62, 63, 64, 65, 66, 67, 68, 69, 70, 71, 72, 73] rfl
theorem k_X12_requestRefusal_1 : Cond.fieldLink RX12 7 "TicketGateModel" "s" "[I" ∈ wsX12_requestRefusal := List.mem_of_getElem? (i := 1) rfl
def f_X12_requestRefusal (m_thrown : Int32) (m_s : Nat → Int32) (v1 : Int32) (v2 : Int32) : Option (Int32 × Int32) :=
  (f_X12_noTicket m_thrown m_s v1).bind fun o1 =>
  if o1.1 = 0 then (
    (rd m_s 463 5).bind fun x2 =>
    (f_X12_out o1.2 v2 0 (x2 - 1)).bind fun o3 =>
    if o3.1 = 0 then (
      (f_X12_find m_s v1).bind fun o4 =>
      (f_X12_whyNotRequest m_s o4 v2).bind fun o5 =>
      some (o5, o3.2))
    else (
      some (0, o3.2)))
  else (
    some (0, o1.2))
set_option maxRecDepth 100000 in
set_option maxHeartbeats 4000000 in
theorem c_X12_requestRefusal (l : Launch) {G : (Nat → Prop) → State → Heap → Prop} (hG : vG G) (D : va_G) (c9 : Nat → ClassId) (ad : Nat → Nat) (m_undoable : Int32) (m_undoStart : Int32) (m_thrown : Int32) (m_inputLength : Int32) (m_position : Int32) (m_start : Int32) (m_token : Int32) (m_value : Int32) (m_letters : Int32) (m_code : Int32) (m_place : Int32) (m_outputLength : Int32) (m_s : Nat → Int32) (m_parsed : Nat → Int32) (m_tried : Nat → Int32) (m_remembered : Nat → Int32) (m_slots : Nat → Int32) (m_kept : Nat → Int32) (m_away : Nat → Int32) (m_input : Nat → Int32) (m_halfway : Nat → Int32) (m_output : Nat → Int32) (v1 : Int32) (v2 : Int32) {o : Int32 × Int32} (hf : f_X12_requestRefusal m_thrown m_s v1 v2 = some o) : mI l yX12_requestRefusal wsX12_requestRefusal { frames := 5, cells := 0, slots := 0, locals := 110 } G D (tyA c9) [.ref (ad 0), .int v1, .int v2] (wX12 ad c9 m_undoable m_undoStart m_thrown m_inputLength m_position m_start m_token m_value m_letters m_code m_place m_outputLength m_s m_parsed m_tried m_remembered m_slots m_kept m_away m_input m_halfway m_output) [] 0 0 o.1 (wX12 ad c9 m_undoable m_undoStart o.2 m_inputLength m_position m_start m_token m_value m_letters m_code m_place m_outputLength m_s m_parsed m_tried m_remembered m_slots m_kept m_away m_input m_halfway m_output) := by
  refine mI_of hG (cc := cX12_requestRefusal) (maxL := 3) (ty := .int) (by decide) rfl (Nat.le_of_ble_eq_true rfl) ?_
  intro p e s m args below meth c A X
  have X : vX p s m args meth c cX12_requestRefusal 3 (some .int) RX12 wsX12_requestRefusal D (tyA c9) G A := X
  refine v_eq (lv2 := [(0, .ref (ad 0)), (1, .int v1), (2, .int v2)]) rfl rfl rfl rfl ?_
  rw [f_X12_requestRefusal] at hf
  refine v_aload_n X dX12_requestRefusal_0 0 rfl rfl 1 rfl ?_
  refine v_iload_n X dX12_requestRefusal_1 1 rfl rfl 2 rfl ?_
  obtain ⟨o1, ho1, hf⟩ := bnd hf
  refine v_callVi X (ci := 11) (T := TX12) (C := RX12) (As := [.int v1]) (rest := []) (ws' := (wX12 ad c9 m_undoable m_undoStart o1.2 m_inputLength m_position m_start m_token m_value m_letters m_code m_place m_outputLength m_s m_parsed m_tried m_remembered m_slots m_kept m_away m_input m_halfway m_output)) (c_X12_noTicket l hG D c9 ad m_undoable m_undoStart m_thrown m_inputLength m_position m_start m_token m_value m_letters m_code m_place m_outputLength m_s m_parsed m_tried m_remembered m_slots m_kept m_away m_input m_halfway m_output v1 ho1) 1 gX12_requestRefusal_X12_noTicket rfl rfl rfl ⟨rfl, pd_X12_noTicket⟩ ⟨Nat.le_of_ble_eq_true rfl, Nat.le_of_ble_eq_true rfl⟩ 0 rfl rfl rfl rfl (Nat.le_of_ble_eq_true rfl) ⟨Nat.zero_le _, Nat.zero_le _⟩ [0, 1, 2, 3, 4, 5, 6, 7, 8, 9, 10] [] [0, 1, 2, 3, 4, 5, 6, 7, 8, 9, 10] rfl rfl rfl rfl dX12_requestRefusal_2 5 rfl ?_
  refine v_if_ne X (tgt := 25) dX12_requestRefusal_5 rfl 8 rfl hf (fun hf => ?_) (fun hf => ?_)
  · refine v_iconst X dX12_requestRefusal_25 ic_0 26 rfl ?_
    cases hf
    exact v_iret X (Nat.zero_le _) (Nat.zero_le _) dX12_requestRefusal_26
  · refine v_aload_n X dX12_requestRefusal_8 0 rfl rfl 9 rfl ?_
    refine v_iload_n X dX12_requestRefusal_9 2 rfl rfl 10 rfl ?_
    refine v_iconst X dX12_requestRefusal_10 ic_0 11 rfl ?_
    refine v_aload_n X dX12_requestRefusal_11 0 rfl rfl 12 rfl ?_
    refine v_get X (C := RX12) (T := TX12) (N := 22) (ci := 11) (v := _) dX12_requestRefusal_12 k_X12_requestRefusal_w12 0 rfl rfl 0 (by decide) k_X12_requestRefusal_1 rfl rfl 15 rfl ?_
    refine v_iconst X dX12_requestRefusal_15 ic_5 16 rfl ?_
    obtain ⟨x2, hx2, hf⟩ := bnd hf
    refine v_iald X dX12_requestRefusal_16 1 0 rfl rfl hx2 17 rfl ?_
    refine v_iconst X dX12_requestRefusal_17 ic_1 18 rfl ?_
    refine v_isub X dX12_requestRefusal_18 19 rfl ?_
    obtain ⟨o3, ho3, hf⟩ := bnd hf
    refine v_callVi X (ci := 11) (T := TX12) (C := RX12) (As := [.int v2, .int 0, .int (x2 - 1)]) (rest := []) (ws' := (wX12 ad c9 m_undoable m_undoStart o3.2 m_inputLength m_position m_start m_token m_value m_letters m_code m_place m_outputLength m_s m_parsed m_tried m_remembered m_slots m_kept m_away m_input m_halfway m_output)) (c_X12_out l hG D c9 ad m_undoable m_undoStart o1.2 m_inputLength m_position m_start m_token m_value m_letters m_code m_place m_outputLength m_s m_parsed m_tried m_remembered m_slots m_kept m_away m_input m_halfway m_output v2 0 (x2 - 1) ho3) 3 gX12_requestRefusal_X12_out rfl rfl rfl ⟨rfl, pd_X12_out⟩ ⟨Nat.le_of_ble_eq_true rfl, Nat.le_of_ble_eq_true rfl⟩ 0 rfl rfl rfl rfl (Nat.le_of_ble_eq_true rfl) ⟨Nat.zero_le _, Nat.zero_le _⟩ [0, 1, 2, 3, 4, 5, 6, 7, 8, 9, 10] [] [0, 1, 2, 3, 4, 5, 6, 7, 8, 9, 10] rfl rfl rfl rfl dX12_requestRefusal_19 22 rfl ?_
    refine v_if_eq X (tgt := 27) dX12_requestRefusal_22 rfl 25 rfl hf (fun hf => ?_) (fun hf => ?_)
    · refine v_aload_n X dX12_requestRefusal_27 0 rfl rfl 28 rfl ?_
      refine v_get X (C := RX12) (T := TX12) (N := 22) (ci := 11) (v := _) dX12_requestRefusal_28 k_X12_requestRefusal_w12 0 rfl rfl 0 (by decide) k_X12_requestRefusal_1 rfl rfl 31 rfl ?_
      refine v_aload_n X dX12_requestRefusal_31 0 rfl rfl 32 rfl ?_
      refine v_get X (C := RX12) (T := TX12) (N := 22) (ci := 11) (v := _) dX12_requestRefusal_32 k_X12_requestRefusal_w12 0 rfl rfl 0 (by decide) k_X12_requestRefusal_1 rfl rfl 35 rfl ?_
      refine v_iload_n X dX12_requestRefusal_35 1 rfl rfl 36 rfl ?_
      obtain ⟨o4, ho4, hf⟩ := bnd hf
      refine v_callSi X (As := [.ref (ad 1), .int v1]) (rest := [.ref (ad 1)]) (ws' := (wX12 ad c9 m_undoable m_undoStart o3.2 m_inputLength m_position m_start m_token m_value m_letters m_code m_place m_outputLength m_s m_parsed m_tried m_remembered m_slots m_kept m_away m_input m_halfway m_output)) (c_X12_find l hG D c9 (ad 1) m_s v1 ho4) 2 gX12_requestRefusal_X12_find rfl rfl rfl pd_X12_find ⟨Nat.le_of_ble_eq_true rfl, Nat.le_of_ble_eq_true rfl⟩ rfl rfl (Nat.le_of_ble_eq_true rfl) ⟨Nat.zero_le _, Nat.zero_le _⟩ [1] [0, 2, 3, 4, 5, 6, 7, 8, 9, 10] [0, 10, 1, 2, 3, 4, 5, 6, 7, 8, 9] rfl rfl rfl rfl dX12_requestRefusal_36 39 rfl ?_
      refine v_iload_n X dX12_requestRefusal_39 2 rfl rfl 40 rfl ?_
      obtain ⟨o5, ho5, hf⟩ := bnd hf
      refine v_callSi X (As := [.ref (ad 1), .int o4, .int v2]) (rest := []) (ws' := (wX12 ad c9 m_undoable m_undoStart o3.2 m_inputLength m_position m_start m_token m_value m_letters m_code m_place m_outputLength m_s m_parsed m_tried m_remembered m_slots m_kept m_away m_input m_halfway m_output)) (c_X12_whyNotRequest l hG D c9 (ad 1) m_s o4 v2 ho5) 3 gX12_requestRefusal_X12_whyNotRequest rfl rfl rfl pd_X12_whyNotRequest ⟨Nat.le_of_ble_eq_true rfl, Nat.le_of_ble_eq_true rfl⟩ rfl rfl (Nat.le_of_ble_eq_true rfl) ⟨Nat.zero_le _, Nat.zero_le _⟩ [1] [0, 2, 3, 4, 5, 6, 7, 8, 9, 10] [0, 10, 1, 2, 3, 4, 5, 6, 7, 8, 9] rfl rfl rfl rfl dX12_requestRefusal_40 43 rfl ?_
      cases hf
      exact v_iret X (Nat.zero_le _) (Nat.zero_le _) dX12_requestRefusal_43
    · refine v_iconst X dX12_requestRefusal_25 ic_0 26 rfl ?_
      cases hf
      exact v_iret X (Nat.zero_le _) (Nat.zero_le _) dX12_requestRefusal_26
theorem pd_X12_requestRefusal : yX12_requestRefusal.cls ≠ "java/lang/invoke/MethodHandle" ∧ yX12_requestRefusal.cls ≠ "java/lang/invoke/VarHandle" ∧ (parseMethodDescriptor yX12_requestRefusal.desc).map (fun d => d.parameters.length) = some 2 := by decide +kernel
theorem k_X12_renewRefusal_w12 : ∀ w ∈ u_ws RX12 TX12 22, w ∈ wsX12_renewRefusal := in_r _ [33, 34, 35, 36, 37, 38, 39, 40, 41, 42, 43, 44, 45, 46, 47, 48, 49, 50, 51, 52, 53, 54] rfl
theorem k_X12_renewRefusal_1 : Cond.fieldLink RX12 7 "TicketGateModel" "s" "[I" ∈ wsX12_renewRefusal := List.mem_of_getElem? (i := 1) rfl
def f_X12_renewRefusal (m_thrown : Int32) (m_s : Nat → Int32) (v1 : Int32) : Option (Int32 × Int32) :=
  (f_X12_noTicket m_thrown m_s v1).bind fun o1 =>
  if o1.1 = 0 then (
    (f_X12_find m_s v1).bind fun o2 =>
    (f_X12_whyNotRenew m_s o2).bind fun o3 =>
    some (o3, o1.2))
  else (
    some (0, o1.2))
set_option maxRecDepth 100000 in
set_option maxHeartbeats 4000000 in
theorem c_X12_renewRefusal (l : Launch) {G : (Nat → Prop) → State → Heap → Prop} (hG : vG G) (D : va_G) (c9 : Nat → ClassId) (ad : Nat → Nat) (m_undoable : Int32) (m_undoStart : Int32) (m_thrown : Int32) (m_inputLength : Int32) (m_position : Int32) (m_start : Int32) (m_token : Int32) (m_value : Int32) (m_letters : Int32) (m_code : Int32) (m_place : Int32) (m_outputLength : Int32) (m_s : Nat → Int32) (m_parsed : Nat → Int32) (m_tried : Nat → Int32) (m_remembered : Nat → Int32) (m_slots : Nat → Int32) (m_kept : Nat → Int32) (m_away : Nat → Int32) (m_input : Nat → Int32) (m_halfway : Nat → Int32) (m_output : Nat → Int32) (v1 : Int32) {o : Int32 × Int32} (hf : f_X12_renewRefusal m_thrown m_s v1 = some o) : mI l yX12_renewRefusal wsX12_renewRefusal { frames := 3, cells := 0, slots := 0, locals := 65 } G D (tyA c9) [.ref (ad 0), .int v1] (wX12 ad c9 m_undoable m_undoStart m_thrown m_inputLength m_position m_start m_token m_value m_letters m_code m_place m_outputLength m_s m_parsed m_tried m_remembered m_slots m_kept m_away m_input m_halfway m_output) [] 0 0 o.1 (wX12 ad c9 m_undoable m_undoStart o.2 m_inputLength m_position m_start m_token m_value m_letters m_code m_place m_outputLength m_s m_parsed m_tried m_remembered m_slots m_kept m_away m_input m_halfway m_output) := by
  refine mI_of hG (cc := cX12_renewRefusal) (maxL := 2) (ty := .int) (by decide) rfl (Nat.le_of_ble_eq_true rfl) ?_
  intro p e s m args below meth c A X
  have X : vX p s m args meth c cX12_renewRefusal 2 (some .int) RX12 wsX12_renewRefusal D (tyA c9) G A := X
  refine v_eq (lv2 := [(0, .ref (ad 0)), (1, .int v1)]) rfl rfl rfl rfl ?_
  rw [f_X12_renewRefusal] at hf
  refine v_aload_n X dX12_renewRefusal_0 0 rfl rfl 1 rfl ?_
  refine v_iload_n X dX12_renewRefusal_1 1 rfl rfl 2 rfl ?_
  obtain ⟨o1, ho1, hf⟩ := bnd hf
  refine v_callVi X (ci := 11) (T := TX12) (C := RX12) (As := [.int v1]) (rest := []) (ws' := (wX12 ad c9 m_undoable m_undoStart o1.2 m_inputLength m_position m_start m_token m_value m_letters m_code m_place m_outputLength m_s m_parsed m_tried m_remembered m_slots m_kept m_away m_input m_halfway m_output)) (c_X12_noTicket l hG D c9 ad m_undoable m_undoStart m_thrown m_inputLength m_position m_start m_token m_value m_letters m_code m_place m_outputLength m_s m_parsed m_tried m_remembered m_slots m_kept m_away m_input m_halfway m_output v1 ho1) 1 gX12_renewRefusal_X12_noTicket rfl rfl rfl ⟨rfl, pd_X12_noTicket⟩ ⟨Nat.le_of_ble_eq_true rfl, Nat.le_of_ble_eq_true rfl⟩ 0 rfl rfl rfl rfl (Nat.le_of_ble_eq_true rfl) ⟨Nat.zero_le _, Nat.zero_le _⟩ [0, 1, 2, 3, 4, 5, 6, 7, 8, 9, 10] [] [0, 1, 2, 3, 4, 5, 6, 7, 8, 9, 10] rfl rfl rfl rfl dX12_renewRefusal_2 5 rfl ?_
  refine v_if_eq X (tgt := 10) dX12_renewRefusal_5 rfl 8 rfl hf (fun hf => ?_) (fun hf => ?_)
  · refine v_aload_n X dX12_renewRefusal_10 0 rfl rfl 11 rfl ?_
    refine v_get X (C := RX12) (T := TX12) (N := 22) (ci := 11) (v := _) dX12_renewRefusal_11 k_X12_renewRefusal_w12 0 rfl rfl 0 (by decide) k_X12_renewRefusal_1 rfl rfl 14 rfl ?_
    refine v_aload_n X dX12_renewRefusal_14 0 rfl rfl 15 rfl ?_
    refine v_get X (C := RX12) (T := TX12) (N := 22) (ci := 11) (v := _) dX12_renewRefusal_15 k_X12_renewRefusal_w12 0 rfl rfl 0 (by decide) k_X12_renewRefusal_1 rfl rfl 18 rfl ?_
    refine v_iload_n X dX12_renewRefusal_18 1 rfl rfl 19 rfl ?_
    obtain ⟨o2, ho2, hf⟩ := bnd hf
    refine v_callSi X (As := [.ref (ad 1), .int v1]) (rest := [.ref (ad 1)]) (ws' := (wX12 ad c9 m_undoable m_undoStart o1.2 m_inputLength m_position m_start m_token m_value m_letters m_code m_place m_outputLength m_s m_parsed m_tried m_remembered m_slots m_kept m_away m_input m_halfway m_output)) (c_X12_find l hG D c9 (ad 1) m_s v1 ho2) 2 gX12_renewRefusal_X12_find rfl rfl rfl pd_X12_find ⟨Nat.le_of_ble_eq_true rfl, Nat.le_of_ble_eq_true rfl⟩ rfl rfl (Nat.le_of_ble_eq_true rfl) ⟨Nat.zero_le _, Nat.zero_le _⟩ [1] [0, 2, 3, 4, 5, 6, 7, 8, 9, 10] [0, 10, 1, 2, 3, 4, 5, 6, 7, 8, 9] rfl rfl rfl rfl dX12_renewRefusal_19 22 rfl ?_
    obtain ⟨o3, ho3, hf⟩ := bnd hf
    refine v_callSi X (As := [.ref (ad 1), .int o2]) (rest := []) (ws' := (wX12 ad c9 m_undoable m_undoStart o1.2 m_inputLength m_position m_start m_token m_value m_letters m_code m_place m_outputLength m_s m_parsed m_tried m_remembered m_slots m_kept m_away m_input m_halfway m_output)) (c_X12_whyNotRenew l hG D c9 (ad 1) m_s o2 ho3) 2 gX12_renewRefusal_X12_whyNotRenew rfl rfl rfl pd_X12_whyNotRenew ⟨Nat.le_of_ble_eq_true rfl, Nat.le_of_ble_eq_true rfl⟩ rfl rfl (Nat.le_of_ble_eq_true rfl) ⟨Nat.zero_le _, Nat.zero_le _⟩ [1] [0, 2, 3, 4, 5, 6, 7, 8, 9, 10] [0, 10, 1, 2, 3, 4, 5, 6, 7, 8, 9] rfl rfl rfl rfl dX12_renewRefusal_22 25 rfl ?_
    cases hf
    exact v_iret X (Nat.zero_le _) (Nat.zero_le _) dX12_renewRefusal_25
  · refine v_iconst X dX12_renewRefusal_8 ic_0 9 rfl ?_
    cases hf
    exact v_iret X (Nat.zero_le _) (Nat.zero_le _) dX12_renewRefusal_9
theorem pd_X12_renewRefusal : yX12_renewRefusal.cls ≠ "java/lang/invoke/MethodHandle" ∧ yX12_renewRefusal.cls ≠ "java/lang/invoke/VarHandle" ∧ (parseMethodDescriptor yX12_renewRefusal.desc).map (fun d => d.parameters.length) = some 1 := by decide +kernel
theorem k_X12_cheeseRefusal_w12 : ∀ w ∈ u_ws RX12 TX12 22, w ∈ wsX12_cheeseRefusal := in_r _ [45, 46, 47, 48, 49, 50, 51, 52, 53, 54, 55, 56, 57, 58, 59, 60, 61, 62, 63, 64, 65, 66] rfl
theorem k_X12_cheeseRefusal_1 : Cond.fieldLink RX12 7 "TicketGateModel" "s" "[I" ∈ wsX12_cheeseRefusal := List.mem_of_getElem? (i := 1) rfl
def f_X12_cheeseRefusal (m_thrown : Int32) (m_s : Nat → Int32) (v1 : Int32) : Option (Int32 × Int32) :=
  (f_X12_noTicket m_thrown m_s v1).bind fun o1 =>
  if o1.1 = 0 then (
    (f_X12_find m_s v1).bind fun o2 =>
    (f_X12_whyNotCheese m_s o2).bind fun o3 =>
    some (o3, o1.2))
  else (
    some (0, o1.2))
set_option maxRecDepth 100000 in
set_option maxHeartbeats 4000000 in
theorem c_X12_cheeseRefusal (l : Launch) {G : (Nat → Prop) → State → Heap → Prop} (hG : vG G) (D : va_G) (c9 : Nat → ClassId) (ad : Nat → Nat) (m_undoable : Int32) (m_undoStart : Int32) (m_thrown : Int32) (m_inputLength : Int32) (m_position : Int32) (m_start : Int32) (m_token : Int32) (m_value : Int32) (m_letters : Int32) (m_code : Int32) (m_place : Int32) (m_outputLength : Int32) (m_s : Nat → Int32) (m_parsed : Nat → Int32) (m_tried : Nat → Int32) (m_remembered : Nat → Int32) (m_slots : Nat → Int32) (m_kept : Nat → Int32) (m_away : Nat → Int32) (m_input : Nat → Int32) (m_halfway : Nat → Int32) (m_output : Nat → Int32) (v1 : Int32) {o : Int32 × Int32} (hf : f_X12_cheeseRefusal m_thrown m_s v1 = some o) : mI l yX12_cheeseRefusal wsX12_cheeseRefusal { frames := 4, cells := 0, slots := 0, locals := 87 } G D (tyA c9) [.ref (ad 0), .int v1] (wX12 ad c9 m_undoable m_undoStart m_thrown m_inputLength m_position m_start m_token m_value m_letters m_code m_place m_outputLength m_s m_parsed m_tried m_remembered m_slots m_kept m_away m_input m_halfway m_output) [] 0 0 o.1 (wX12 ad c9 m_undoable m_undoStart o.2 m_inputLength m_position m_start m_token m_value m_letters m_code m_place m_outputLength m_s m_parsed m_tried m_remembered m_slots m_kept m_away m_input m_halfway m_output) := by
  refine mI_of hG (cc := cX12_cheeseRefusal) (maxL := 2) (ty := .int) (by decide) rfl (Nat.le_of_ble_eq_true rfl) ?_
  intro p e s m args below meth c A X
  have X : vX p s m args meth c cX12_cheeseRefusal 2 (some .int) RX12 wsX12_cheeseRefusal D (tyA c9) G A := X
  refine v_eq (lv2 := [(0, .ref (ad 0)), (1, .int v1)]) rfl rfl rfl rfl ?_
  rw [f_X12_cheeseRefusal] at hf
  refine v_aload_n X dX12_cheeseRefusal_0 0 rfl rfl 1 rfl ?_
  refine v_iload_n X dX12_cheeseRefusal_1 1 rfl rfl 2 rfl ?_
  obtain ⟨o1, ho1, hf⟩ := bnd hf
  refine v_callVi X (ci := 11) (T := TX12) (C := RX12) (As := [.int v1]) (rest := []) (ws' := (wX12 ad c9 m_undoable m_undoStart o1.2 m_inputLength m_position m_start m_token m_value m_letters m_code m_place m_outputLength m_s m_parsed m_tried m_remembered m_slots m_kept m_away m_input m_halfway m_output)) (c_X12_noTicket l hG D c9 ad m_undoable m_undoStart m_thrown m_inputLength m_position m_start m_token m_value m_letters m_code m_place m_outputLength m_s m_parsed m_tried m_remembered m_slots m_kept m_away m_input m_halfway m_output v1 ho1) 1 gX12_cheeseRefusal_X12_noTicket rfl rfl rfl ⟨rfl, pd_X12_noTicket⟩ ⟨Nat.le_of_ble_eq_true rfl, Nat.le_of_ble_eq_true rfl⟩ 0 rfl rfl rfl rfl (Nat.le_of_ble_eq_true rfl) ⟨Nat.zero_le _, Nat.zero_le _⟩ [0, 1, 2, 3, 4, 5, 6, 7, 8, 9, 10] [] [0, 1, 2, 3, 4, 5, 6, 7, 8, 9, 10] rfl rfl rfl rfl dX12_cheeseRefusal_2 5 rfl ?_
  refine v_if_eq X (tgt := 10) dX12_cheeseRefusal_5 rfl 8 rfl hf (fun hf => ?_) (fun hf => ?_)
  · refine v_aload_n X dX12_cheeseRefusal_10 0 rfl rfl 11 rfl ?_
    refine v_get X (C := RX12) (T := TX12) (N := 22) (ci := 11) (v := _) dX12_cheeseRefusal_11 k_X12_cheeseRefusal_w12 0 rfl rfl 0 (by decide) k_X12_cheeseRefusal_1 rfl rfl 14 rfl ?_
    refine v_aload_n X dX12_cheeseRefusal_14 0 rfl rfl 15 rfl ?_
    refine v_get X (C := RX12) (T := TX12) (N := 22) (ci := 11) (v := _) dX12_cheeseRefusal_15 k_X12_cheeseRefusal_w12 0 rfl rfl 0 (by decide) k_X12_cheeseRefusal_1 rfl rfl 18 rfl ?_
    refine v_iload_n X dX12_cheeseRefusal_18 1 rfl rfl 19 rfl ?_
    obtain ⟨o2, ho2, hf⟩ := bnd hf
    refine v_callSi X (As := [.ref (ad 1), .int v1]) (rest := [.ref (ad 1)]) (ws' := (wX12 ad c9 m_undoable m_undoStart o1.2 m_inputLength m_position m_start m_token m_value m_letters m_code m_place m_outputLength m_s m_parsed m_tried m_remembered m_slots m_kept m_away m_input m_halfway m_output)) (c_X12_find l hG D c9 (ad 1) m_s v1 ho2) 2 gX12_cheeseRefusal_X12_find rfl rfl rfl pd_X12_find ⟨Nat.le_of_ble_eq_true rfl, Nat.le_of_ble_eq_true rfl⟩ rfl rfl (Nat.le_of_ble_eq_true rfl) ⟨Nat.zero_le _, Nat.zero_le _⟩ [1] [0, 2, 3, 4, 5, 6, 7, 8, 9, 10] [0, 10, 1, 2, 3, 4, 5, 6, 7, 8, 9] rfl rfl rfl rfl dX12_cheeseRefusal_19 22 rfl ?_
    obtain ⟨o3, ho3, hf⟩ := bnd hf
    refine v_callSi X (As := [.ref (ad 1), .int o2]) (rest := []) (ws' := (wX12 ad c9 m_undoable m_undoStart o1.2 m_inputLength m_position m_start m_token m_value m_letters m_code m_place m_outputLength m_s m_parsed m_tried m_remembered m_slots m_kept m_away m_input m_halfway m_output)) (c_X12_whyNotCheese l hG D c9 (ad 1) m_s o2 ho3) 2 gX12_cheeseRefusal_X12_whyNotCheese rfl rfl rfl pd_X12_whyNotCheese ⟨Nat.le_of_ble_eq_true rfl, Nat.le_of_ble_eq_true rfl⟩ rfl rfl (Nat.le_of_ble_eq_true rfl) ⟨Nat.zero_le _, Nat.zero_le _⟩ [1] [0, 2, 3, 4, 5, 6, 7, 8, 9, 10] [0, 10, 1, 2, 3, 4, 5, 6, 7, 8, 9] rfl rfl rfl rfl dX12_cheeseRefusal_22 25 rfl ?_
    cases hf
    exact v_iret X (Nat.zero_le _) (Nat.zero_le _) dX12_cheeseRefusal_25
  · refine v_iconst X dX12_cheeseRefusal_8 ic_0 9 rfl ?_
    cases hf
    exact v_iret X (Nat.zero_le _) (Nat.zero_le _) dX12_cheeseRefusal_9
theorem pd_X12_cheeseRefusal : yX12_cheeseRefusal.cls ≠ "java/lang/invoke/MethodHandle" ∧ yX12_cheeseRefusal.cls ≠ "java/lang/invoke/VarHandle" ∧ (parseMethodDescriptor yX12_cheeseRefusal.desc).map (fun d => d.parameters.length) = some 1 := by decide +kernel
theorem k_X12_validTickets_w12 : ∀ w ∈ u_ws RX12 TX12 22, w ∈ wsX12_validTickets := in_r _ [13, 14, 15, 16, 17, 18, 19, 20, 21, 22, 23, 24, 25, 26, 27, 28, 29, 30, 31, 32, 33, 34] rfl
theorem k_X12_validTickets_1 : Cond.fieldLink RX12 72 "TicketGateModel" "thrown" "I" ∈ wsX12_validTickets := List.mem_of_getElem? (i := 1) rfl
theorem k_X12_validTickets_2 : Cond.fieldLink RX12 7 "TicketGateModel" "s" "[I" ∈ wsX12_validTickets := List.mem_of_getElem? (i := 2) rfl
def f_X12_validTickets (m_thrown : Int32) (m_s : Nat → Int32) : Option (Int32 × Int32) :=
  (f_X12_living m_s).bind fun o1 =>
  some (o1, 0)
set_option maxRecDepth 100000 in
set_option maxHeartbeats 4000000 in
theorem c_X12_validTickets (l : Launch) {G : (Nat → Prop) → State → Heap → Prop} (hG : vG G) (D : va_G) (c9 : Nat → ClassId) (ad : Nat → Nat) (m_undoable : Int32) (m_undoStart : Int32) (m_thrown : Int32) (m_inputLength : Int32) (m_position : Int32) (m_start : Int32) (m_token : Int32) (m_value : Int32) (m_letters : Int32) (m_code : Int32) (m_place : Int32) (m_outputLength : Int32) (m_s : Nat → Int32) (m_parsed : Nat → Int32) (m_tried : Nat → Int32) (m_remembered : Nat → Int32) (m_slots : Nat → Int32) (m_kept : Nat → Int32) (m_away : Nat → Int32) (m_input : Nat → Int32) (m_halfway : Nat → Int32) (m_output : Nat → Int32)  {o : Int32 × Int32} (hf : f_X12_validTickets m_thrown m_s = some o) : mI l yX12_validTickets wsX12_validTickets { frames := 3, cells := 0, slots := 0, locals := 63 } G D (tyA c9) [.ref (ad 0)] (wX12 ad c9 m_undoable m_undoStart m_thrown m_inputLength m_position m_start m_token m_value m_letters m_code m_place m_outputLength m_s m_parsed m_tried m_remembered m_slots m_kept m_away m_input m_halfway m_output) [] 0 0 o.1 (wX12 ad c9 m_undoable m_undoStart o.2 m_inputLength m_position m_start m_token m_value m_letters m_code m_place m_outputLength m_s m_parsed m_tried m_remembered m_slots m_kept m_away m_input m_halfway m_output) := by
  refine mI_of hG (cc := cX12_validTickets) (maxL := 1) (ty := .int) (by decide) rfl (Nat.le_of_ble_eq_true rfl) ?_
  intro p e s m args below meth c A X
  have X : vX p s m args meth c cX12_validTickets 1 (some .int) RX12 wsX12_validTickets D (tyA c9) G A := X
  refine v_eq (lv2 := [(0, .ref (ad 0))]) rfl rfl rfl rfl ?_
  rw [f_X12_validTickets] at hf
  refine v_aload_n X dX12_validTickets_0 0 rfl rfl 1 rfl ?_
  refine v_iconst X dX12_validTickets_1 ic_0 2 rfl ?_
  refine v_put X (C := RX12) (T := TX12) (N := 22) (ci := 11) (ty := tyX12 8) (ws' := (wX12 ad c9 m_undoable m_undoStart 0 m_inputLength m_position m_start m_token m_value m_letters m_code m_place m_outputLength m_s m_parsed m_tried m_remembered m_slots m_kept m_away m_input m_halfway m_output)) dX12_validTickets_2 k_X12_validTickets_w12 0 rfl rfl 8 (by decide) tyX12 tyX12_ok nmX12 k_X12_validTickets_1 rfl rfl (tyX12_ok 8 (by decide)) rfl rfl (by decide) rfl 5 rfl ?_
  refine v_aload_n X dX12_validTickets_5 0 rfl rfl 6 rfl ?_
  refine v_get X (C := RX12) (T := TX12) (N := 22) (ci := 11) (v := _) dX12_validTickets_6 k_X12_validTickets_w12 0 rfl rfl 0 (by decide) k_X12_validTickets_2 rfl rfl 9 rfl ?_
  obtain ⟨o1, ho1, hf⟩ := bnd hf
  refine v_callSi X (As := [.ref (ad 1)]) (rest := []) (ws' := (wX12 ad c9 m_undoable m_undoStart 0 m_inputLength m_position m_start m_token m_value m_letters m_code m_place m_outputLength m_s m_parsed m_tried m_remembered m_slots m_kept m_away m_input m_halfway m_output)) (c_X12_living l hG D c9 (ad 1) m_s ho1) 1 gX12_validTickets_X12_living rfl rfl rfl pd_X12_living ⟨Nat.le_of_ble_eq_true rfl, Nat.le_of_ble_eq_true rfl⟩ rfl rfl (Nat.le_of_ble_eq_true rfl) ⟨Nat.zero_le _, Nat.zero_le _⟩ [1] [0, 2, 3, 4, 5, 6, 7, 8, 9, 10] [0, 10, 1, 2, 3, 4, 5, 6, 7, 8, 9] rfl rfl rfl rfl dX12_validTickets_9 12 rfl ?_
  cases hf
  exact v_iret X (Nat.zero_le _) (Nat.zero_le _) dX12_validTickets_12
theorem pd_X12_validTickets : yX12_validTickets.cls ≠ "java/lang/invoke/MethodHandle" ∧ yX12_validTickets.cls ≠ "java/lang/invoke/VarHandle" ∧ (parseMethodDescriptor yX12_validTickets.desc).map (fun d => d.parameters.length) = some 0 := by decide +kernel
theorem k_X12_validAfter_w12 : ∀ w ∈ u_ws RX12 TX12 22, w ∈ wsX12_validAfter := in_r _ [28, 29, 30, 31, 32, 33, 34, 35, 36, 37, 38, 39, 40, 41, 42, 43, 44, 45, 46, 47, 48, 49] rfl
theorem k_X12_validAfter_1 : Cond.fieldLink RX12 7 "TicketGateModel" "s" "[I" ∈ wsX12_validAfter := List.mem_of_getElem? (i := 1) rfl
theorem k_X12_validAfter_2 : Cond.fieldLink RX12 16 "TicketGateModel" "tried" "[I" ∈ wsX12_validAfter := List.mem_of_getElem? (i := 2) rfl
def f_X12_validAfter (m_thrown : Int32) (m_s : Nat → Int32) (m_tried : Nat → Int32) (v1 : Int32) : Option (Int32 × Int32 × (Nat → Int32)) :=
  (f_X12_noNumber m_thrown v1 0 999).bind fun o1 =>
  if o1.1 = 0 then (
    (f_X12_copyRow 463 463 m_s m_tried 0 0).bind fun o2 =>
    (rd o2 463 0).bind fun x3 =>
    (wr o2 463 0 (x3 + v1)).bind fun g4 =>
    (f_X12_living g4).bind fun o5 =>
    some (o5, o1.2, g4))
  else (
    some (0, o1.2, m_tried))
set_option maxRecDepth 100000 in
set_option maxHeartbeats 4000000 in
theorem c_X12_validAfter (l : Launch) {G : (Nat → Prop) → State → Heap → Prop} (hG : vG G) (D : va_G) (c9 : Nat → ClassId) (ad : Nat → Nat) (m_undoable : Int32) (m_undoStart : Int32) (m_thrown : Int32) (m_inputLength : Int32) (m_position : Int32) (m_start : Int32) (m_token : Int32) (m_value : Int32) (m_letters : Int32) (m_code : Int32) (m_place : Int32) (m_outputLength : Int32) (m_s : Nat → Int32) (m_parsed : Nat → Int32) (m_tried : Nat → Int32) (m_remembered : Nat → Int32) (m_slots : Nat → Int32) (m_kept : Nat → Int32) (m_away : Nat → Int32) (m_input : Nat → Int32) (m_halfway : Nat → Int32) (m_output : Nat → Int32) (v1 : Int32) {o : Int32 × Int32 × (Nat → Int32)} (hf : f_X12_validAfter m_thrown m_s m_tried v1 = some o) : mI l yX12_validAfter wsX12_validAfter { frames := 3, cells := 0, slots := 0, locals := 63 } G D (tyA c9) [.ref (ad 0), .int v1] (wX12 ad c9 m_undoable m_undoStart m_thrown m_inputLength m_position m_start m_token m_value m_letters m_code m_place m_outputLength m_s m_parsed m_tried m_remembered m_slots m_kept m_away m_input m_halfway m_output) [] 0 0 o.1 (wX12 ad c9 m_undoable m_undoStart o.2.1 m_inputLength m_position m_start m_token m_value m_letters m_code m_place m_outputLength m_s m_parsed o.2.2 m_remembered m_slots m_kept m_away m_input m_halfway m_output) := by
  refine mI_of hG (cc := cX12_validAfter) (maxL := 2) (ty := .int) (by decide) rfl (Nat.le_of_ble_eq_true rfl) ?_
  intro p e s m args below meth c A X
  have X : vX p s m args meth c cX12_validAfter 2 (some .int) RX12 wsX12_validAfter D (tyA c9) G A := X
  refine v_eq (lv2 := [(0, .ref (ad 0)), (1, .int v1)]) rfl rfl rfl rfl ?_
  rw [f_X12_validAfter] at hf
  refine v_aload_n X dX12_validAfter_0 0 rfl rfl 1 rfl ?_
  refine v_iload_n X dX12_validAfter_1 1 rfl rfl 2 rfl ?_
  refine v_iconst X dX12_validAfter_2 ic_0 3 rfl ?_
  refine v_sipush X dX12_validAfter_3 sp_999 6 rfl ?_
  obtain ⟨o1, ho1, hf⟩ := bnd hf
  refine v_callVi X (ci := 11) (T := TX12) (C := RX12) (As := [.int v1, .int 0, .int 999]) (rest := []) (ws' := (wX12 ad c9 m_undoable m_undoStart o1.2 m_inputLength m_position m_start m_token m_value m_letters m_code m_place m_outputLength m_s m_parsed m_tried m_remembered m_slots m_kept m_away m_input m_halfway m_output)) (c_X12_noNumber l hG D c9 ad m_undoable m_undoStart m_thrown m_inputLength m_position m_start m_token m_value m_letters m_code m_place m_outputLength m_s m_parsed m_tried m_remembered m_slots m_kept m_away m_input m_halfway m_output v1 0 999 ho1) 3 gX12_validAfter_X12_noNumber rfl rfl rfl ⟨rfl, pd_X12_noNumber⟩ ⟨Nat.le_of_ble_eq_true rfl, Nat.le_of_ble_eq_true rfl⟩ 0 rfl rfl rfl rfl (Nat.le_of_ble_eq_true rfl) ⟨Nat.zero_le _, Nat.zero_le _⟩ [0, 1, 2, 3, 4, 5, 6, 7, 8, 9, 10] [] [0, 1, 2, 3, 4, 5, 6, 7, 8, 9, 10] rfl rfl rfl rfl dX12_validAfter_6 9 rfl ?_
  refine v_if_eq X (tgt := 14) dX12_validAfter_9 rfl 12 rfl hf (fun hf => ?_) (fun hf => ?_)
  · refine v_aload_n X dX12_validAfter_14 0 rfl rfl 15 rfl ?_
    refine v_get X (C := RX12) (T := TX12) (N := 22) (ci := 11) (v := _) dX12_validAfter_15 k_X12_validAfter_w12 0 rfl rfl 0 (by decide) k_X12_validAfter_1 rfl rfl 18 rfl ?_
    refine v_iconst X dX12_validAfter_18 ic_0 19 rfl ?_
    refine v_aload_n X dX12_validAfter_19 0 rfl rfl 20 rfl ?_
    refine v_get X (C := RX12) (T := TX12) (N := 22) (ci := 11) (v := _) dX12_validAfter_20 k_X12_validAfter_w12 0 rfl rfl 2 (by decide) k_X12_validAfter_2 rfl rfl 23 rfl ?_
    refine v_iconst X dX12_validAfter_23 ic_0 24 rfl ?_
    obtain ⟨o2, ho2, hf⟩ := bnd hf
    refine v_callSv X (As := [.ref (ad 1), .int 0, .ref (ad 3), .int 0]) (rest := []) (ws' := (wX12 ad c9 m_undoable m_undoStart o1.2 m_inputLength m_position m_start m_token m_value m_letters m_code m_place m_outputLength m_s m_parsed o2 m_remembered m_slots m_kept m_away m_input m_halfway m_output)) (c_X12_copyRow l hG D c9 (ad 1) (ad 3) 463 463 m_s m_tried 0 0 ho2) 4 gX12_validAfter_X12_copyRow rfl rfl rfl pd_X12_copyRow ⟨Nat.le_of_ble_eq_true rfl, Nat.le_of_ble_eq_true rfl⟩ rfl rfl (Nat.le_of_ble_eq_true rfl) ⟨Nat.zero_le _, Nat.zero_le _⟩ [1, 3] [0, 2, 4, 5, 6, 7, 8, 9, 10] [0, 9, 1, 10, 2, 3, 4, 5, 6, 7, 8] rfl rfl rfl rfl dX12_validAfter_24 27 rfl ?_
    refine v_aload_n X dX12_validAfter_27 0 rfl rfl 28 rfl ?_
    refine v_get X (C := RX12) (T := TX12) (N := 22) (ci := 11) (v := _) dX12_validAfter_28 k_X12_validAfter_w12 0 rfl rfl 2 (by decide) k_X12_validAfter_2 rfl rfl 31 rfl ?_
    refine v_iconst X dX12_validAfter_31 ic_0 32 rfl ?_
    refine v_dup2 X dX12_validAfter_32 rfl rfl 33 rfl ?_
    obtain ⟨x3, hx3, hf⟩ := bnd hf
    refine v_iald X dX12_validAfter_33 3 0 rfl rfl hx3 34 rfl ?_
    refine v_iload_n X dX12_validAfter_34 1 rfl rfl 35 rfl ?_
    refine v_iadd X dX12_validAfter_35 36 rfl ?_
    obtain ⟨g4, hg4, hf⟩ := bnd hf
    refine v_iast X (ws' := (wX12 ad c9 m_undoable m_undoStart o1.2 m_inputLength m_position m_start m_token m_value m_letters m_code m_place m_outputLength m_s m_parsed g4 m_remembered m_slots m_kept m_away m_input m_halfway m_output)) dX12_validAfter_36 3 0 rfl rfl hg4 rfl 37 rfl ?_
    refine v_aload_n X dX12_validAfter_37 0 rfl rfl 38 rfl ?_
    refine v_get X (C := RX12) (T := TX12) (N := 22) (ci := 11) (v := _) dX12_validAfter_38 k_X12_validAfter_w12 0 rfl rfl 2 (by decide) k_X12_validAfter_2 rfl rfl 41 rfl ?_
    obtain ⟨o5, ho5, hf⟩ := bnd hf
    refine v_callSi X (As := [.ref (ad 3)]) (rest := []) (ws' := (wX12 ad c9 m_undoable m_undoStart o1.2 m_inputLength m_position m_start m_token m_value m_letters m_code m_place m_outputLength m_s m_parsed g4 m_remembered m_slots m_kept m_away m_input m_halfway m_output)) (c_X12_living l hG D c9 (ad 3) g4 ho5) 1 gX12_validAfter_X12_living rfl rfl rfl pd_X12_living ⟨Nat.le_of_ble_eq_true rfl, Nat.le_of_ble_eq_true rfl⟩ rfl rfl (Nat.le_of_ble_eq_true rfl) ⟨Nat.zero_le _, Nat.zero_le _⟩ [3] [0, 1, 2, 4, 5, 6, 7, 8, 9, 10] [0, 1, 2, 10, 3, 4, 5, 6, 7, 8, 9] rfl rfl rfl rfl dX12_validAfter_41 44 rfl ?_
    cases hf
    exact v_iret X (Nat.zero_le _) (Nat.zero_le _) dX12_validAfter_44
  · refine v_iconst X dX12_validAfter_12 ic_0 13 rfl ?_
    cases hf
    exact v_iret X (Nat.zero_le _) (Nat.zero_le _) dX12_validAfter_13
theorem pd_X12_validAfter : yX12_validAfter.cls ≠ "java/lang/invoke/MethodHandle" ∧ yX12_validAfter.cls ≠ "java/lang/invoke/VarHandle" ∧ (parseMethodDescriptor yX12_validAfter.desc).map (fun d => d.parameters.length) = some 1 := by decide +kernel
theorem k_X12_minutesUntilCheese_w12 : ∀ w ∈ u_ws RX12 TX12 22, w ∈ wsX12_minutesUntilCheese := in_r _ [52, 53, 54, 55, 56, 57, 58, 59, 60, 61, 62, 63, 64, 65, 66, 67, 68, 69, 70, 71, 72, 73] rfl
theorem k_X12_minutesUntilCheese_1 : Cond.fieldLink RX12 7 "TicketGateModel" "s" "[I" ∈ wsX12_minutesUntilCheese := List.mem_of_getElem? (i := 1) rfl
theorem k_X12_minutesUntilCheese_2 : Cond.fieldLink RX12 16 "TicketGateModel" "tried" "[I" ∈ wsX12_minutesUntilCheese := List.mem_of_getElem? (i := 2) rfl
def f_X12_minutesUntilCheese_L25 (m_thrown : Int32) (m_s : Nat → Int32) (v1 : Int32) : Nat → (Nat → Int32) → Int32 → Option (Int32 × Int32 × (Nat → Int32))
  | 0, _, _ => none
  | n + 1, m_tried, v2 =>
    if 20 < v2 then (
      some ((-1), m_thrown, m_tried))
    else (
      (f_X12_find m_tried v1).bind fun o3 =>
      (f_X12_whyNotCheese m_tried o3).bind fun o4 =>
      if o4 = 0 then (
        some (v2, m_thrown, m_tried))
      else (
        (rd m_tried 463 0).bind fun x5 =>
        (wr m_tried 463 0 (x5 + 1)).bind fun g6 =>
        (f_X12_forget g6).bind fun o7 =>
        f_X12_minutesUntilCheese_L25 m_thrown m_s v1 n o7 (v2 + 1)))
def f_X12_minutesUntilCheese (m_thrown : Int32) (m_s : Nat → Int32) (m_tried : Nat → Int32) (v1 : Int32) : Option (Int32 × Int32 × (Nat → Int32)) :=
  (f_X12_noTicket m_thrown m_s v1).bind fun o1 =>
  if o1.1 = 0 then (
    (f_X12_copyRow 463 463 m_s m_tried 0 0).bind fun o2 =>
    f_X12_minutesUntilCheese_L25 o1.2 m_s v1 5000 o2 0)
  else (
    some (0, o1.2, m_tried))
set_option maxRecDepth 100000 in
set_option maxHeartbeats 4000000 in
theorem l_X12_minutesUntilCheese_L25 (l : Launch) {G : (Nat → Prop) → State → Heap → Prop} (hG : vG G) (D : va_G) (c9 : Nat → ClassId) (ad : Nat → Nat) (m_undoable : Int32) (m_undoStart : Int32) (m_thrown : Int32) (m_inputLength : Int32) (m_position : Int32) (m_start : Int32) (m_token : Int32) (m_value : Int32) (m_letters : Int32) (m_code : Int32) (m_place : Int32) (m_outputLength : Int32) (m_s : Nat → Int32) (m_parsed : Nat → Int32) (m_remembered : Nat → Int32) (m_slots : Nat → Int32) (m_kept : Nat → Int32) (m_away : Nat → Int32) (m_input : Nat → Int32) (m_halfway : Nat → Int32) (m_output : Nat → Int32) (v1 : Int32) {p : Program} {e : Env} {s : State} {m : MethodId} {args : Array Value} {below : List Frame} {meth : Method} {c : Code} {A : Nat → Prop} {F : va_W} (X : vX p s m args meth c cX12_minutesUntilCheese 3 (some .int) RX12 wsX12_minutesUntilCheese D (tyA c9) G A) (o : Int32 × Int32 × (Nat → Int32)) :
    ∀ (n : Nat) (m_tried : Nat → Int32) (v2 : Int32), f_X12_minutesUntilCheese_L25 m_thrown m_s v1 n m_tried v2 = some o → vW p l e { frames := 4, cells := 0, slots := 0, locals := 87 } s m args below meth c 3 D A F 0 0 (MQ below (eI D (tyA c9) A o.1 ((wX12 ad c9 m_undoable m_undoStart o.2.1 m_inputLength m_position m_start m_token m_value m_letters m_code m_place m_outputLength m_s m_parsed o.2.2 m_remembered m_slots m_kept m_away m_input m_halfway m_output) ++ F)) args s 0 0 A) (wX12 ad c9 m_undoable m_undoStart m_thrown m_inputLength m_position m_start m_token m_value m_letters m_code m_place m_outputLength m_s m_parsed m_tried m_remembered m_slots m_kept m_away m_input m_halfway m_output) 25 [(0, .ref (ad 0)), (1, .int v1), (2, .int v2)] [] := by
  intro n
  induction n with
  | zero =>
    intro m_tried v2 hf
    rw [f_X12_minutesUntilCheese_L25] at hf
    cases hf
  | succ n ih =>
    intro m_tried v2 hf
    rw [f_X12_minutesUntilCheese_L25] at hf
    refine v_iload_n X dX12_minutesUntilCheese_25 2 rfl rfl 26 rfl ?_
    refine v_bipush X dX12_minutesUntilCheese_26 bp_20 28 rfl ?_
    refine v_icmp_gt X (tgt := 74) dX12_minutesUntilCheese_28 rfl 31 rfl hf (fun hf => ?_) (fun hf => ?_)
    · refine v_iconst X dX12_minutesUntilCheese_74 ic_m1 75 rfl ?_
      cases hf
      exact v_iret X (Nat.zero_le _) (Nat.zero_le _) dX12_minutesUntilCheese_75
    · refine v_aload_n X dX12_minutesUntilCheese_31 0 rfl rfl 32 rfl ?_
      refine v_get X (C := RX12) (T := TX12) (N := 22) (ci := 11) (v := _) dX12_minutesUntilCheese_32 k_X12_minutesUntilCheese_w12 0 rfl rfl 2 (by decide) k_X12_minutesUntilCheese_2 rfl rfl 35 rfl ?_
      refine v_aload_n X dX12_minutesUntilCheese_35 0 rfl rfl 36 rfl ?_
      refine v_get X (C := RX12) (T := TX12) (N := 22) (ci := 11) (v := _) dX12_minutesUntilCheese_36 k_X12_minutesUntilCheese_w12 0 rfl rfl 2 (by decide) k_X12_minutesUntilCheese_2 rfl rfl 39 rfl ?_
      refine v_iload_n X dX12_minutesUntilCheese_39 1 rfl rfl 40 rfl ?_
      obtain ⟨o3, ho3, hf⟩ := bnd hf
      refine v_callSi X (As := [.ref (ad 3), .int v1]) (rest := [.ref (ad 3)]) (ws' := (wX12 ad c9 m_undoable m_undoStart m_thrown m_inputLength m_position m_start m_token m_value m_letters m_code m_place m_outputLength m_s m_parsed m_tried m_remembered m_slots m_kept m_away m_input m_halfway m_output)) (c_X12_find l hG D c9 (ad 3) m_tried v1 ho3) 2 gX12_minutesUntilCheese_X12_find rfl rfl rfl pd_X12_find ⟨Nat.le_of_ble_eq_true rfl, Nat.le_of_ble_eq_true rfl⟩ rfl rfl (Nat.le_of_ble_eq_true rfl) ⟨Nat.zero_le _, Nat.zero_le _⟩ [3] [0, 1, 2, 4, 5, 6, 7, 8, 9, 10] [0, 1, 2, 10, 3, 4, 5, 6, 7, 8, 9] rfl rfl rfl rfl dX12_minutesUntilCheese_40 43 rfl ?_
      obtain ⟨o4, ho4, hf⟩ := bnd hf
      refine v_callSi X (As := [.ref (ad 3), .int o3]) (rest := []) (ws' := (wX12 ad c9 m_undoable m_undoStart m_thrown m_inputLength m_position m_start m_token m_value m_letters m_code m_place m_outputLength m_s m_parsed m_tried m_remembered m_slots m_kept m_away m_input m_halfway m_output)) (c_X12_whyNotCheese l hG D c9 (ad 3) m_tried o3 ho4) 2 gX12_minutesUntilCheese_X12_whyNotCheese rfl rfl rfl pd_X12_whyNotCheese ⟨Nat.le_of_ble_eq_true rfl, Nat.le_of_ble_eq_true rfl⟩ rfl rfl (Nat.le_of_ble_eq_true rfl) ⟨Nat.zero_le _, Nat.zero_le _⟩ [3] [0, 1, 2, 4, 5, 6, 7, 8, 9, 10] [0, 1, 2, 10, 3, 4, 5, 6, 7, 8, 9] rfl rfl rfl rfl dX12_minutesUntilCheese_43 46 rfl ?_
      refine v_if_ne X (tgt := 51) dX12_minutesUntilCheese_46 rfl 49 rfl hf (fun hf => ?_) (fun hf => ?_)
      · refine v_aload_n X dX12_minutesUntilCheese_51 0 rfl rfl 52 rfl ?_
        refine v_get X (C := RX12) (T := TX12) (N := 22) (ci := 11) (v := _) dX12_minutesUntilCheese_52 k_X12_minutesUntilCheese_w12 0 rfl rfl 2 (by decide) k_X12_minutesUntilCheese_2 rfl rfl 55 rfl ?_
        refine v_iconst X dX12_minutesUntilCheese_55 ic_0 56 rfl ?_
        refine v_dup2 X dX12_minutesUntilCheese_56 rfl rfl 57 rfl ?_
        obtain ⟨x5, hx5, hf⟩ := bnd hf
        refine v_iald X dX12_minutesUntilCheese_57 3 0 rfl rfl hx5 58 rfl ?_
        refine v_iconst X dX12_minutesUntilCheese_58 ic_1 59 rfl ?_
        refine v_iadd X dX12_minutesUntilCheese_59 60 rfl ?_
        obtain ⟨g6, hg6, hf⟩ := bnd hf
        refine v_iast X (ws' := (wX12 ad c9 m_undoable m_undoStart m_thrown m_inputLength m_position m_start m_token m_value m_letters m_code m_place m_outputLength m_s m_parsed g6 m_remembered m_slots m_kept m_away m_input m_halfway m_output)) dX12_minutesUntilCheese_60 3 0 rfl rfl hg6 rfl 61 rfl ?_
        refine v_aload_n X dX12_minutesUntilCheese_61 0 rfl rfl 62 rfl ?_
        refine v_get X (C := RX12) (T := TX12) (N := 22) (ci := 11) (v := _) dX12_minutesUntilCheese_62 k_X12_minutesUntilCheese_w12 0 rfl rfl 2 (by decide) k_X12_minutesUntilCheese_2 rfl rfl 65 rfl ?_
        obtain ⟨o7, ho7, hf⟩ := bnd hf
        refine v_callSv X (As := [.ref (ad 3)]) (rest := []) (ws' := (wX12 ad c9 m_undoable m_undoStart m_thrown m_inputLength m_position m_start m_token m_value m_letters m_code m_place m_outputLength m_s m_parsed o7 m_remembered m_slots m_kept m_away m_input m_halfway m_output)) (c_X12_forget l hG D c9 (ad 3) g6 ho7) 1 gX12_minutesUntilCheese_X12_forget rfl rfl rfl pd_X12_forget ⟨Nat.le_of_ble_eq_true rfl, Nat.le_of_ble_eq_true rfl⟩ rfl rfl (Nat.le_of_ble_eq_true rfl) ⟨Nat.zero_le _, Nat.zero_le _⟩ [3] [0, 1, 2, 4, 5, 6, 7, 8, 9, 10] [0, 1, 2, 10, 3, 4, 5, 6, 7, 8, 9] rfl rfl rfl rfl dX12_minutesUntilCheese_65 68 rfl ?_
        refine v_iinc X (lv' := [(2, .int (v2 + 1)), (0, .ref (ad 0)), (1, .int v1)]) dX12_minutesUntilCheese_68 2 rfl ic_1 (by decide) rfl 71 rfl ?_
        refine v_goto X (tgt := 25) dX12_minutesUntilCheese_71 rfl ?_
        refine v_sub (lv' := [(0, .ref (ad 0)), (1, .int v1), (2, .int (v2 + 1))]) [1, 2, 0] rfl ?_
        exact ih o7 (v2 + 1) hf
      · refine v_iload_n X dX12_minutesUntilCheese_49 2 rfl rfl 50 rfl ?_
        cases hf
        exact v_iret X (Nat.zero_le _) (Nat.zero_le _) dX12_minutesUntilCheese_50
set_option maxRecDepth 100000 in
set_option maxHeartbeats 4000000 in
theorem c_X12_minutesUntilCheese (l : Launch) {G : (Nat → Prop) → State → Heap → Prop} (hG : vG G) (D : va_G) (c9 : Nat → ClassId) (ad : Nat → Nat) (m_undoable : Int32) (m_undoStart : Int32) (m_thrown : Int32) (m_inputLength : Int32) (m_position : Int32) (m_start : Int32) (m_token : Int32) (m_value : Int32) (m_letters : Int32) (m_code : Int32) (m_place : Int32) (m_outputLength : Int32) (m_s : Nat → Int32) (m_parsed : Nat → Int32) (m_tried : Nat → Int32) (m_remembered : Nat → Int32) (m_slots : Nat → Int32) (m_kept : Nat → Int32) (m_away : Nat → Int32) (m_input : Nat → Int32) (m_halfway : Nat → Int32) (m_output : Nat → Int32) (v1 : Int32) {o : Int32 × Int32 × (Nat → Int32)} (hf : f_X12_minutesUntilCheese m_thrown m_s m_tried v1 = some o) : mI l yX12_minutesUntilCheese wsX12_minutesUntilCheese { frames := 4, cells := 0, slots := 0, locals := 87 } G D (tyA c9) [.ref (ad 0), .int v1] (wX12 ad c9 m_undoable m_undoStart m_thrown m_inputLength m_position m_start m_token m_value m_letters m_code m_place m_outputLength m_s m_parsed m_tried m_remembered m_slots m_kept m_away m_input m_halfway m_output) [] 0 0 o.1 (wX12 ad c9 m_undoable m_undoStart o.2.1 m_inputLength m_position m_start m_token m_value m_letters m_code m_place m_outputLength m_s m_parsed o.2.2 m_remembered m_slots m_kept m_away m_input m_halfway m_output) := by
  refine mI_of hG (cc := cX12_minutesUntilCheese) (maxL := 3) (ty := .int) (by decide) rfl (Nat.le_of_ble_eq_true rfl) ?_
  intro p e s m args below meth c A X
  have X : vX p s m args meth c cX12_minutesUntilCheese 3 (some .int) RX12 wsX12_minutesUntilCheese D (tyA c9) G A := X
  refine v_eq (lv2 := [(0, .ref (ad 0)), (1, .int v1)]) rfl rfl rfl rfl ?_
  rw [f_X12_minutesUntilCheese] at hf
  refine v_aload_n X dX12_minutesUntilCheese_0 0 rfl rfl 1 rfl ?_
  refine v_iload_n X dX12_minutesUntilCheese_1 1 rfl rfl 2 rfl ?_
  obtain ⟨o1, ho1, hf⟩ := bnd hf
  refine v_callVi X (ci := 11) (T := TX12) (C := RX12) (As := [.int v1]) (rest := []) (ws' := (wX12 ad c9 m_undoable m_undoStart o1.2 m_inputLength m_position m_start m_token m_value m_letters m_code m_place m_outputLength m_s m_parsed m_tried m_remembered m_slots m_kept m_away m_input m_halfway m_output)) (c_X12_noTicket l hG D c9 ad m_undoable m_undoStart m_thrown m_inputLength m_position m_start m_token m_value m_letters m_code m_place m_outputLength m_s m_parsed m_tried m_remembered m_slots m_kept m_away m_input m_halfway m_output v1 ho1) 1 gX12_minutesUntilCheese_X12_noTicket rfl rfl rfl ⟨rfl, pd_X12_noTicket⟩ ⟨Nat.le_of_ble_eq_true rfl, Nat.le_of_ble_eq_true rfl⟩ 0 rfl rfl rfl rfl (Nat.le_of_ble_eq_true rfl) ⟨Nat.zero_le _, Nat.zero_le _⟩ [0, 1, 2, 3, 4, 5, 6, 7, 8, 9, 10] [] [0, 1, 2, 3, 4, 5, 6, 7, 8, 9, 10] rfl rfl rfl rfl dX12_minutesUntilCheese_2 5 rfl ?_
  refine v_if_eq X (tgt := 10) dX12_minutesUntilCheese_5 rfl 8 rfl hf (fun hf => ?_) (fun hf => ?_)
  · refine v_aload_n X dX12_minutesUntilCheese_10 0 rfl rfl 11 rfl ?_
    refine v_get X (C := RX12) (T := TX12) (N := 22) (ci := 11) (v := _) dX12_minutesUntilCheese_11 k_X12_minutesUntilCheese_w12 0 rfl rfl 0 (by decide) k_X12_minutesUntilCheese_1 rfl rfl 14 rfl ?_
    refine v_iconst X dX12_minutesUntilCheese_14 ic_0 15 rfl ?_
    refine v_aload_n X dX12_minutesUntilCheese_15 0 rfl rfl 16 rfl ?_
    refine v_get X (C := RX12) (T := TX12) (N := 22) (ci := 11) (v := _) dX12_minutesUntilCheese_16 k_X12_minutesUntilCheese_w12 0 rfl rfl 2 (by decide) k_X12_minutesUntilCheese_2 rfl rfl 19 rfl ?_
    refine v_iconst X dX12_minutesUntilCheese_19 ic_0 20 rfl ?_
    obtain ⟨o2, ho2, hf⟩ := bnd hf
    refine v_callSv X (As := [.ref (ad 1), .int 0, .ref (ad 3), .int 0]) (rest := []) (ws' := (wX12 ad c9 m_undoable m_undoStart o1.2 m_inputLength m_position m_start m_token m_value m_letters m_code m_place m_outputLength m_s m_parsed o2 m_remembered m_slots m_kept m_away m_input m_halfway m_output)) (c_X12_copyRow l hG D c9 (ad 1) (ad 3) 463 463 m_s m_tried 0 0 ho2) 4 gX12_minutesUntilCheese_X12_copyRow rfl rfl rfl pd_X12_copyRow ⟨Nat.le_of_ble_eq_true rfl, Nat.le_of_ble_eq_true rfl⟩ rfl rfl (Nat.le_of_ble_eq_true rfl) ⟨Nat.zero_le _, Nat.zero_le _⟩ [1, 3] [0, 2, 4, 5, 6, 7, 8, 9, 10] [0, 9, 1, 10, 2, 3, 4, 5, 6, 7, 8] rfl rfl rfl rfl dX12_minutesUntilCheese_20 23 rfl ?_
    refine v_iconst X dX12_minutesUntilCheese_23 ic_0 24 rfl ?_
    refine v_istore_n X (lv' := [(2, .int 0), (0, .ref (ad 0)), (1, .int v1)]) dX12_minutesUntilCheese_24 rfl (by decide) rfl 25 rfl ?_
    refine v_sub (lv' := [(0, .ref (ad 0)), (1, .int v1), (2, .int 0)]) [1, 2, 0] rfl ?_
    exact l_X12_minutesUntilCheese_L25 l hG D c9 ad m_undoable m_undoStart o1.2 m_inputLength m_position m_start m_token m_value m_letters m_code m_place m_outputLength m_s m_parsed m_remembered m_slots m_kept m_away m_input m_halfway m_output v1 X _ 5000 o2 0 hf
  · refine v_iconst X dX12_minutesUntilCheese_8 ic_0 9 rfl ?_
    cases hf
    exact v_iret X (Nat.zero_le _) (Nat.zero_le _) dX12_minutesUntilCheese_9
theorem pd_X12_minutesUntilCheese : yX12_minutesUntilCheese.cls ≠ "java/lang/invoke/MethodHandle" ∧ yX12_minutesUntilCheese.cls ≠ "java/lang/invoke/VarHandle" ∧ (parseMethodDescriptor yX12_minutesUntilCheese.desc).map (fun d => d.parameters.length) = some 1 := by decide +kernel
theorem k_X12_bestTicket_w12 : ∀ w ∈ u_ws RX12 TX12 22, w ∈ wsX12_bestTicket := in_r _ [29, 30, 31, 32, 33, 34, 35, 36, 37, 38, 39, 40, 41, 42, 43, 44, 45, 46, 47, 48, 49, 50] rfl
theorem k_X12_bestTicket_1 : Cond.fieldLink RX12 7 "TicketGateModel" "s" "[I" ∈ wsX12_bestTicket := List.mem_of_getElem? (i := 1) rfl
def f_X12_bestTicket_L23 (m_s : Nat → Int32) (v1 : Int32) (v2 : Int32) : Nat → Int32 → Int32 → Option (Int32)
  | 0, _, _ => none
  | n + 1, v3, v4 =>
    (rd m_s 463 6).bind fun x3 =>
    if x3 ≤ v4 then (
      some (v3))
    else (
      (f_X12_ofTicket v4).bind fun o4 =>
      (rd m_s 463 (o4 + 1)).bind fun x5 =>
      Option.bind (if x5 = 1 then (
        (rd m_s 463 (o4 + 2)).bind fun x7 =>
        if x7 = v1 then (
          (rd m_s 463 (o4 + 4)).bind fun x8 =>
          if x8 = v2 then (
            (f_X12_lives m_s v4).bind fun o9 =>
            if o9 = 0 then (
              some (0))
            else (
              some (1)))
          else (
            some (0)))
        else (
          some (0)))
      else (
        some (0)) : Option (Int32)) fun j6 =>
      if j6 = 0 then (
        f_X12_bestTicket_L23 m_s v1 v2 n  v3 (v4 + 1))
      else (
        if v3 = (-1) then (
          f_X12_bestTicket_L23 m_s v1 v2 n  v4 (v4 + 1))
        else (
          (rd m_s 463 (o4 + 6)).bind fun x10 =>
          (f_X12_ofTicket v3).bind fun o11 =>
          (rd m_s 463 (o11 + 6)).bind fun x12 =>
          if x10 ≤ x12 then (
            f_X12_bestTicket_L23 m_s v1 v2 n  v3 (v4 + 1))
          else (
            f_X12_bestTicket_L23 m_s v1 v2 n  v4 (v4 + 1)))))
def f_X12_bestTicket (m_thrown : Int32) (m_s : Nat → Int32) (v1 : Int32) (v2 : Int32) : Option (Int32 × Int32) :=
  (f_X12_noUser m_thrown m_s v1).bind fun o1 =>
  if o1.1 = 0 then (
    (f_X12_noService o1.2 m_s v2).bind fun o2 =>
    if o2.1 = 0 then (
      (f_X12_bestTicket_L23 m_s v1 v2 5000 (-1) 0).bind fun o13 =>
      if o13 = (-1) then (
        some ((-1), o2.2))
      else (
        (f_X12_ofTicket o13).bind fun o14 =>
        (rd m_s 463 (o14 + 0)).bind fun x15 =>
        some (x15, o2.2)))
    else (
      some (0, o2.2)))
  else (
    some (0, o1.2))
set_option maxRecDepth 100000 in
set_option maxHeartbeats 4000000 in
theorem l_X12_bestTicket_L23 (l : Launch) {G : (Nat → Prop) → State → Heap → Prop} (hG : vG G) (D : va_G) (c9 : Nat → ClassId) (ad : Nat → Nat) (m_undoable : Int32) (m_undoStart : Int32) (m_thrown : Int32) (m_inputLength : Int32) (m_position : Int32) (m_start : Int32) (m_token : Int32) (m_value : Int32) (m_letters : Int32) (m_code : Int32) (m_place : Int32) (m_outputLength : Int32) (m_s : Nat → Int32) (m_parsed : Nat → Int32) (m_tried : Nat → Int32) (m_remembered : Nat → Int32) (m_slots : Nat → Int32) (m_kept : Nat → Int32) (m_away : Nat → Int32) (m_input : Nat → Int32) (m_halfway : Nat → Int32) (m_output : Nat → Int32) (v1 : Int32) (v2 : Int32) {p : Program} {e : Env} {s : State} {m : MethodId} {args : Array Value} {below : List Frame} {meth : Method} {c : Code} {A : Nat → Prop} {F : va_W} (X : vX p s m args meth c cX12_bestTicket 7 (some .int) RX12 wsX12_bestTicket D (tyA c9) G A) {Q : State → Prop} (o : Int32) (K : vW p l e { frames := 3, cells := 0, slots := 0, locals := 66 } s m args below meth c 7 D A F 0 0 Q (wX12 ad c9 m_undoable m_undoStart m_thrown m_inputLength m_position m_start m_token m_value m_letters m_code m_place m_outputLength m_s m_parsed m_tried m_remembered m_slots m_kept m_away m_input m_halfway m_output) 148 [(0, .ref (ad 0)), (3, .int o)] []) :
    ∀ (n : Nat) (v3 : Int32) (v4 : Int32), f_X12_bestTicket_L23 m_s v1 v2 n v3 v4 = some o → vW p l e { frames := 3, cells := 0, slots := 0, locals := 66 } s m args below meth c 7 D A F 0 0 Q (wX12 ad c9 m_undoable m_undoStart m_thrown m_inputLength m_position m_start m_token m_value m_letters m_code m_place m_outputLength m_s m_parsed m_tried m_remembered m_slots m_kept m_away m_input m_halfway m_output) 23 [(0, .ref (ad 0)), (1, .int v1), (2, .int v2), (3, .int v3), (4, .int v4)] [] := by
  intro n
  induction n with
  | zero =>
    intro v3 v4 hf
    rw [f_X12_bestTicket_L23] at hf
    cases hf
  | succ n ih =>
    intro v3 v4 hf
    rw [f_X12_bestTicket_L23] at hf
    refine v_iload X dX12_bestTicket_23 4 rfl 25 rfl ?_
    refine v_aload_n X dX12_bestTicket_25 0 rfl rfl 26 rfl ?_
    refine v_get X (C := RX12) (T := TX12) (N := 22) (ci := 11) (v := _) dX12_bestTicket_26 k_X12_bestTicket_w12 0 rfl rfl 0 (by decide) k_X12_bestTicket_1 rfl rfl 29 rfl ?_
    refine v_bipush X dX12_bestTicket_29 bp_6 31 rfl ?_
    obtain ⟨x3, hx3, hf⟩ := bnd hf
    refine v_iald X dX12_bestTicket_31 1 0 rfl rfl hx3 32 rfl ?_
    refine v_icmp_ge X (tgt := 148) dX12_bestTicket_32 rfl 35 rfl hf (fun hf => ?_) (fun hf => ?_)
    · cases hf
      refine v_sub (lv' := [(0, .ref (ad 0)), (3, .int v3)]) [0, 3] rfl ?_
      exact K
    · refine v_iload X dX12_bestTicket_35 4 rfl 37 rfl ?_
      obtain ⟨o4, ho4, hf⟩ := bnd hf
      refine v_callSi X (As := [.int v4]) (rest := []) (ws' := (wX12 ad c9 m_undoable m_undoStart m_thrown m_inputLength m_position m_start m_token m_value m_letters m_code m_place m_outputLength m_s m_parsed m_tried m_remembered m_slots m_kept m_away m_input m_halfway m_output)) (c_X12_ofTicket l hG D c9 v4 ho4) 1 gX12_bestTicket_X12_ofTicket rfl rfl rfl pd_X12_ofTicket ⟨Nat.le_of_ble_eq_true rfl, Nat.le_of_ble_eq_true rfl⟩ rfl rfl (Nat.le_of_ble_eq_true rfl) ⟨Nat.zero_le _, Nat.zero_le _⟩ [] [0, 1, 2, 3, 4, 5, 6, 7, 8, 9, 10] [0, 1, 2, 3, 4, 5, 6, 7, 8, 9, 10] rfl rfl rfl rfl dX12_bestTicket_37 40 rfl ?_
      refine v_istore X (lv' := [(5, .int o4), (0, .ref (ad 0)), (1, .int v1), (2, .int v2), (3, .int v3), (4, .int v4)]) dX12_bestTicket_40 (by decide) rfl 42 rfl ?_
      refine v_aload_n X dX12_bestTicket_42 1 rfl rfl 43 rfl ?_
      refine v_get X (C := RX12) (T := TX12) (N := 22) (ci := 11) (v := _) dX12_bestTicket_43 k_X12_bestTicket_w12 0 rfl rfl 0 (by decide) k_X12_bestTicket_1 rfl rfl 46 rfl ?_
      refine v_iload X dX12_bestTicket_46 0 rfl 48 rfl ?_
      refine v_iconst X dX12_bestTicket_48 ic_1 49 rfl ?_
      refine v_iadd X dX12_bestTicket_49 50 rfl ?_
      obtain ⟨x5, hx5, hf⟩ := bnd hf
      refine v_iald X dX12_bestTicket_50 1 0 rfl rfl hx5 51 rfl ?_
      refine v_iconst X dX12_bestTicket_51 ic_1 52 rfl ?_
      obtain ⟨j6, hj6, hf⟩ := bnd hf
      have Jj6 : vW p l e { frames := 3, cells := 0, slots := 0, locals := 66 } s m args below meth c 7 D A F 0 0 Q (wX12 ad c9 m_undoable m_undoStart m_thrown m_inputLength m_position m_start m_token m_value m_letters m_code m_place m_outputLength m_s m_parsed m_tried m_remembered m_slots m_kept m_away m_input m_halfway m_output) 98 [(0, .ref (ad 0)), (1, .int v1), (2, .int v2), (3, .int v3), (4, .int v4), (5, .int o4)] [.int j6] := by
        refine v_istore X (lv' := [(6, .int j6), (0, .ref (ad 0)), (1, .int v1), (2, .int v2), (3, .int v3), (4, .int v4), (5, .int o4)]) dX12_bestTicket_98 (by decide) rfl 100 rfl ?_
        refine v_iload X dX12_bestTicket_100 0 rfl 102 rfl ?_
        refine v_if_eq X (tgt := 140) dX12_bestTicket_102 rfl 105 rfl hf (fun hf => ?_) (fun hf => ?_)
        · refine v_iload_n X dX12_bestTicket_140 4 rfl rfl 141 rfl ?_
          refine v_istore_n X (lv' := [(3, .int v3), (6, .int j6), (0, .ref (ad 0)), (1, .int v1), (2, .int v2), (4, .int v4), (5, .int o4)]) dX12_bestTicket_141 rfl (by decide) rfl 142 rfl ?_
          refine v_iinc X (lv' := [(4, .int (v4 + 1)), (3, .int v3), (6, .int j6), (0, .ref (ad 0)), (1, .int v1), (2, .int v2), (5, .int o4)]) dX12_bestTicket_142 5 rfl ic_1 (by decide) rfl 145 rfl ?_
          refine v_goto X (tgt := 23) dX12_bestTicket_145 rfl ?_
          refine v_sub (lv' := [(0, .ref (ad 0)), (1, .int v1), (2, .int v2), (3, .int v3), (4, .int (v4 + 1))]) [3, 4, 5, 1, 0] rfl ?_
          exact ih v3 (v4 + 1) hf
        · refine v_iload_n X dX12_bestTicket_105 4 rfl rfl 106 rfl ?_
          refine v_iconst X dX12_bestTicket_106 ic_m1 107 rfl ?_
          refine v_icmp_eq X (tgt := 135) dX12_bestTicket_107 rfl 110 rfl hf (fun hf => ?_) (fun hf => ?_)
          · refine v_iload X dX12_bestTicket_135 5 rfl 137 rfl ?_
            refine v_goto X (tgt := 141) dX12_bestTicket_137 rfl ?_
            refine v_istore_n X (lv' := [(3, .int v4), (6, .int j6), (0, .ref (ad 0)), (1, .int v1), (2, .int v2), (4, .int v4), (5, .int o4)]) dX12_bestTicket_141 rfl (by decide) rfl 142 rfl ?_
            refine v_iinc X (lv' := [(4, .int (v4 + 1)), (3, .int v4), (6, .int j6), (0, .ref (ad 0)), (1, .int v1), (2, .int v2), (5, .int o4)]) dX12_bestTicket_142 5 rfl ic_1 (by decide) rfl 145 rfl ?_
            refine v_goto X (tgt := 23) dX12_bestTicket_145 rfl ?_
            refine v_sub (lv' := [(0, .ref (ad 0)), (1, .int v1), (2, .int v2), (3, .int v4), (4, .int (v4 + 1))]) [3, 4, 5, 1, 0] rfl ?_
            exact ih v4 (v4 + 1) hf
          · refine v_aload_n X dX12_bestTicket_110 1 rfl rfl 111 rfl ?_
            refine v_get X (C := RX12) (T := TX12) (N := 22) (ci := 11) (v := _) dX12_bestTicket_111 k_X12_bestTicket_w12 0 rfl rfl 0 (by decide) k_X12_bestTicket_1 rfl rfl 114 rfl ?_
            refine v_iload X dX12_bestTicket_114 6 rfl 116 rfl ?_
            refine v_bipush X dX12_bestTicket_116 bp_6 118 rfl ?_
            refine v_iadd X dX12_bestTicket_118 119 rfl ?_
            obtain ⟨x10, hx10, hf⟩ := bnd hf
            refine v_iald X dX12_bestTicket_119 1 0 rfl rfl hx10 120 rfl ?_
            refine v_aload_n X dX12_bestTicket_120 1 rfl rfl 121 rfl ?_
            refine v_get X (C := RX12) (T := TX12) (N := 22) (ci := 11) (v := _) dX12_bestTicket_121 k_X12_bestTicket_w12 0 rfl rfl 0 (by decide) k_X12_bestTicket_1 rfl rfl 124 rfl ?_
            refine v_iload_n X dX12_bestTicket_124 4 rfl rfl 125 rfl ?_
            obtain ⟨o11, ho11, hf⟩ := bnd hf
            refine v_callSi X (As := [.int v3]) (rest := [.ref (ad 1), .int x10]) (ws' := (wX12 ad c9 m_undoable m_undoStart m_thrown m_inputLength m_position m_start m_token m_value m_letters m_code m_place m_outputLength m_s m_parsed m_tried m_remembered m_slots m_kept m_away m_input m_halfway m_output)) (c_X12_ofTicket l hG D c9 v3 ho11) 1 gX12_bestTicket_X12_ofTicket rfl rfl rfl pd_X12_ofTicket ⟨Nat.le_of_ble_eq_true rfl, Nat.le_of_ble_eq_true rfl⟩ rfl rfl (Nat.le_of_ble_eq_true rfl) ⟨Nat.zero_le _, Nat.zero_le _⟩ [] [0, 1, 2, 3, 4, 5, 6, 7, 8, 9, 10] [0, 1, 2, 3, 4, 5, 6, 7, 8, 9, 10] rfl rfl rfl rfl dX12_bestTicket_125 128 rfl ?_
            refine v_bipush X dX12_bestTicket_128 bp_6 130 rfl ?_
            refine v_iadd X dX12_bestTicket_130 131 rfl ?_
            obtain ⟨x12, hx12, hf⟩ := bnd hf
            refine v_iald X dX12_bestTicket_131 1 0 rfl rfl hx12 132 rfl ?_
            refine v_icmp_le X (tgt := 140) dX12_bestTicket_132 rfl 135 rfl hf (fun hf => ?_) (fun hf => ?_)
            · refine v_iload_n X dX12_bestTicket_140 4 rfl rfl 141 rfl ?_
              refine v_istore_n X (lv' := [(3, .int v3), (6, .int j6), (0, .ref (ad 0)), (1, .int v1), (2, .int v2), (4, .int v4), (5, .int o4)]) dX12_bestTicket_141 rfl (by decide) rfl 142 rfl ?_
              refine v_iinc X (lv' := [(4, .int (v4 + 1)), (3, .int v3), (6, .int j6), (0, .ref (ad 0)), (1, .int v1), (2, .int v2), (5, .int o4)]) dX12_bestTicket_142 5 rfl ic_1 (by decide) rfl 145 rfl ?_
              refine v_goto X (tgt := 23) dX12_bestTicket_145 rfl ?_
              refine v_sub (lv' := [(0, .ref (ad 0)), (1, .int v1), (2, .int v2), (3, .int v3), (4, .int (v4 + 1))]) [3, 4, 5, 1, 0] rfl ?_
              exact ih v3 (v4 + 1) hf
            · refine v_iload X dX12_bestTicket_135 5 rfl 137 rfl ?_
              refine v_goto X (tgt := 141) dX12_bestTicket_137 rfl ?_
              refine v_istore_n X (lv' := [(3, .int v4), (6, .int j6), (0, .ref (ad 0)), (1, .int v1), (2, .int v2), (4, .int v4), (5, .int o4)]) dX12_bestTicket_141 rfl (by decide) rfl 142 rfl ?_
              refine v_iinc X (lv' := [(4, .int (v4 + 1)), (3, .int v4), (6, .int j6), (0, .ref (ad 0)), (1, .int v1), (2, .int v2), (5, .int o4)]) dX12_bestTicket_142 5 rfl ic_1 (by decide) rfl 145 rfl ?_
              refine v_goto X (tgt := 23) dX12_bestTicket_145 rfl ?_
              refine v_sub (lv' := [(0, .ref (ad 0)), (1, .int v1), (2, .int v2), (3, .int v4), (4, .int (v4 + 1))]) [3, 4, 5, 1, 0] rfl ?_
              exact ih v4 (v4 + 1) hf
      clear hf
      refine v_icmp_ne X (tgt := 97) dX12_bestTicket_52 rfl 55 rfl hj6 (fun hf => ?_) (fun hf => ?_)
      · refine v_iconst X dX12_bestTicket_97 ic_0 98 rfl ?_
        cases hf
        refine v_sub (lv' := [(0, .ref (ad 0)), (1, .int v1), (2, .int v2), (3, .int v3), (4, .int v4), (5, .int o4)]) [1, 2, 3, 4, 5, 0] rfl ?_
        exact Jj6
      · refine v_aload_n X dX12_bestTicket_55 1 rfl rfl 56 rfl ?_
        refine v_get X (C := RX12) (T := TX12) (N := 22) (ci := 11) (v := _) dX12_bestTicket_56 k_X12_bestTicket_w12 0 rfl rfl 0 (by decide) k_X12_bestTicket_1 rfl rfl 59 rfl ?_
        refine v_iload X dX12_bestTicket_59 0 rfl 61 rfl ?_
        refine v_iconst X dX12_bestTicket_61 ic_2 62 rfl ?_
        refine v_iadd X dX12_bestTicket_62 63 rfl ?_
        obtain ⟨x7, hx7, hf⟩ := bnd hf
        refine v_iald X dX12_bestTicket_63 1 0 rfl rfl hx7 64 rfl ?_
        refine v_iload_n X dX12_bestTicket_64 2 rfl rfl 65 rfl ?_
        refine v_icmp_ne X (tgt := 97) dX12_bestTicket_65 rfl 68 rfl hf (fun hf => ?_) (fun hf => ?_)
        · refine v_iconst X dX12_bestTicket_97 ic_0 98 rfl ?_
          cases hf
          refine v_sub (lv' := [(0, .ref (ad 0)), (1, .int v1), (2, .int v2), (3, .int v3), (4, .int v4), (5, .int o4)]) [1, 2, 3, 4, 5, 0] rfl ?_
          exact Jj6
        · refine v_aload_n X dX12_bestTicket_68 1 rfl rfl 69 rfl ?_
          refine v_get X (C := RX12) (T := TX12) (N := 22) (ci := 11) (v := _) dX12_bestTicket_69 k_X12_bestTicket_w12 0 rfl rfl 0 (by decide) k_X12_bestTicket_1 rfl rfl 72 rfl ?_
          refine v_iload X dX12_bestTicket_72 0 rfl 74 rfl ?_
          refine v_iconst X dX12_bestTicket_74 ic_4 75 rfl ?_
          refine v_iadd X dX12_bestTicket_75 76 rfl ?_
          obtain ⟨x8, hx8, hf⟩ := bnd hf
          refine v_iald X dX12_bestTicket_76 1 0 rfl rfl hx8 77 rfl ?_
          refine v_iload_n X dX12_bestTicket_77 3 rfl rfl 78 rfl ?_
          refine v_icmp_ne X (tgt := 97) dX12_bestTicket_78 rfl 81 rfl hf (fun hf => ?_) (fun hf => ?_)
          · refine v_iconst X dX12_bestTicket_97 ic_0 98 rfl ?_
            cases hf
            refine v_sub (lv' := [(0, .ref (ad 0)), (1, .int v1), (2, .int v2), (3, .int v3), (4, .int v4), (5, .int o4)]) [1, 2, 3, 4, 5, 0] rfl ?_
            exact Jj6
          · refine v_aload_n X dX12_bestTicket_81 1 rfl rfl 82 rfl ?_
            refine v_get X (C := RX12) (T := TX12) (N := 22) (ci := 11) (v := _) dX12_bestTicket_82 k_X12_bestTicket_w12 0 rfl rfl 0 (by decide) k_X12_bestTicket_1 rfl rfl 85 rfl ?_
            refine v_iload X dX12_bestTicket_85 5 rfl 87 rfl ?_
            obtain ⟨o9, ho9, hf⟩ := bnd hf
            refine v_callSi X (As := [.ref (ad 1), .int v4]) (rest := []) (ws' := (wX12 ad c9 m_undoable m_undoStart m_thrown m_inputLength m_position m_start m_token m_value m_letters m_code m_place m_outputLength m_s m_parsed m_tried m_remembered m_slots m_kept m_away m_input m_halfway m_output)) (c_X12_lives l hG D c9 (ad 1) m_s v4 ho9) 2 gX12_bestTicket_X12_lives rfl rfl rfl pd_X12_lives ⟨Nat.le_of_ble_eq_true rfl, Nat.le_of_ble_eq_true rfl⟩ rfl rfl (Nat.le_of_ble_eq_true rfl) ⟨Nat.zero_le _, Nat.zero_le _⟩ [1] [0, 2, 3, 4, 5, 6, 7, 8, 9, 10] [0, 10, 1, 2, 3, 4, 5, 6, 7, 8, 9] rfl rfl rfl rfl dX12_bestTicket_87 90 rfl ?_
            refine v_if_eq X (tgt := 97) dX12_bestTicket_90 rfl 93 rfl hf (fun hf => ?_) (fun hf => ?_)
            · refine v_iconst X dX12_bestTicket_97 ic_0 98 rfl ?_
              cases hf
              refine v_sub (lv' := [(0, .ref (ad 0)), (1, .int v1), (2, .int v2), (3, .int v3), (4, .int v4), (5, .int o4)]) [1, 2, 3, 4, 5, 0] rfl ?_
              exact Jj6
            · refine v_iconst X dX12_bestTicket_93 ic_1 94 rfl ?_
              refine v_goto X (tgt := 98) dX12_bestTicket_94 rfl ?_
              cases hf
              refine v_sub (lv' := [(0, .ref (ad 0)), (1, .int v1), (2, .int v2), (3, .int v3), (4, .int v4), (5, .int o4)]) [1, 2, 3, 4, 5, 0] rfl ?_
              exact Jj6
set_option maxRecDepth 100000 in
set_option maxHeartbeats 4000000 in
theorem c_X12_bestTicket (l : Launch) {G : (Nat → Prop) → State → Heap → Prop} (hG : vG G) (D : va_G) (c9 : Nat → ClassId) (ad : Nat → Nat) (m_undoable : Int32) (m_undoStart : Int32) (m_thrown : Int32) (m_inputLength : Int32) (m_position : Int32) (m_start : Int32) (m_token : Int32) (m_value : Int32) (m_letters : Int32) (m_code : Int32) (m_place : Int32) (m_outputLength : Int32) (m_s : Nat → Int32) (m_parsed : Nat → Int32) (m_tried : Nat → Int32) (m_remembered : Nat → Int32) (m_slots : Nat → Int32) (m_kept : Nat → Int32) (m_away : Nat → Int32) (m_input : Nat → Int32) (m_halfway : Nat → Int32) (m_output : Nat → Int32) (v1 : Int32) (v2 : Int32) {o : Int32 × Int32} (hf : f_X12_bestTicket m_thrown m_s v1 v2 = some o) : mI l yX12_bestTicket wsX12_bestTicket { frames := 3, cells := 0, slots := 0, locals := 66 } G D (tyA c9) [.ref (ad 0), .int v1, .int v2] (wX12 ad c9 m_undoable m_undoStart m_thrown m_inputLength m_position m_start m_token m_value m_letters m_code m_place m_outputLength m_s m_parsed m_tried m_remembered m_slots m_kept m_away m_input m_halfway m_output) [] 0 0 o.1 (wX12 ad c9 m_undoable m_undoStart o.2 m_inputLength m_position m_start m_token m_value m_letters m_code m_place m_outputLength m_s m_parsed m_tried m_remembered m_slots m_kept m_away m_input m_halfway m_output) := by
  refine mI_of hG (cc := cX12_bestTicket) (maxL := 7) (ty := .int) (by decide) rfl (Nat.le_of_ble_eq_true rfl) ?_
  intro p e s m args below meth c A X
  have X : vX p s m args meth c cX12_bestTicket 7 (some .int) RX12 wsX12_bestTicket D (tyA c9) G A := X
  refine v_eq (lv2 := [(0, .ref (ad 0)), (1, .int v1), (2, .int v2)]) rfl rfl rfl rfl ?_
  rw [f_X12_bestTicket] at hf
  refine v_aload_n X dX12_bestTicket_0 0 rfl rfl 1 rfl ?_
  refine v_iload_n X dX12_bestTicket_1 1 rfl rfl 2 rfl ?_
  obtain ⟨o1, ho1, hf⟩ := bnd hf
  refine v_callVi X (ci := 11) (T := TX12) (C := RX12) (As := [.int v1]) (rest := []) (ws' := (wX12 ad c9 m_undoable m_undoStart o1.2 m_inputLength m_position m_start m_token m_value m_letters m_code m_place m_outputLength m_s m_parsed m_tried m_remembered m_slots m_kept m_away m_input m_halfway m_output)) (c_X12_noUser l hG D c9 ad m_undoable m_undoStart m_thrown m_inputLength m_position m_start m_token m_value m_letters m_code m_place m_outputLength m_s m_parsed m_tried m_remembered m_slots m_kept m_away m_input m_halfway m_output v1 ho1) 1 gX12_bestTicket_X12_noUser rfl rfl rfl ⟨rfl, pd_X12_noUser⟩ ⟨Nat.le_of_ble_eq_true rfl, Nat.le_of_ble_eq_true rfl⟩ 0 rfl rfl rfl rfl (Nat.le_of_ble_eq_true rfl) ⟨Nat.zero_le _, Nat.zero_le _⟩ [0, 1, 2, 3, 4, 5, 6, 7, 8, 9, 10] [] [0, 1, 2, 3, 4, 5, 6, 7, 8, 9, 10] rfl rfl rfl rfl dX12_bestTicket_2 5 rfl ?_
  refine v_if_ne X (tgt := 16) dX12_bestTicket_5 rfl 8 rfl hf (fun hf => ?_) (fun hf => ?_)
  · refine v_iconst X dX12_bestTicket_16 ic_0 17 rfl ?_
    cases hf
    exact v_iret X (Nat.zero_le _) (Nat.zero_le _) dX12_bestTicket_17
  · refine v_aload_n X dX12_bestTicket_8 0 rfl rfl 9 rfl ?_
    refine v_iload_n X dX12_bestTicket_9 2 rfl rfl 10 rfl ?_
    obtain ⟨o2, ho2, hf⟩ := bnd hf
    refine v_callVi X (ci := 11) (T := TX12) (C := RX12) (As := [.int v2]) (rest := []) (ws' := (wX12 ad c9 m_undoable m_undoStart o2.2 m_inputLength m_position m_start m_token m_value m_letters m_code m_place m_outputLength m_s m_parsed m_tried m_remembered m_slots m_kept m_away m_input m_halfway m_output)) (c_X12_noService l hG D c9 ad m_undoable m_undoStart o1.2 m_inputLength m_position m_start m_token m_value m_letters m_code m_place m_outputLength m_s m_parsed m_tried m_remembered m_slots m_kept m_away m_input m_halfway m_output v2 ho2) 1 gX12_bestTicket_X12_noService rfl rfl rfl ⟨rfl, pd_X12_noService⟩ ⟨Nat.le_of_ble_eq_true rfl, Nat.le_of_ble_eq_true rfl⟩ 0 rfl rfl rfl rfl (Nat.le_of_ble_eq_true rfl) ⟨Nat.zero_le _, Nat.zero_le _⟩ [0, 1, 2, 3, 4, 5, 6, 7, 8, 9, 10] [] [0, 1, 2, 3, 4, 5, 6, 7, 8, 9, 10] rfl rfl rfl rfl dX12_bestTicket_10 13 rfl ?_
    refine v_if_eq X (tgt := 18) dX12_bestTicket_13 rfl 16 rfl hf (fun hf => ?_) (fun hf => ?_)
    · refine v_iconst X dX12_bestTicket_18 ic_m1 19 rfl ?_
      refine v_istore_n X (lv' := [(3, .int (-1)), (0, .ref (ad 0)), (1, .int v1), (2, .int v2)]) dX12_bestTicket_19 rfl (by decide) rfl 20 rfl ?_
      refine v_iconst X dX12_bestTicket_20 ic_0 21 rfl ?_
      refine v_istore X (lv' := [(4, .int 0), (3, .int (-1)), (0, .ref (ad 0)), (1, .int v1), (2, .int v2)]) dX12_bestTicket_21 (by decide) rfl 23 rfl ?_
      obtain ⟨o13, ho13, hf⟩ := bnd hf
      refine v_sub (lv' := [(0, .ref (ad 0)), (1, .int v1), (2, .int v2), (3, .int (-1)), (4, .int 0)]) [2, 3, 4, 1, 0] rfl ?_
      refine l_X12_bestTicket_L23 l hG D c9 ad m_undoable m_undoStart o2.2 m_inputLength m_position m_start m_token m_value m_letters m_code m_place m_outputLength m_s m_parsed m_tried m_remembered m_slots m_kept m_away m_input m_halfway m_output v1 v2 X o13 ?_ 5000 (-1) 0 ho13
      refine v_iload_n X dX12_bestTicket_148 1 rfl rfl 149 rfl ?_
      refine v_iconst X dX12_bestTicket_149 ic_m1 150 rfl ?_
      refine v_icmp_ne X (tgt := 157) dX12_bestTicket_150 rfl 153 rfl hf (fun hf => ?_) (fun hf => ?_)
      · refine v_aload_n X dX12_bestTicket_157 0 rfl rfl 158 rfl ?_
        refine v_get X (C := RX12) (T := TX12) (N := 22) (ci := 11) (v := _) dX12_bestTicket_158 k_X12_bestTicket_w12 0 rfl rfl 0 (by decide) k_X12_bestTicket_1 rfl rfl 161 rfl ?_
        refine v_iload_n X dX12_bestTicket_161 1 rfl rfl 162 rfl ?_
        obtain ⟨o14, ho14, hf⟩ := bnd hf
        refine v_callSi X (As := [.int o13]) (rest := [.ref (ad 1)]) (ws' := (wX12 ad c9 m_undoable m_undoStart o2.2 m_inputLength m_position m_start m_token m_value m_letters m_code m_place m_outputLength m_s m_parsed m_tried m_remembered m_slots m_kept m_away m_input m_halfway m_output)) (c_X12_ofTicket l hG D c9 o13 ho14) 1 gX12_bestTicket_X12_ofTicket rfl rfl rfl pd_X12_ofTicket ⟨Nat.le_of_ble_eq_true rfl, Nat.le_of_ble_eq_true rfl⟩ rfl rfl (Nat.le_of_ble_eq_true rfl) ⟨Nat.zero_le _, Nat.zero_le _⟩ [] [0, 1, 2, 3, 4, 5, 6, 7, 8, 9, 10] [0, 1, 2, 3, 4, 5, 6, 7, 8, 9, 10] rfl rfl rfl rfl dX12_bestTicket_162 165 rfl ?_
        refine v_iconst X dX12_bestTicket_165 ic_0 166 rfl ?_
        refine v_iadd X dX12_bestTicket_166 167 rfl ?_
        obtain ⟨x15, hx15, hf⟩ := bnd hf
        refine v_iald X dX12_bestTicket_167 1 0 rfl rfl hx15 168 rfl ?_
        cases hf
        exact v_iret X (Nat.zero_le _) (Nat.zero_le _) dX12_bestTicket_168
      · refine v_iconst X dX12_bestTicket_153 ic_m1 154 rfl ?_
        refine v_goto X (tgt := 168) dX12_bestTicket_154 rfl ?_
        cases hf
        exact v_iret X (Nat.zero_le _) (Nat.zero_le _) dX12_bestTicket_168
    · refine v_iconst X dX12_bestTicket_16 ic_0 17 rfl ?_
      cases hf
      exact v_iret X (Nat.zero_le _) (Nat.zero_le _) dX12_bestTicket_17
theorem pd_X12_bestTicket : yX12_bestTicket.cls ≠ "java/lang/invoke/MethodHandle" ∧ yX12_bestTicket.cls ≠ "java/lang/invoke/VarHandle" ∧ (parseMethodDescriptor yX12_bestTicket.desc).map (fun d => d.parameters.length) = some 2 := by decide +kernel
theorem k_X12_useCount_w12 : ∀ w ∈ u_ws RX12 TX12 22, w ∈ wsX12_useCount := in_r _ [3, 4, 5, 6, 7, 8, 9, 10, 11, 12, 13, 14, 15, 16, 17, 18, 19, 20, 21, 22, 23, 24] rfl
theorem k_X12_useCount_1 : Cond.fieldLink RX12 72 "TicketGateModel" "thrown" "I" ∈ wsX12_useCount := List.mem_of_getElem? (i := 1) rfl
theorem k_X12_useCount_2 : Cond.fieldLink RX12 7 "TicketGateModel" "s" "[I" ∈ wsX12_useCount := List.mem_of_getElem? (i := 2) rfl
def f_X12_useCount (m_thrown : Int32) (m_s : Nat → Int32) : Option (Int32 × Int32) :=
  (rd m_s 463 8).bind fun x1 =>
  some (x1, 0)
set_option maxRecDepth 100000 in
set_option maxHeartbeats 4000000 in
theorem c_X12_useCount (l : Launch) {G : (Nat → Prop) → State → Heap → Prop} (hG : vG G) (D : va_G) (c9 : Nat → ClassId) (ad : Nat → Nat) (m_undoable : Int32) (m_undoStart : Int32) (m_thrown : Int32) (m_inputLength : Int32) (m_position : Int32) (m_start : Int32) (m_token : Int32) (m_value : Int32) (m_letters : Int32) (m_code : Int32) (m_place : Int32) (m_outputLength : Int32) (m_s : Nat → Int32) (m_parsed : Nat → Int32) (m_tried : Nat → Int32) (m_remembered : Nat → Int32) (m_slots : Nat → Int32) (m_kept : Nat → Int32) (m_away : Nat → Int32) (m_input : Nat → Int32) (m_halfway : Nat → Int32) (m_output : Nat → Int32)  {o : Int32 × Int32} (hf : f_X12_useCount m_thrown m_s = some o) : mI l yX12_useCount wsX12_useCount { frames := 0, cells := 0, slots := 0, locals := 0 } G D (tyA c9) [.ref (ad 0)] (wX12 ad c9 m_undoable m_undoStart m_thrown m_inputLength m_position m_start m_token m_value m_letters m_code m_place m_outputLength m_s m_parsed m_tried m_remembered m_slots m_kept m_away m_input m_halfway m_output) [] 0 0 o.1 (wX12 ad c9 m_undoable m_undoStart o.2 m_inputLength m_position m_start m_token m_value m_letters m_code m_place m_outputLength m_s m_parsed m_tried m_remembered m_slots m_kept m_away m_input m_halfway m_output) := by
  refine mI_of hG (cc := cX12_useCount) (maxL := 1) (ty := .int) (by decide) rfl (Nat.le_of_ble_eq_true rfl) ?_
  intro p e s m args below meth c A X
  have X : vX p s m args meth c cX12_useCount 1 (some .int) RX12 wsX12_useCount D (tyA c9) G A := X
  refine v_eq (lv2 := [(0, .ref (ad 0))]) rfl rfl rfl rfl ?_
  rw [f_X12_useCount] at hf
  refine v_aload_n X dX12_useCount_0 0 rfl rfl 1 rfl ?_
  refine v_iconst X dX12_useCount_1 ic_0 2 rfl ?_
  refine v_put X (C := RX12) (T := TX12) (N := 22) (ci := 11) (ty := tyX12 8) (ws' := (wX12 ad c9 m_undoable m_undoStart 0 m_inputLength m_position m_start m_token m_value m_letters m_code m_place m_outputLength m_s m_parsed m_tried m_remembered m_slots m_kept m_away m_input m_halfway m_output)) dX12_useCount_2 k_X12_useCount_w12 0 rfl rfl 8 (by decide) tyX12 tyX12_ok nmX12 k_X12_useCount_1 rfl rfl (tyX12_ok 8 (by decide)) rfl rfl (by decide) rfl 5 rfl ?_
  refine v_aload_n X dX12_useCount_5 0 rfl rfl 6 rfl ?_
  refine v_get X (C := RX12) (T := TX12) (N := 22) (ci := 11) (v := _) dX12_useCount_6 k_X12_useCount_w12 0 rfl rfl 0 (by decide) k_X12_useCount_2 rfl rfl 9 rfl ?_
  refine v_bipush X dX12_useCount_9 bp_8 11 rfl ?_
  obtain ⟨x1, hx1, hf⟩ := bnd hf
  refine v_iald X dX12_useCount_11 1 0 rfl rfl hx1 12 rfl ?_
  cases hf
  exact v_iret X (Nat.zero_le _) (Nat.zero_le _) dX12_useCount_12
theorem pd_X12_useCount : yX12_useCount.cls ≠ "java/lang/invoke/MethodHandle" ∧ yX12_useCount.cls ≠ "java/lang/invoke/VarHandle" ∧ (parseMethodDescriptor yX12_useCount.desc).map (fun d => d.parameters.length) = some 0 := by decide +kernel
