def f_X12_out (m_thrown : Int32) (v1 : Int32) (v2 : Int32) (v3 : Int32) : Option (Int32 × Int32) :=
  (f_X12_isBetween v1 v2 v3).bind fun o1 =>
  if o1 = 0 then (
    (f_X12_refuses m_thrown 1 2).bind fun o4 =>
    (zr o4.1).bind fun z5 => some (z5, o4.2))
  else (
    (f_X12_refuses m_thrown 0 2).bind fun o2 =>
    (zr o2.1).bind fun z3 => some (z3, o2.2))
set_option maxRecDepth 100000 in
set_option maxHeartbeats 4000000 in
theorem c_X12_out (l : Launch) {G : (Nat → Prop) → State → Heap → Prop} (hG : vG G) (D : va_G) (c9 : Nat → ClassId) (ad : Nat → Nat) (m_undoable : Int32) (m_undoStart : Int32) (m_thrown : Int32) (m_inputLength : Int32) (m_position : Int32) (m_start : Int32) (m_token : Int32) (m_value : Int32) (m_letters : Int32) (m_code : Int32) (m_place : Int32) (m_outputLength : Int32) (m_s : Nat → Int32) (m_parsed : Nat → Int32) (m_tried : Nat → Int32) (m_remembered : Nat → Int32) (m_slots : Nat → Int32) (m_kept : Nat → Int32) (m_away : Nat → Int32) (m_input : Nat → Int32) (m_halfway : Nat → Int32) (m_output : Nat → Int32) (v1 : Int32) (v2 : Int32) (v3 : Int32) {o : Int32 × Int32} (hf : f_X12_out m_thrown v1 v2 v3 = some o) : mI l yX12_out wsX12_out { frames := 1, cells := 0, slots := 0, locals := 22 } G D (tyA c9) [.ref (ad 0), .int v1, .int v2, .int v3] (wX12 ad c9 m_undoable m_undoStart m_thrown m_inputLength m_position m_start m_token m_value m_letters m_code m_place m_outputLength m_s m_parsed m_tried m_remembered m_slots m_kept m_away m_input m_halfway m_output) [] 0 0 o.1 (wX12 ad c9 m_undoable m_undoStart o.2 m_inputLength m_position m_start m_token m_value m_letters m_code m_place m_outputLength m_s m_parsed m_tried m_remembered m_slots m_kept m_away m_input m_halfway m_output) := by
  refine mI_of hG (cc := cX12_out) (maxL := 4) (ty := .boolean) (by decide) rfl (Nat.le_of_ble_eq_true rfl) ?_
  intro p e s m args below meth c A X
  have X : vX p s m args meth c cX12_out 4 (some .boolean) RX12 wsX12_out D (tyA c9) G A := X
  refine v_eq (lv2 := [(0, .ref (ad 0)), (1, .int v1), (2, .int v2), (3, .int v3)]) rfl rfl rfl rfl ?_
  rw [f_X12_out] at hf
  refine v_aload_n X dX12_out_0 0 rfl rfl 1 rfl ?_
  refine v_iload_n X dX12_out_1 1 rfl rfl 2 rfl ?_
  refine v_iload_n X dX12_out_2 2 rfl rfl 3 rfl ?_
  refine v_iload_n X dX12_out_3 3 rfl rfl 4 rfl ?_
  obtain ⟨o1, ho1, hf⟩ := bnd hf
  refine v_callSi X (As := [.int v1, .int v2, .int v3]) (rest := [.ref (ad 0)]) (ws' := (wX12 ad c9 m_undoable m_undoStart m_thrown m_inputLength m_position m_start m_token m_value m_letters m_code m_place m_outputLength m_s m_parsed m_tried m_remembered m_slots m_kept m_away m_input m_halfway m_output)) (c_X12_isBetween l hG D c9 v1 v2 v3 ho1) 3 gX12_out_X12_isBetween rfl rfl rfl pd_X12_isBetween ⟨Nat.le_of_ble_eq_true rfl, Nat.le_of_ble_eq_true rfl⟩ rfl rfl (Nat.le_of_ble_eq_true rfl) ⟨Nat.zero_le _, Nat.zero_le _⟩ [] [0, 1, 2, 3, 4, 5, 6, 7, 8, 9, 10] [0, 1, 2, 3, 4, 5, 6, 7, 8, 9, 10] rfl rfl rfl rfl dX12_out_4 7 rfl ?_
  refine v_if_ne X (tgt := 14) dX12_out_7 rfl 10 rfl hf (fun hf => ?_) (fun hf => ?_)
  · refine v_iconst X dX12_out_14 ic_0 15 rfl ?_
    refine v_iconst X dX12_out_15 ic_2 16 rfl ?_
    obtain ⟨o2, ho2, hf⟩ := bnd hf
    refine v_callVi X (ci := 11) (T := TX12) (C := RX12) (As := [.int 0, .int 2]) (rest := []) (ws' := (wX12 ad c9 m_undoable m_undoStart o2.2 m_inputLength m_position m_start m_token m_value m_letters m_code m_place m_outputLength m_s m_parsed m_tried m_remembered m_slots m_kept m_away m_input m_halfway m_output)) (c_X12_refuses l hG D c9 ad m_undoable m_undoStart m_thrown m_inputLength m_position m_start m_token m_value m_letters m_code m_place m_outputLength m_s m_parsed m_tried m_remembered m_slots m_kept m_away m_input m_halfway m_output 0 2 ho2) 2 gX12_out_X12_refuses rfl rfl rfl ⟨rfl, pd_X12_refuses⟩ ⟨Nat.le_of_ble_eq_true rfl, Nat.le_of_ble_eq_true rfl⟩ 0 rfl rfl rfl rfl (Nat.le_of_ble_eq_true rfl) ⟨Nat.zero_le _, Nat.zero_le _⟩ [0, 1, 2, 3, 4, 5, 6, 7, 8, 9, 10] [] [0, 1, 2, 3, 4, 5, 6, 7, 8, 9, 10] rfl rfl rfl rfl dX12_out_16 19 rfl ?_
    obtain ⟨z3, hz3, hf⟩ := bnd hf
    cases hf
    exact v_zretq hz3 X (Nat.zero_le _) (Nat.zero_le _) dX12_out_19
  · refine v_iconst X dX12_out_10 ic_1 11 rfl ?_
    refine v_goto X (tgt := 15) dX12_out_11 rfl ?_
    refine v_iconst X dX12_out_15 ic_2 16 rfl ?_
    obtain ⟨o4, ho4, hf⟩ := bnd hf
    refine v_callVi X (ci := 11) (T := TX12) (C := RX12) (As := [.int 1, .int 2]) (rest := []) (ws' := (wX12 ad c9 m_undoable m_undoStart o4.2 m_inputLength m_position m_start m_token m_value m_letters m_code m_place m_outputLength m_s m_parsed m_tried m_remembered m_slots m_kept m_away m_input m_halfway m_output)) (c_X12_refuses l hG D c9 ad m_undoable m_undoStart m_thrown m_inputLength m_position m_start m_token m_value m_letters m_code m_place m_outputLength m_s m_parsed m_tried m_remembered m_slots m_kept m_away m_input m_halfway m_output 1 2 ho4) 2 gX12_out_X12_refuses rfl rfl rfl ⟨rfl, pd_X12_refuses⟩ ⟨Nat.le_of_ble_eq_true rfl, Nat.le_of_ble_eq_true rfl⟩ 0 rfl rfl rfl rfl (Nat.le_of_ble_eq_true rfl) ⟨Nat.zero_le _, Nat.zero_le _⟩ [0, 1, 2, 3, 4, 5, 6, 7, 8, 9, 10] [] [0, 1, 2, 3, 4, 5, 6, 7, 8, 9, 10] rfl rfl rfl rfl dX12_out_16 19 rfl ?_
    obtain ⟨z5, hz5, hf⟩ := bnd hf
    cases hf
    exact v_zretq hz5 X (Nat.zero_le _) (Nat.zero_le _) dX12_out_19
theorem pd_X12_out : yX12_out.cls ≠ "java/lang/invoke/MethodHandle" ∧ yX12_out.cls ≠ "java/lang/invoke/VarHandle" ∧ (parseMethodDescriptor yX12_out.desc).map (fun d => d.parameters.length) = some 3 := by decide +kernel
theorem k_X12_time_w12 : ∀ w ∈ u_ws RX12 TX12 22, w ∈ wsX12_time := in_r _ [3, 4, 5, 6, 7, 8, 9, 10, 11, 12, 13, 14, 15, 16, 17, 18, 19, 20, 21, 22, 23, 24] rfl
theorem k_X12_time_1 : Cond.fieldLink RX12 72 "TicketGateModel" "thrown" "I" ∈ wsX12_time := List.mem_of_getElem? (i := 1) rfl
theorem k_X12_time_2 : Cond.fieldLink RX12 7 "TicketGateModel" "s" "[I" ∈ wsX12_time := List.mem_of_getElem? (i := 2) rfl
def f_X12_time (m_thrown : Int32) (m_s : Nat → Int32) : Option (Int32 × Int32) :=
  (rd m_s 463 0).bind fun x1 =>
  some (x1, 0)
set_option maxRecDepth 100000 in
set_option maxHeartbeats 4000000 in
theorem c_X12_time (l : Launch) {G : (Nat → Prop) → State → Heap → Prop} (hG : vG G) (D : va_G) (c9 : Nat → ClassId) (ad : Nat → Nat) (m_undoable : Int32) (m_undoStart : Int32) (m_thrown : Int32) (m_inputLength : Int32) (m_position : Int32) (m_start : Int32) (m_token : Int32) (m_value : Int32) (m_letters : Int32) (m_code : Int32) (m_place : Int32) (m_outputLength : Int32) (m_s : Nat → Int32) (m_parsed : Nat → Int32) (m_tried : Nat → Int32) (m_remembered : Nat → Int32) (m_slots : Nat → Int32) (m_kept : Nat → Int32) (m_away : Nat → Int32) (m_input : Nat → Int32) (m_halfway : Nat → Int32) (m_output : Nat → Int32)  {o : Int32 × Int32} (hf : f_X12_time m_thrown m_s = some o) : mI l yX12_time wsX12_time { frames := 0, cells := 0, slots := 0, locals := 0 } G D (tyA c9) [.ref (ad 0)] (wX12 ad c9 m_undoable m_undoStart m_thrown m_inputLength m_position m_start m_token m_value m_letters m_code m_place m_outputLength m_s m_parsed m_tried m_remembered m_slots m_kept m_away m_input m_halfway m_output) [] 0 0 o.1 (wX12 ad c9 m_undoable m_undoStart o.2 m_inputLength m_position m_start m_token m_value m_letters m_code m_place m_outputLength m_s m_parsed m_tried m_remembered m_slots m_kept m_away m_input m_halfway m_output) := by
  refine mI_of hG (cc := cX12_time) (maxL := 1) (ty := .int) (by decide) rfl (Nat.le_of_ble_eq_true rfl) ?_
  intro p e s m args below meth c A X
  have X : vX p s m args meth c cX12_time 1 (some .int) RX12 wsX12_time D (tyA c9) G A := X
  refine v_eq (lv2 := [(0, .ref (ad 0))]) rfl rfl rfl rfl ?_
  rw [f_X12_time] at hf
  refine v_aload_n X dX12_time_0 0 rfl rfl 1 rfl ?_
  refine v_iconst X dX12_time_1 ic_0 2 rfl ?_
  refine v_put X (C := RX12) (T := TX12) (N := 22) (ci := 11) (ty := tyX12 8) (ws' := (wX12 ad c9 m_undoable m_undoStart 0 m_inputLength m_position m_start m_token m_value m_letters m_code m_place m_outputLength m_s m_parsed m_tried m_remembered m_slots m_kept m_away m_input m_halfway m_output)) dX12_time_2 k_X12_time_w12 0 rfl rfl 8 (by decide) tyX12 tyX12_ok nmX12 k_X12_time_1 rfl rfl (tyX12_ok 8 (by decide)) rfl rfl (by decide) rfl 5 rfl ?_
  refine v_aload_n X dX12_time_5 0 rfl rfl 6 rfl ?_
  refine v_get X (C := RX12) (T := TX12) (N := 22) (ci := 11) (v := _) dX12_time_6 k_X12_time_w12 0 rfl rfl 0 (by decide) k_X12_time_2 rfl rfl 9 rfl ?_
  refine v_iconst X dX12_time_9 ic_0 10 rfl ?_
  obtain ⟨x1, hx1, hf⟩ := bnd hf
  refine v_iald X dX12_time_10 1 0 rfl rfl hx1 11 rfl ?_
  cases hf
  exact v_iret X (Nat.zero_le _) (Nat.zero_le _) dX12_time_11
theorem pd_X12_time : yX12_time.cls ≠ "java/lang/invoke/MethodHandle" ∧ yX12_time.cls ≠ "java/lang/invoke/VarHandle" ∧ (parseMethodDescriptor yX12_time.desc).map (fun d => d.parameters.length) = some 0 := by decide +kernel
theorem k_X12_seed_w12 : ∀ w ∈ u_ws RX12 TX12 22, w ∈ wsX12_seed := in_r _ [3, 4, 5, 6, 7, 8, 9, 10, 11, 12, 13, 14, 15, 16, 17, 18, 19, 20, 21, 22, 23, 24] rfl
theorem k_X12_seed_1 : Cond.fieldLink RX12 72 "TicketGateModel" "thrown" "I" ∈ wsX12_seed := List.mem_of_getElem? (i := 1) rfl
theorem k_X12_seed_2 : Cond.fieldLink RX12 7 "TicketGateModel" "s" "[I" ∈ wsX12_seed := List.mem_of_getElem? (i := 2) rfl
def f_X12_seed (m_thrown : Int32) (m_s : Nat → Int32) : Option (Int32 × Int32) :=
  (rd m_s 463 2).bind fun x1 =>
  some (x1, 0)
set_option maxRecDepth 100000 in
set_option maxHeartbeats 4000000 in
theorem c_X12_seed (l : Launch) {G : (Nat → Prop) → State → Heap → Prop} (hG : vG G) (D : va_G) (c9 : Nat → ClassId) (ad : Nat → Nat) (m_undoable : Int32) (m_undoStart : Int32) (m_thrown : Int32) (m_inputLength : Int32) (m_position : Int32) (m_start : Int32) (m_token : Int32) (m_value : Int32) (m_letters : Int32) (m_code : Int32) (m_place : Int32) (m_outputLength : Int32) (m_s : Nat → Int32) (m_parsed : Nat → Int32) (m_tried : Nat → Int32) (m_remembered : Nat → Int32) (m_slots : Nat → Int32) (m_kept : Nat → Int32) (m_away : Nat → Int32) (m_input : Nat → Int32) (m_halfway : Nat → Int32) (m_output : Nat → Int32)  {o : Int32 × Int32} (hf : f_X12_seed m_thrown m_s = some o) : mI l yX12_seed wsX12_seed { frames := 0, cells := 0, slots := 0, locals := 0 } G D (tyA c9) [.ref (ad 0)] (wX12 ad c9 m_undoable m_undoStart m_thrown m_inputLength m_position m_start m_token m_value m_letters m_code m_place m_outputLength m_s m_parsed m_tried m_remembered m_slots m_kept m_away m_input m_halfway m_output) [] 0 0 o.1 (wX12 ad c9 m_undoable m_undoStart o.2 m_inputLength m_position m_start m_token m_value m_letters m_code m_place m_outputLength m_s m_parsed m_tried m_remembered m_slots m_kept m_away m_input m_halfway m_output) := by
  refine mI_of hG (cc := cX12_seed) (maxL := 1) (ty := .int) (by decide) rfl (Nat.le_of_ble_eq_true rfl) ?_
  intro p e s m args below meth c A X
  have X : vX p s m args meth c cX12_seed 1 (some .int) RX12 wsX12_seed D (tyA c9) G A := X
  refine v_eq (lv2 := [(0, .ref (ad 0))]) rfl rfl rfl rfl ?_
  rw [f_X12_seed] at hf
  refine v_aload_n X dX12_seed_0 0 rfl rfl 1 rfl ?_
  refine v_iconst X dX12_seed_1 ic_0 2 rfl ?_
  refine v_put X (C := RX12) (T := TX12) (N := 22) (ci := 11) (ty := tyX12 8) (ws' := (wX12 ad c9 m_undoable m_undoStart 0 m_inputLength m_position m_start m_token m_value m_letters m_code m_place m_outputLength m_s m_parsed m_tried m_remembered m_slots m_kept m_away m_input m_halfway m_output)) dX12_seed_2 k_X12_seed_w12 0 rfl rfl 8 (by decide) tyX12 tyX12_ok nmX12 k_X12_seed_1 rfl rfl (tyX12_ok 8 (by decide)) rfl rfl (by decide) rfl 5 rfl ?_
  refine v_aload_n X dX12_seed_5 0 rfl rfl 6 rfl ?_
  refine v_get X (C := RX12) (T := TX12) (N := 22) (ci := 11) (v := _) dX12_seed_6 k_X12_seed_w12 0 rfl rfl 0 (by decide) k_X12_seed_2 rfl rfl 9 rfl ?_
  refine v_iconst X dX12_seed_9 ic_2 10 rfl ?_
  obtain ⟨x1, hx1, hf⟩ := bnd hf
  refine v_iald X dX12_seed_10 1 0 rfl rfl hx1 11 rfl ?_
  cases hf
  exact v_iret X (Nat.zero_le _) (Nat.zero_le _) dX12_seed_11
theorem pd_X12_seed : yX12_seed.cls ≠ "java/lang/invoke/MethodHandle" ∧ yX12_seed.cls ≠ "java/lang/invoke/VarHandle" ∧ (parseMethodDescriptor yX12_seed.desc).map (fun d => d.parameters.length) = some 0 := by decide +kernel
theorem k_X12_realmCount_w12 : ∀ w ∈ u_ws RX12 TX12 22, w ∈ wsX12_realmCount := in_r _ [3, 4, 5, 6, 7, 8, 9, 10, 11, 12, 13, 14, 15, 16, 17, 18, 19, 20, 21, 22, 23, 24] rfl
theorem k_X12_realmCount_1 : Cond.fieldLink RX12 72 "TicketGateModel" "thrown" "I" ∈ wsX12_realmCount := List.mem_of_getElem? (i := 1) rfl
theorem k_X12_realmCount_2 : Cond.fieldLink RX12 7 "TicketGateModel" "s" "[I" ∈ wsX12_realmCount := List.mem_of_getElem? (i := 2) rfl
def f_X12_realmCount (m_thrown : Int32) (m_s : Nat → Int32) : Option (Int32 × Int32) :=
  (rd m_s 463 3).bind fun x1 =>
  some (x1, 0)
set_option maxRecDepth 100000 in
set_option maxHeartbeats 4000000 in
theorem c_X12_realmCount (l : Launch) {G : (Nat → Prop) → State → Heap → Prop} (hG : vG G) (D : va_G) (c9 : Nat → ClassId) (ad : Nat → Nat) (m_undoable : Int32) (m_undoStart : Int32) (m_thrown : Int32) (m_inputLength : Int32) (m_position : Int32) (m_start : Int32) (m_token : Int32) (m_value : Int32) (m_letters : Int32) (m_code : Int32) (m_place : Int32) (m_outputLength : Int32) (m_s : Nat → Int32) (m_parsed : Nat → Int32) (m_tried : Nat → Int32) (m_remembered : Nat → Int32) (m_slots : Nat → Int32) (m_kept : Nat → Int32) (m_away : Nat → Int32) (m_input : Nat → Int32) (m_halfway : Nat → Int32) (m_output : Nat → Int32)  {o : Int32 × Int32} (hf : f_X12_realmCount m_thrown m_s = some o) : mI l yX12_realmCount wsX12_realmCount { frames := 0, cells := 0, slots := 0, locals := 0 } G D (tyA c9) [.ref (ad 0)] (wX12 ad c9 m_undoable m_undoStart m_thrown m_inputLength m_position m_start m_token m_value m_letters m_code m_place m_outputLength m_s m_parsed m_tried m_remembered m_slots m_kept m_away m_input m_halfway m_output) [] 0 0 o.1 (wX12 ad c9 m_undoable m_undoStart o.2 m_inputLength m_position m_start m_token m_value m_letters m_code m_place m_outputLength m_s m_parsed m_tried m_remembered m_slots m_kept m_away m_input m_halfway m_output) := by
  refine mI_of hG (cc := cX12_realmCount) (maxL := 1) (ty := .int) (by decide) rfl (Nat.le_of_ble_eq_true rfl) ?_
  intro p e s m args below meth c A X
  have X : vX p s m args meth c cX12_realmCount 1 (some .int) RX12 wsX12_realmCount D (tyA c9) G A := X
  refine v_eq (lv2 := [(0, .ref (ad 0))]) rfl rfl rfl rfl ?_
  rw [f_X12_realmCount] at hf
  refine v_aload_n X dX12_realmCount_0 0 rfl rfl 1 rfl ?_
  refine v_iconst X dX12_realmCount_1 ic_0 2 rfl ?_
  refine v_put X (C := RX12) (T := TX12) (N := 22) (ci := 11) (ty := tyX12 8) (ws' := (wX12 ad c9 m_undoable m_undoStart 0 m_inputLength m_position m_start m_token m_value m_letters m_code m_place m_outputLength m_s m_parsed m_tried m_remembered m_slots m_kept m_away m_input m_halfway m_output)) dX12_realmCount_2 k_X12_realmCount_w12 0 rfl rfl 8 (by decide) tyX12 tyX12_ok nmX12 k_X12_realmCount_1 rfl rfl (tyX12_ok 8 (by decide)) rfl rfl (by decide) rfl 5 rfl ?_
  refine v_aload_n X dX12_realmCount_5 0 rfl rfl 6 rfl ?_
  refine v_get X (C := RX12) (T := TX12) (N := 22) (ci := 11) (v := _) dX12_realmCount_6 k_X12_realmCount_w12 0 rfl rfl 0 (by decide) k_X12_realmCount_2 rfl rfl 9 rfl ?_
  refine v_iconst X dX12_realmCount_9 ic_3 10 rfl ?_
  obtain ⟨x1, hx1, hf⟩ := bnd hf
  refine v_iald X dX12_realmCount_10 1 0 rfl rfl hx1 11 rfl ?_
  cases hf
  exact v_iret X (Nat.zero_le _) (Nat.zero_le _) dX12_realmCount_11
theorem pd_X12_realmCount : yX12_realmCount.cls ≠ "java/lang/invoke/MethodHandle" ∧ yX12_realmCount.cls ≠ "java/lang/invoke/VarHandle" ∧ (parseMethodDescriptor yX12_realmCount.desc).map (fun d => d.parameters.length) = some 0 := by decide +kernel
theorem k_X12_userCount_w12 : ∀ w ∈ u_ws RX12 TX12 22, w ∈ wsX12_userCount := in_r _ [3, 4, 5, 6, 7, 8, 9, 10, 11, 12, 13, 14, 15, 16, 17, 18, 19, 20, 21, 22, 23, 24] rfl
theorem k_X12_userCount_1 : Cond.fieldLink RX12 72 "TicketGateModel" "thrown" "I" ∈ wsX12_userCount := List.mem_of_getElem? (i := 1) rfl
theorem k_X12_userCount_2 : Cond.fieldLink RX12 7 "TicketGateModel" "s" "[I" ∈ wsX12_userCount := List.mem_of_getElem? (i := 2) rfl
def f_X12_userCount (m_thrown : Int32) (m_s : Nat → Int32) : Option (Int32 × Int32) :=
  (rd m_s 463 4).bind fun x1 =>
  some (x1, 0)
set_option maxRecDepth 100000 in
set_option maxHeartbeats 4000000 in
theorem c_X12_userCount (l : Launch) {G : (Nat → Prop) → State → Heap → Prop} (hG : vG G) (D : va_G) (c9 : Nat → ClassId) (ad : Nat → Nat) (m_undoable : Int32) (m_undoStart : Int32) (m_thrown : Int32) (m_inputLength : Int32) (m_position : Int32) (m_start : Int32) (m_token : Int32) (m_value : Int32) (m_letters : Int32) (m_code : Int32) (m_place : Int32) (m_outputLength : Int32) (m_s : Nat → Int32) (m_parsed : Nat → Int32) (m_tried : Nat → Int32) (m_remembered : Nat → Int32) (m_slots : Nat → Int32) (m_kept : Nat → Int32) (m_away : Nat → Int32) (m_input : Nat → Int32) (m_halfway : Nat → Int32) (m_output : Nat → Int32)  {o : Int32 × Int32} (hf : f_X12_userCount m_thrown m_s = some o) : mI l yX12_userCount wsX12_userCount { frames := 0, cells := 0, slots := 0, locals := 0 } G D (tyA c9) [.ref (ad 0)] (wX12 ad c9 m_undoable m_undoStart m_thrown m_inputLength m_position m_start m_token m_value m_letters m_code m_place m_outputLength m_s m_parsed m_tried m_remembered m_slots m_kept m_away m_input m_halfway m_output) [] 0 0 o.1 (wX12 ad c9 m_undoable m_undoStart o.2 m_inputLength m_position m_start m_token m_value m_letters m_code m_place m_outputLength m_s m_parsed m_tried m_remembered m_slots m_kept m_away m_input m_halfway m_output) := by
  refine mI_of hG (cc := cX12_userCount) (maxL := 1) (ty := .int) (by decide) rfl (Nat.le_of_ble_eq_true rfl) ?_
  intro p e s m args below meth c A X
  have X : vX p s m args meth c cX12_userCount 1 (some .int) RX12 wsX12_userCount D (tyA c9) G A := X
  refine v_eq (lv2 := [(0, .ref (ad 0))]) rfl rfl rfl rfl ?_
  rw [f_X12_userCount] at hf
  refine v_aload_n X dX12_userCount_0 0 rfl rfl 1 rfl ?_
  refine v_iconst X dX12_userCount_1 ic_0 2 rfl ?_
  refine v_put X (C := RX12) (T := TX12) (N := 22) (ci := 11) (ty := tyX12 8) (ws' := (wX12 ad c9 m_undoable m_undoStart 0 m_inputLength m_position m_start m_token m_value m_letters m_code m_place m_outputLength m_s m_parsed m_tried m_remembered m_slots m_kept m_away m_input m_halfway m_output)) dX12_userCount_2 k_X12_userCount_w12 0 rfl rfl 8 (by decide) tyX12 tyX12_ok nmX12 k_X12_userCount_1 rfl rfl (tyX12_ok 8 (by decide)) rfl rfl (by decide) rfl 5 rfl ?_
  refine v_aload_n X dX12_userCount_5 0 rfl rfl 6 rfl ?_
  refine v_get X (C := RX12) (T := TX12) (N := 22) (ci := 11) (v := _) dX12_userCount_6 k_X12_userCount_w12 0 rfl rfl 0 (by decide) k_X12_userCount_2 rfl rfl 9 rfl ?_
  refine v_iconst X dX12_userCount_9 ic_4 10 rfl ?_
  obtain ⟨x1, hx1, hf⟩ := bnd hf
  refine v_iald X dX12_userCount_10 1 0 rfl rfl hx1 11 rfl ?_
  cases hf
  exact v_iret X (Nat.zero_le _) (Nat.zero_le _) dX12_userCount_11
theorem pd_X12_userCount : yX12_userCount.cls ≠ "java/lang/invoke/MethodHandle" ∧ yX12_userCount.cls ≠ "java/lang/invoke/VarHandle" ∧ (parseMethodDescriptor yX12_userCount.desc).map (fun d => d.parameters.length) = some 0 := by decide +kernel
theorem k_X12_serviceCount_w12 : ∀ w ∈ u_ws RX12 TX12 22, w ∈ wsX12_serviceCount := in_r _ [3, 4, 5, 6, 7, 8, 9, 10, 11, 12, 13, 14, 15, 16, 17, 18, 19, 20, 21, 22, 23, 24] rfl
theorem k_X12_serviceCount_1 : Cond.fieldLink RX12 72 "TicketGateModel" "thrown" "I" ∈ wsX12_serviceCount := List.mem_of_getElem? (i := 1) rfl
theorem k_X12_serviceCount_2 : Cond.fieldLink RX12 7 "TicketGateModel" "s" "[I" ∈ wsX12_serviceCount := List.mem_of_getElem? (i := 2) rfl
def f_X12_serviceCount (m_thrown : Int32) (m_s : Nat → Int32) : Option (Int32 × Int32) :=
  (rd m_s 463 5).bind fun x1 =>
  some (x1, 0)
set_option maxRecDepth 100000 in
set_option maxHeartbeats 4000000 in
theorem c_X12_serviceCount (l : Launch) {G : (Nat → Prop) → State → Heap → Prop} (hG : vG G) (D : va_G) (c9 : Nat → ClassId) (ad : Nat → Nat) (m_undoable : Int32) (m_undoStart : Int32) (m_thrown : Int32) (m_inputLength : Int32) (m_position : Int32) (m_start : Int32) (m_token : Int32) (m_value : Int32) (m_letters : Int32) (m_code : Int32) (m_place : Int32) (m_outputLength : Int32) (m_s : Nat → Int32) (m_parsed : Nat → Int32) (m_tried : Nat → Int32) (m_remembered : Nat → Int32) (m_slots : Nat → Int32) (m_kept : Nat → Int32) (m_away : Nat → Int32) (m_input : Nat → Int32) (m_halfway : Nat → Int32) (m_output : Nat → Int32)  {o : Int32 × Int32} (hf : f_X12_serviceCount m_thrown m_s = some o) : mI l yX12_serviceCount wsX12_serviceCount { frames := 0, cells := 0, slots := 0, locals := 0 } G D (tyA c9) [.ref (ad 0)] (wX12 ad c9 m_undoable m_undoStart m_thrown m_inputLength m_position m_start m_token m_value m_letters m_code m_place m_outputLength m_s m_parsed m_tried m_remembered m_slots m_kept m_away m_input m_halfway m_output) [] 0 0 o.1 (wX12 ad c9 m_undoable m_undoStart o.2 m_inputLength m_position m_start m_token m_value m_letters m_code m_place m_outputLength m_s m_parsed m_tried m_remembered m_slots m_kept m_away m_input m_halfway m_output) := by
  refine mI_of hG (cc := cX12_serviceCount) (maxL := 1) (ty := .int) (by decide) rfl (Nat.le_of_ble_eq_true rfl) ?_
  intro p e s m args below meth c A X
  have X : vX p s m args meth c cX12_serviceCount 1 (some .int) RX12 wsX12_serviceCount D (tyA c9) G A := X
  refine v_eq (lv2 := [(0, .ref (ad 0))]) rfl rfl rfl rfl ?_
  rw [f_X12_serviceCount] at hf
  refine v_aload_n X dX12_serviceCount_0 0 rfl rfl 1 rfl ?_
  refine v_iconst X dX12_serviceCount_1 ic_0 2 rfl ?_
  refine v_put X (C := RX12) (T := TX12) (N := 22) (ci := 11) (ty := tyX12 8) (ws' := (wX12 ad c9 m_undoable m_undoStart 0 m_inputLength m_position m_start m_token m_value m_letters m_code m_place m_outputLength m_s m_parsed m_tried m_remembered m_slots m_kept m_away m_input m_halfway m_output)) dX12_serviceCount_2 k_X12_serviceCount_w12 0 rfl rfl 8 (by decide) tyX12 tyX12_ok nmX12 k_X12_serviceCount_1 rfl rfl (tyX12_ok 8 (by decide)) rfl rfl (by decide) rfl 5 rfl ?_
  refine v_aload_n X dX12_serviceCount_5 0 rfl rfl 6 rfl ?_
  refine v_get X (C := RX12) (T := TX12) (N := 22) (ci := 11) (v := _) dX12_serviceCount_6 k_X12_serviceCount_w12 0 rfl rfl 0 (by decide) k_X12_serviceCount_2 rfl rfl 9 rfl ?_
  refine v_iconst X dX12_serviceCount_9 ic_5 10 rfl ?_
  obtain ⟨x1, hx1, hf⟩ := bnd hf
  refine v_iald X dX12_serviceCount_10 1 0 rfl rfl hx1 11 rfl ?_
  cases hf
  exact v_iret X (Nat.zero_le _) (Nat.zero_le _) dX12_serviceCount_11
theorem pd_X12_serviceCount : yX12_serviceCount.cls ≠ "java/lang/invoke/MethodHandle" ∧ yX12_serviceCount.cls ≠ "java/lang/invoke/VarHandle" ∧ (parseMethodDescriptor yX12_serviceCount.desc).map (fun d => d.parameters.length) = some 0 := by decide +kernel
theorem k_X12_findName_w12 : ∀ w ∈ u_ws RX12 TX12 22, w ∈ wsX12_findName := in_r _ [37, 38, 39, 40, 41, 42, 43, 44, 45, 46, 47, 48, 49, 50, 51, 52, 53, 54, 55, 56, 57, 58] rfl
theorem k_X12_findName_1 : Cond.fieldLink RX12 72 "TicketGateModel" "thrown" "I" ∈ wsX12_findName := List.mem_of_getElem? (i := 1) rfl
theorem k_X12_findName_2 : Cond.fieldLink RX12 55 "TicketGateModel" "inputLength" "I" ∈ wsX12_findName := List.mem_of_getElem? (i := 2) rfl
theorem k_X12_findName_3 : Cond.fieldLink RX12 7 "TicketGateModel" "s" "[I" ∈ wsX12_findName := List.mem_of_getElem? (i := 3) rfl
def f_X12_findName (m_thrown : Int32) (m_inputLength : Int32) (m_s : Nat → Int32) (m_input : Nat → Int32) : Option (Int32 × Int32) :=
  (f_X12_nameFrom m_input 0 m_inputLength).bind fun o1 =>
  if o1 = (-1) then (
    some ((-1), 0))
  else (
    (f_X12_named m_s o1).bind fun o2 =>
    some (o2, 0))
set_option maxRecDepth 100000 in
set_option maxHeartbeats 4000000 in
theorem c_X12_findName (l : Launch) {G : (Nat → Prop) → State → Heap → Prop} (hG : vG G) (D : va_G) (c9 : Nat → ClassId) (ad : Nat → Nat) (m_undoable : Int32) (m_undoStart : Int32) (m_thrown : Int32) (m_inputLength : Int32) (m_position : Int32) (m_start : Int32) (m_token : Int32) (m_value : Int32) (m_letters : Int32) (m_code : Int32) (m_place : Int32) (m_outputLength : Int32) (m_s : Nat → Int32) (m_parsed : Nat → Int32) (m_tried : Nat → Int32) (m_remembered : Nat → Int32) (m_slots : Nat → Int32) (m_kept : Nat → Int32) (m_away : Nat → Int32) (m_input : Nat → Int32) (m_halfway : Nat → Int32) (m_output : Nat → Int32)  {o : Int32 × Int32} (hf : f_X12_findName m_thrown m_inputLength m_s m_input = some o) : mI l yX12_findName wsX12_findName { frames := 3, cells := 0, slots := 0, locals := 66 } G D (tyA c9) [.ref (ad 0)] (wX12 ad c9 m_undoable m_undoStart m_thrown m_inputLength m_position m_start m_token m_value m_letters m_code m_place m_outputLength m_s m_parsed m_tried m_remembered m_slots m_kept m_away m_input m_halfway m_output) [] 0 0 o.1 (wX12 ad c9 m_undoable m_undoStart o.2 m_inputLength m_position m_start m_token m_value m_letters m_code m_place m_outputLength m_s m_parsed m_tried m_remembered m_slots m_kept m_away m_input m_halfway m_output) := by
  refine mI_of hG (cc := cX12_findName) (maxL := 2) (ty := .int) (by decide) rfl (Nat.le_of_ble_eq_true rfl) ?_
  intro p e s m args below meth c A X
  have X : vX p s m args meth c cX12_findName 2 (some .int) RX12 wsX12_findName D (tyA c9) G A := X
  refine v_eq (lv2 := [(0, .ref (ad 0))]) rfl rfl rfl rfl ?_
  rw [f_X12_findName] at hf
  refine v_aload_n X dX12_findName_0 0 rfl rfl 1 rfl ?_
  refine v_iconst X dX12_findName_1 ic_0 2 rfl ?_
  refine v_put X (C := RX12) (T := TX12) (N := 22) (ci := 11) (ty := tyX12 8) (ws' := (wX12 ad c9 m_undoable m_undoStart 0 m_inputLength m_position m_start m_token m_value m_letters m_code m_place m_outputLength m_s m_parsed m_tried m_remembered m_slots m_kept m_away m_input m_halfway m_output)) dX12_findName_2 k_X12_findName_w12 0 rfl rfl 8 (by decide) tyX12 tyX12_ok nmX12 k_X12_findName_1 rfl rfl (tyX12_ok 8 (by decide)) rfl rfl (by decide) rfl 5 rfl ?_
  refine v_aload_n X dX12_findName_5 0 rfl rfl 6 rfl ?_
  refine v_iconst X dX12_findName_6 ic_0 7 rfl ?_
  refine v_aload_n X dX12_findName_7 0 rfl rfl 8 rfl ?_
  refine v_get X (C := RX12) (T := TX12) (N := 22) (ci := 11) (v := _) dX12_findName_8 k_X12_findName_w12 0 rfl rfl 11 (by decide) k_X12_findName_2 rfl rfl 11 rfl ?_
  obtain ⟨o1, ho1, hf⟩ := bnd hf
  refine v_callVi X (ci := 11) (T := TX12) (C := RX12) (As := [.int 0, .int m_inputLength]) (rest := []) (ws' := (wX12 ad c9 m_undoable m_undoStart 0 m_inputLength m_position m_start m_token m_value m_letters m_code m_place m_outputLength m_s m_parsed m_tried m_remembered m_slots m_kept m_away m_input m_halfway m_output)) (c_X12_nameFrom l hG D c9 ad m_undoable m_undoStart 0 m_inputLength m_position m_start m_token m_value m_letters m_code m_place m_outputLength m_s m_parsed m_tried m_remembered m_slots m_kept m_away m_input m_halfway m_output 0 m_inputLength ho1) 2 gX12_findName_X12_nameFrom rfl rfl rfl ⟨rfl, pd_X12_nameFrom⟩ ⟨Nat.le_of_ble_eq_true rfl, Nat.le_of_ble_eq_true rfl⟩ 0 rfl rfl rfl rfl (Nat.le_of_ble_eq_true rfl) ⟨Nat.zero_le _, Nat.zero_le _⟩ [0, 1, 2, 3, 4, 5, 6, 7, 8, 9, 10] [] [0, 1, 2, 3, 4, 5, 6, 7, 8, 9, 10] rfl rfl rfl rfl dX12_findName_11 14 rfl ?_
  refine v_istore_n X (lv' := [(1, .int o1), (0, .ref (ad 0))]) dX12_findName_14 rfl (by decide) rfl 15 rfl ?_
  refine v_iload_n X dX12_findName_15 0 rfl rfl 16 rfl ?_
  refine v_iconst X dX12_findName_16 ic_m1 17 rfl ?_
  refine v_icmp_ne X (tgt := 24) dX12_findName_17 rfl 20 rfl hf (fun hf => ?_) (fun hf => ?_)
  · refine v_aload_n X dX12_findName_24 1 rfl rfl 25 rfl ?_
    refine v_get X (C := RX12) (T := TX12) (N := 22) (ci := 11) (v := _) dX12_findName_25 k_X12_findName_w12 0 rfl rfl 0 (by decide) k_X12_findName_3 rfl rfl 28 rfl ?_
    refine v_iload_n X dX12_findName_28 0 rfl rfl 29 rfl ?_
    obtain ⟨o2, ho2, hf⟩ := bnd hf
    refine v_callSi X (As := [.ref (ad 1), .int o1]) (rest := []) (ws' := (wX12 ad c9 m_undoable m_undoStart 0 m_inputLength m_position m_start m_token m_value m_letters m_code m_place m_outputLength m_s m_parsed m_tried m_remembered m_slots m_kept m_away m_input m_halfway m_output)) (c_X12_named l hG D c9 (ad 1) m_s o1 ho2) 2 gX12_findName_X12_named rfl rfl rfl pd_X12_named ⟨Nat.le_of_ble_eq_true rfl, Nat.le_of_ble_eq_true rfl⟩ rfl rfl (Nat.le_of_ble_eq_true rfl) ⟨Nat.zero_le _, Nat.zero_le _⟩ [1] [0, 2, 3, 4, 5, 6, 7, 8, 9, 10] [0, 10, 1, 2, 3, 4, 5, 6, 7, 8, 9] rfl rfl rfl rfl dX12_findName_29 32 rfl ?_
    cases hf
    exact v_iret X (Nat.zero_le _) (Nat.zero_le _) dX12_findName_32
  · refine v_iconst X dX12_findName_20 ic_m1 21 rfl ?_
    refine v_goto X (tgt := 32) dX12_findName_21 rfl ?_
    cases hf
    exact v_iret X (Nat.zero_le _) (Nat.zero_le _) dX12_findName_32
theorem pd_X12_findName : yX12_findName.cls ≠ "java/lang/invoke/MethodHandle" ∧ yX12_findName.cls ≠ "java/lang/invoke/VarHandle" ∧ (parseMethodDescriptor yX12_findName.desc).map (fun d => d.parameters.length) = some 0 := by decide +kernel
theorem k_X12_lifetimeOf_w12 : ∀ w ∈ u_ws RX12 TX12 22, w ∈ wsX12_lifetimeOf := in_r _ [22, 23, 24, 25, 26, 27, 28, 29, 30, 31, 32, 33, 34, 35, 36, 37, 38, 39, 40, 41, 42, 43] rfl
theorem k_X12_lifetimeOf_1 : Cond.fieldLink RX12 7 "TicketGateModel" "s" "[I" ∈ wsX12_lifetimeOf := List.mem_of_getElem? (i := 1) rfl
def f_X12_lifetimeOf (m_thrown : Int32) (m_s : Nat → Int32) (v1 : Int32) : Option (Int32 × Int32) :=
  (f_X12_noRealm m_thrown m_s v1).bind fun o1 =>
  if o1.1 = 0 then (
    (f_X12_ofRealm v1).bind fun o2 =>
    (rd m_s 463 (o2 + 1)).bind fun x3 =>
    some (x3, o1.2))
  else (
    some (0, o1.2))
set_option maxRecDepth 100000 in
set_option maxHeartbeats 4000000 in
theorem c_X12_lifetimeOf (l : Launch) {G : (Nat → Prop) → State → Heap → Prop} (hG : vG G) (D : va_G) (c9 : Nat → ClassId) (ad : Nat → Nat) (m_undoable : Int32) (m_undoStart : Int32) (m_thrown : Int32) (m_inputLength : Int32) (m_position : Int32) (m_start : Int32) (m_token : Int32) (m_value : Int32) (m_letters : Int32) (m_code : Int32) (m_place : Int32) (m_outputLength : Int32) (m_s : Nat → Int32) (m_parsed : Nat → Int32) (m_tried : Nat → Int32) (m_remembered : Nat → Int32) (m_slots : Nat → Int32) (m_kept : Nat → Int32) (m_away : Nat → Int32) (m_input : Nat → Int32) (m_halfway : Nat → Int32) (m_output : Nat → Int32) (v1 : Int32) {o : Int32 × Int32} (hf : f_X12_lifetimeOf m_thrown m_s v1 = some o) : mI l yX12_lifetimeOf wsX12_lifetimeOf { frames := 3, cells := 0, slots := 0, locals := 66 } G D (tyA c9) [.ref (ad 0), .int v1] (wX12 ad c9 m_undoable m_undoStart m_thrown m_inputLength m_position m_start m_token m_value m_letters m_code m_place m_outputLength m_s m_parsed m_tried m_remembered m_slots m_kept m_away m_input m_halfway m_output) [] 0 0 o.1 (wX12 ad c9 m_undoable m_undoStart o.2 m_inputLength m_position m_start m_token m_value m_letters m_code m_place m_outputLength m_s m_parsed m_tried m_remembered m_slots m_kept m_away m_input m_halfway m_output) := by
  refine mI_of hG (cc := cX12_lifetimeOf) (maxL := 2) (ty := .int) (by decide) rfl (Nat.le_of_ble_eq_true rfl) ?_
  intro p e s m args below meth c A X
  have X : vX p s m args meth c cX12_lifetimeOf 2 (some .int) RX12 wsX12_lifetimeOf D (tyA c9) G A := X
  refine v_eq (lv2 := [(0, .ref (ad 0)), (1, .int v1)]) rfl rfl rfl rfl ?_
  rw [f_X12_lifetimeOf] at hf
  refine v_aload_n X dX12_lifetimeOf_0 0 rfl rfl 1 rfl ?_
  refine v_iload_n X dX12_lifetimeOf_1 1 rfl rfl 2 rfl ?_
  obtain ⟨o1, ho1, hf⟩ := bnd hf
  refine v_callVi X (ci := 11) (T := TX12) (C := RX12) (As := [.int v1]) (rest := []) (ws' := (wX12 ad c9 m_undoable m_undoStart o1.2 m_inputLength m_position m_start m_token m_value m_letters m_code m_place m_outputLength m_s m_parsed m_tried m_remembered m_slots m_kept m_away m_input m_halfway m_output)) (c_X12_noRealm l hG D c9 ad m_undoable m_undoStart m_thrown m_inputLength m_position m_start m_token m_value m_letters m_code m_place m_outputLength m_s m_parsed m_tried m_remembered m_slots m_kept m_away m_input m_halfway m_output v1 ho1) 1 gX12_lifetimeOf_X12_noRealm rfl rfl rfl ⟨rfl, pd_X12_noRealm⟩ ⟨Nat.le_of_ble_eq_true rfl, Nat.le_of_ble_eq_true rfl⟩ 0 rfl rfl rfl rfl (Nat.le_of_ble_eq_true rfl) ⟨Nat.zero_le _, Nat.zero_le _⟩ [0, 1, 2, 3, 4, 5, 6, 7, 8, 9, 10] [] [0, 1, 2, 3, 4, 5, 6, 7, 8, 9, 10] rfl rfl rfl rfl dX12_lifetimeOf_2 5 rfl ?_
  refine v_if_eq X (tgt := 10) dX12_lifetimeOf_5 rfl 8 rfl hf (fun hf => ?_) (fun hf => ?_)
  · refine v_aload_n X dX12_lifetimeOf_10 0 rfl rfl 11 rfl ?_
    refine v_get X (C := RX12) (T := TX12) (N := 22) (ci := 11) (v := _) dX12_lifetimeOf_11 k_X12_lifetimeOf_w12 0 rfl rfl 0 (by decide) k_X12_lifetimeOf_1 rfl rfl 14 rfl ?_
    refine v_iload_n X dX12_lifetimeOf_14 1 rfl rfl 15 rfl ?_
    obtain ⟨o2, ho2, hf⟩ := bnd hf
    refine v_callSi X (As := [.int v1]) (rest := [.ref (ad 1)]) (ws' := (wX12 ad c9 m_undoable m_undoStart o1.2 m_inputLength m_position m_start m_token m_value m_letters m_code m_place m_outputLength m_s m_parsed m_tried m_remembered m_slots m_kept m_away m_input m_halfway m_output)) (c_X12_ofRealm l hG D c9 v1 ho2) 1 gX12_lifetimeOf_X12_ofRealm rfl rfl rfl pd_X12_ofRealm ⟨Nat.le_of_ble_eq_true rfl, Nat.le_of_ble_eq_true rfl⟩ rfl rfl (Nat.le_of_ble_eq_true rfl) ⟨Nat.zero_le _, Nat.zero_le _⟩ [] [0, 1, 2, 3, 4, 5, 6, 7, 8, 9, 10] [0, 1, 2, 3, 4, 5, 6, 7, 8, 9, 10] rfl rfl rfl rfl dX12_lifetimeOf_15 18 rfl ?_
    refine v_iconst X dX12_lifetimeOf_18 ic_1 19 rfl ?_
    refine v_iadd X dX12_lifetimeOf_19 20 rfl ?_
    obtain ⟨x3, hx3, hf⟩ := bnd hf
    refine v_iald X dX12_lifetimeOf_20 1 0 rfl rfl hx3 21 rfl ?_
    cases hf
    exact v_iret X (Nat.zero_le _) (Nat.zero_le _) dX12_lifetimeOf_21
  · refine v_iconst X dX12_lifetimeOf_8 ic_0 9 rfl ?_
    cases hf
    exact v_iret X (Nat.zero_le _) (Nat.zero_le _) dX12_lifetimeOf_9
theorem pd_X12_lifetimeOf : yX12_lifetimeOf.cls ≠ "java/lang/invoke/MethodHandle" ∧ yX12_lifetimeOf.cls ≠ "java/lang/invoke/VarHandle" ∧ (parseMethodDescriptor yX12_lifetimeOf.desc).map (fun d => d.parameters.length) = some 1 := by decide +kernel
theorem k_X12_clockOf_w12 : ∀ w ∈ u_ws RX12 TX12 22, w ∈ wsX12_clockOf := in_r _ [22, 23, 24, 25, 26, 27, 28, 29, 30, 31, 32, 33, 34, 35, 36, 37, 38, 39, 40, 41, 42, 43] rfl
theorem k_X12_clockOf_1 : Cond.fieldLink RX12 7 "TicketGateModel" "s" "[I" ∈ wsX12_clockOf := List.mem_of_getElem? (i := 1) rfl
def f_X12_clockOf (m_thrown : Int32) (m_s : Nat → Int32) (v1 : Int32) : Option (Int32 × Int32) :=
  (f_X12_noRealm m_thrown m_s v1).bind fun o1 =>
  if o1.1 = 0 then (
    (rd m_s 463 0).bind fun x2 =>
    (f_X12_ofRealm v1).bind fun o3 =>
    (rd m_s 463 (o3 + 3)).bind fun x4 =>
    some ((x2 + x4), o1.2))
  else (
    some (0, o1.2))
set_option maxRecDepth 100000 in
set_option maxHeartbeats 4000000 in
theorem c_X12_clockOf (l : Launch) {G : (Nat → Prop) → State → Heap → Prop} (hG : vG G) (D : va_G) (c9 : Nat → ClassId) (ad : Nat → Nat) (m_undoable : Int32) (m_undoStart : Int32) (m_thrown : Int32) (m_inputLength : Int32) (m_position : Int32) (m_start : Int32) (m_token : Int32) (m_value : Int32) (m_letters : Int32) (m_code : Int32) (m_place : Int32) (m_outputLength : Int32) (m_s : Nat → Int32) (m_parsed : Nat → Int32) (m_tried : Nat → Int32) (m_remembered : Nat → Int32) (m_slots : Nat → Int32) (m_kept : Nat → Int32) (m_away : Nat → Int32) (m_input : Nat → Int32) (m_halfway : Nat → Int32) (m_output : Nat → Int32) (v1 : Int32) {o : Int32 × Int32} (hf : f_X12_clockOf m_thrown m_s v1 = some o) : mI l yX12_clockOf wsX12_clockOf { frames := 3, cells := 0, slots := 0, locals := 66 } G D (tyA c9) [.ref (ad 0), .int v1] (wX12 ad c9 m_undoable m_undoStart m_thrown m_inputLength m_position m_start m_token m_value m_letters m_code m_place m_outputLength m_s m_parsed m_tried m_remembered m_slots m_kept m_away m_input m_halfway m_output) [] 0 0 o.1 (wX12 ad c9 m_undoable m_undoStart o.2 m_inputLength m_position m_start m_token m_value m_letters m_code m_place m_outputLength m_s m_parsed m_tried m_remembered m_slots m_kept m_away m_input m_halfway m_output) := by
  refine mI_of hG (cc := cX12_clockOf) (maxL := 2) (ty := .int) (by decide) rfl (Nat.le_of_ble_eq_true rfl) ?_
  intro p e s m args below meth c A X
  have X : vX p s m args meth c cX12_clockOf 2 (some .int) RX12 wsX12_clockOf D (tyA c9) G A := X
  refine v_eq (lv2 := [(0, .ref (ad 0)), (1, .int v1)]) rfl rfl rfl rfl ?_
  rw [f_X12_clockOf] at hf
  refine v_aload_n X dX12_clockOf_0 0 rfl rfl 1 rfl ?_
  refine v_iload_n X dX12_clockOf_1 1 rfl rfl 2 rfl ?_
  obtain ⟨o1, ho1, hf⟩ := bnd hf
  refine v_callVi X (ci := 11) (T := TX12) (C := RX12) (As := [.int v1]) (rest := []) (ws' := (wX12 ad c9 m_undoable m_undoStart o1.2 m_inputLength m_position m_start m_token m_value m_letters m_code m_place m_outputLength m_s m_parsed m_tried m_remembered m_slots m_kept m_away m_input m_halfway m_output)) (c_X12_noRealm l hG D c9 ad m_undoable m_undoStart m_thrown m_inputLength m_position m_start m_token m_value m_letters m_code m_place m_outputLength m_s m_parsed m_tried m_remembered m_slots m_kept m_away m_input m_halfway m_output v1 ho1) 1 gX12_clockOf_X12_noRealm rfl rfl rfl ⟨rfl, pd_X12_noRealm⟩ ⟨Nat.le_of_ble_eq_true rfl, Nat.le_of_ble_eq_true rfl⟩ 0 rfl rfl rfl rfl (Nat.le_of_ble_eq_true rfl) ⟨Nat.zero_le _, Nat.zero_le _⟩ [0, 1, 2, 3, 4, 5, 6, 7, 8, 9, 10] [] [0, 1, 2, 3, 4, 5, 6, 7, 8, 9, 10] rfl rfl rfl rfl dX12_clockOf_2 5 rfl ?_
  refine v_if_eq X (tgt := 10) dX12_clockOf_5 rfl 8 rfl hf (fun hf => ?_) (fun hf => ?_)
  · refine v_aload_n X dX12_clockOf_10 0 rfl rfl 11 rfl ?_
    refine v_get X (C := RX12) (T := TX12) (N := 22) (ci := 11) (v := _) dX12_clockOf_11 k_X12_clockOf_w12 0 rfl rfl 0 (by decide) k_X12_clockOf_1 rfl rfl 14 rfl ?_
    refine v_iconst X dX12_clockOf_14 ic_0 15 rfl ?_
    obtain ⟨x2, hx2, hf⟩ := bnd hf
    refine v_iald X dX12_clockOf_15 1 0 rfl rfl hx2 16 rfl ?_
    refine v_aload_n X dX12_clockOf_16 0 rfl rfl 17 rfl ?_
    refine v_get X (C := RX12) (T := TX12) (N := 22) (ci := 11) (v := _) dX12_clockOf_17 k_X12_clockOf_w12 0 rfl rfl 0 (by decide) k_X12_clockOf_1 rfl rfl 20 rfl ?_
    refine v_iload_n X dX12_clockOf_20 1 rfl rfl 21 rfl ?_
    obtain ⟨o3, ho3, hf⟩ := bnd hf
    refine v_callSi X (As := [.int v1]) (rest := [.ref (ad 1), .int x2]) (ws' := (wX12 ad c9 m_undoable m_undoStart o1.2 m_inputLength m_position m_start m_token m_value m_letters m_code m_place m_outputLength m_s m_parsed m_tried m_remembered m_slots m_kept m_away m_input m_halfway m_output)) (c_X12_ofRealm l hG D c9 v1 ho3) 1 gX12_clockOf_X12_ofRealm rfl rfl rfl pd_X12_ofRealm ⟨Nat.le_of_ble_eq_true rfl, Nat.le_of_ble_eq_true rfl⟩ rfl rfl (Nat.le_of_ble_eq_true rfl) ⟨Nat.zero_le _, Nat.zero_le _⟩ [] [0, 1, 2, 3, 4, 5, 6, 7, 8, 9, 10] [0, 1, 2, 3, 4, 5, 6, 7, 8, 9, 10] rfl rfl rfl rfl dX12_clockOf_21 24 rfl ?_
    refine v_iconst X dX12_clockOf_24 ic_3 25 rfl ?_
    refine v_iadd X dX12_clockOf_25 26 rfl ?_
    obtain ⟨x4, hx4, hf⟩ := bnd hf
    refine v_iald X dX12_clockOf_26 1 0 rfl rfl hx4 27 rfl ?_
    refine v_iadd X dX12_clockOf_27 28 rfl ?_
    cases hf
    exact v_iret X (Nat.zero_le _) (Nat.zero_le _) dX12_clockOf_28
  · refine v_iconst X dX12_clockOf_8 ic_0 9 rfl ?_
    cases hf
    exact v_iret X (Nat.zero_le _) (Nat.zero_le _) dX12_clockOf_9
theorem pd_X12_clockOf : yX12_clockOf.cls ≠ "java/lang/invoke/MethodHandle" ∧ yX12_clockOf.cls ≠ "java/lang/invoke/VarHandle" ∧ (parseMethodDescriptor yX12_clockOf.desc).map (fun d => d.parameters.length) = some 1 := by decide +kernel
theorem k_X12_trusts_w12 : ∀ w ∈ u_ws RX12 TX12 22, w ∈ wsX12_trusts := in_r _ [26, 27, 28, 29, 30, 31, 32, 33, 34, 35, 36, 37, 38, 39, 40, 41, 42, 43, 44, 45, 46, 47] rfl
theorem k_X12_trusts_1 : Cond.fieldLink RX12 7 "TicketGateModel" "s" "[I" ∈ wsX12_trusts := List.mem_of_getElem? (i := 1) rfl
def f_X12_trusts (m_thrown : Int32) (m_s : Nat → Int32) (v1 : Int32) (v2 : Int32) : Option (Int32 × Int32) :=
  (f_X12_noRealms m_thrown m_s v1 v2).bind fun o1 =>
  if o1.1 = 0 then (
    (f_X12_trusted m_s v1 v2).bind fun o2 =>
    (zr o2).bind fun z3 => some (z3, o1.2))
  else (
    some (0, o1.2))
set_option maxRecDepth 100000 in
set_option maxHeartbeats 4000000 in
theorem c_X12_trusts (l : Launch) {G : (Nat → Prop) → State → Heap → Prop} (hG : vG G) (D : va_G) (c9 : Nat → ClassId) (ad : Nat → Nat) (m_undoable : Int32) (m_undoStart : Int32) (m_thrown : Int32) (m_inputLength : Int32) (m_position : Int32) (m_start : Int32) (m_token : Int32) (m_value : Int32) (m_letters : Int32) (m_code : Int32) (m_place : Int32) (m_outputLength : Int32) (m_s : Nat → Int32) (m_parsed : Nat → Int32) (m_tried : Nat → Int32) (m_remembered : Nat → Int32) (m_slots : Nat → Int32) (m_kept : Nat → Int32) (m_away : Nat → Int32) (m_input : Nat → Int32) (m_halfway : Nat → Int32) (m_output : Nat → Int32) (v1 : Int32) (v2 : Int32) {o : Int32 × Int32} (hf : f_X12_trusts m_thrown m_s v1 v2 = some o) : mI l yX12_trusts wsX12_trusts { frames := 4, cells := 0, slots := 0, locals := 88 } G D (tyA c9) [.ref (ad 0), .int v1, .int v2] (wX12 ad c9 m_undoable m_undoStart m_thrown m_inputLength m_position m_start m_token m_value m_letters m_code m_place m_outputLength m_s m_parsed m_tried m_remembered m_slots m_kept m_away m_input m_halfway m_output) [] 0 0 o.1 (wX12 ad c9 m_undoable m_undoStart o.2 m_inputLength m_position m_start m_token m_value m_letters m_code m_place m_outputLength m_s m_parsed m_tried m_remembered m_slots m_kept m_away m_input m_halfway m_output) := by
  refine mI_of hG (cc := cX12_trusts) (maxL := 3) (ty := .boolean) (by decide) rfl (Nat.le_of_ble_eq_true rfl) ?_
  intro p e s m args below meth c A X
  have X : vX p s m args meth c cX12_trusts 3 (some .boolean) RX12 wsX12_trusts D (tyA c9) G A := X
  refine v_eq (lv2 := [(0, .ref (ad 0)), (1, .int v1), (2, .int v2)]) rfl rfl rfl rfl ?_
  rw [f_X12_trusts] at hf
  refine v_aload_n X dX12_trusts_0 0 rfl rfl 1 rfl ?_
  refine v_iload_n X dX12_trusts_1 1 rfl rfl 2 rfl ?_
  refine v_iload_n X dX12_trusts_2 2 rfl rfl 3 rfl ?_
  obtain ⟨o1, ho1, hf⟩ := bnd hf
  refine v_callVi X (ci := 11) (T := TX12) (C := RX12) (As := [.int v1, .int v2]) (rest := []) (ws' := (wX12 ad c9 m_undoable m_undoStart o1.2 m_inputLength m_position m_start m_token m_value m_letters m_code m_place m_outputLength m_s m_parsed m_tried m_remembered m_slots m_kept m_away m_input m_halfway m_output)) (c_X12_noRealms l hG D c9 ad m_undoable m_undoStart m_thrown m_inputLength m_position m_start m_token m_value m_letters m_code m_place m_outputLength m_s m_parsed m_tried m_remembered m_slots m_kept m_away m_input m_halfway m_output v1 v2 ho1) 2 gX12_trusts_X12_noRealms rfl rfl rfl ⟨rfl, pd_X12_noRealms⟩ ⟨Nat.le_of_ble_eq_true rfl, Nat.le_of_ble_eq_true rfl⟩ 0 rfl rfl rfl rfl (Nat.le_of_ble_eq_true rfl) ⟨Nat.zero_le _, Nat.zero_le _⟩ [0, 1, 2, 3, 4, 5, 6, 7, 8, 9, 10] [] [0, 1, 2, 3, 4, 5, 6, 7, 8, 9, 10] rfl rfl rfl rfl dX12_trusts_3 6 rfl ?_
  refine v_if_eq X (tgt := 11) dX12_trusts_6 rfl 9 rfl hf (fun hf => ?_) (fun hf => ?_)
  · refine v_aload_n X dX12_trusts_11 0 rfl rfl 12 rfl ?_
    refine v_get X (C := RX12) (T := TX12) (N := 22) (ci := 11) (v := _) dX12_trusts_12 k_X12_trusts_w12 0 rfl rfl 0 (by decide) k_X12_trusts_1 rfl rfl 15 rfl ?_
    refine v_iload_n X dX12_trusts_15 1 rfl rfl 16 rfl ?_
    refine v_iload_n X dX12_trusts_16 2 rfl rfl 17 rfl ?_
    obtain ⟨o2, ho2, hf⟩ := bnd hf
    refine v_callSi X (As := [.ref (ad 1), .int v1, .int v2]) (rest := []) (ws' := (wX12 ad c9 m_undoable m_undoStart o1.2 m_inputLength m_position m_start m_token m_value m_letters m_code m_place m_outputLength m_s m_parsed m_tried m_remembered m_slots m_kept m_away m_input m_halfway m_output)) (c_X12_trusted l hG D c9 (ad 1) m_s v1 v2 ho2) 3 gX12_trusts_X12_trusted rfl rfl rfl pd_X12_trusted ⟨Nat.le_of_ble_eq_true rfl, Nat.le_of_ble_eq_true rfl⟩ rfl rfl (Nat.le_of_ble_eq_true rfl) ⟨Nat.zero_le _, Nat.zero_le _⟩ [1] [0, 2, 3, 4, 5, 6, 7, 8, 9, 10] [0, 10, 1, 2, 3, 4, 5, 6, 7, 8, 9] rfl rfl rfl rfl dX12_trusts_17 20 rfl ?_
    obtain ⟨z3, hz3, hf⟩ := bnd hf
    cases hf
    exact v_zretq hz3 X (Nat.zero_le _) (Nat.zero_le _) dX12_trusts_20
  · refine v_iconst X dX12_trusts_9 ic_0 10 rfl ?_
    cases hf
    exact v_zret X (Nat.zero_le _) (Nat.zero_le _) rfl dX12_trusts_10
theorem pd_X12_trusts : yX12_trusts.cls ≠ "java/lang/invoke/MethodHandle" ∧ yX12_trusts.cls ≠ "java/lang/invoke/VarHandle" ∧ (parseMethodDescriptor yX12_trusts.desc).map (fun d => d.parameters.length) = some 2 := by decide +kernel
theorem k_X12_distance_w12 : ∀ w ∈ u_ws RX12 TX12 22, w ∈ wsX12_distance := in_r _ [38, 39, 40, 41, 42, 43, 44, 45, 46, 47, 48, 49, 50, 51, 52, 53, 54, 55, 56, 57, 58, 59] rfl
theorem k_X12_distance_1 : Cond.fieldLink RX12 7 "TicketGateModel" "s" "[I" ∈ wsX12_distance := List.mem_of_getElem? (i := 1) rfl
def f_X12_distance (m_thrown : Int32) (m_s : Nat → Int32) (m_away : Nat → Int32) (v1 : Int32) (v2 : Int32) : Option (Int32 × Int32 × (Nat → Int32)) :=
  (f_X12_noRealms m_thrown m_s v1 v2).bind fun o1 =>
  if o1.1 = 0 then (
    (f_X12_far m_s m_away v1 v2).bind fun o2 =>
    some (o2.1, o1.2, o2.2))
  else (
    some (0, o1.2, m_away))
set_option maxRecDepth 100000 in
set_option maxHeartbeats 4000000 in
theorem c_X12_distance (l : Launch) {G : (Nat → Prop) → State → Heap → Prop} (hG : vG G) (D : va_G) (c9 : Nat → ClassId) (ad : Nat → Nat) (m_undoable : Int32) (m_undoStart : Int32) (m_thrown : Int32) (m_inputLength : Int32) (m_position : Int32) (m_start : Int32) (m_token : Int32) (m_value : Int32) (m_letters : Int32) (m_code : Int32) (m_place : Int32) (m_outputLength : Int32) (m_s : Nat → Int32) (m_parsed : Nat → Int32) (m_tried : Nat → Int32) (m_remembered : Nat → Int32) (m_slots : Nat → Int32) (m_kept : Nat → Int32) (m_away : Nat → Int32) (m_input : Nat → Int32) (m_halfway : Nat → Int32) (m_output : Nat → Int32) (v1 : Int32) (v2 : Int32) {o : Int32 × Int32 × (Nat → Int32)} (hf : f_X12_distance m_thrown m_s m_away v1 v2 = some o) : mI l yX12_distance wsX12_distance { frames := 4, cells := 0, slots := 0, locals := 88 } G D (tyA c9) [.ref (ad 0), .int v1, .int v2] (wX12 ad c9 m_undoable m_undoStart m_thrown m_inputLength m_position m_start m_token m_value m_letters m_code m_place m_outputLength m_s m_parsed m_tried m_remembered m_slots m_kept m_away m_input m_halfway m_output) [] 0 0 o.1 (wX12 ad c9 m_undoable m_undoStart o.2.1 m_inputLength m_position m_start m_token m_value m_letters m_code m_place m_outputLength m_s m_parsed m_tried m_remembered m_slots m_kept o.2.2 m_input m_halfway m_output) := by
  refine mI_of hG (cc := cX12_distance) (maxL := 3) (ty := .int) (by decide) rfl (Nat.le_of_ble_eq_true rfl) ?_
  intro p e s m args below meth c A X
  have X : vX p s m args meth c cX12_distance 3 (some .int) RX12 wsX12_distance D (tyA c9) G A := X
  refine v_eq (lv2 := [(0, .ref (ad 0)), (1, .int v1), (2, .int v2)]) rfl rfl rfl rfl ?_
  rw [f_X12_distance] at hf
  refine v_aload_n X dX12_distance_0 0 rfl rfl 1 rfl ?_
  refine v_iload_n X dX12_distance_1 1 rfl rfl 2 rfl ?_
  refine v_iload_n X dX12_distance_2 2 rfl rfl 3 rfl ?_
  obtain ⟨o1, ho1, hf⟩ := bnd hf
  refine v_callVi X (ci := 11) (T := TX12) (C := RX12) (As := [.int v1, .int v2]) (rest := []) (ws' := (wX12 ad c9 m_undoable m_undoStart o1.2 m_inputLength m_position m_start m_token m_value m_letters m_code m_place m_outputLength m_s m_parsed m_tried m_remembered m_slots m_kept m_away m_input m_halfway m_output)) (c_X12_noRealms l hG D c9 ad m_undoable m_undoStart m_thrown m_inputLength m_position m_start m_token m_value m_letters m_code m_place m_outputLength m_s m_parsed m_tried m_remembered m_slots m_kept m_away m_input m_halfway m_output v1 v2 ho1) 2 gX12_distance_X12_noRealms rfl rfl rfl ⟨rfl, pd_X12_noRealms⟩ ⟨Nat.le_of_ble_eq_true rfl, Nat.le_of_ble_eq_true rfl⟩ 0 rfl rfl rfl rfl (Nat.le_of_ble_eq_true rfl) ⟨Nat.zero_le _, Nat.zero_le _⟩ [0, 1, 2, 3, 4, 5, 6, 7, 8, 9, 10] [] [0, 1, 2, 3, 4, 5, 6, 7, 8, 9, 10] rfl rfl rfl rfl dX12_distance_3 6 rfl ?_
  refine v_if_eq X (tgt := 11) dX12_distance_6 rfl 9 rfl hf (fun hf => ?_) (fun hf => ?_)
  · refine v_aload_n X dX12_distance_11 0 rfl rfl 12 rfl ?_
    refine v_aload_n X dX12_distance_12 0 rfl rfl 13 rfl ?_
    refine v_get X (C := RX12) (T := TX12) (N := 22) (ci := 11) (v := _) dX12_distance_13 k_X12_distance_w12 0 rfl rfl 0 (by decide) k_X12_distance_1 rfl rfl 16 rfl ?_
    refine v_iload_n X dX12_distance_16 1 rfl rfl 17 rfl ?_
    refine v_iload_n X dX12_distance_17 2 rfl rfl 18 rfl ?_
    obtain ⟨o2, ho2, hf⟩ := bnd hf
    refine v_callVi X (ci := 11) (T := TX12) (C := RX12) (As := [.ref (ad 1), .int v1, .int v2]) (rest := []) (ws' := (wX12 ad c9 m_undoable m_undoStart o1.2 m_inputLength m_position m_start m_token m_value m_letters m_code m_place m_outputLength m_s m_parsed m_tried m_remembered m_slots m_kept o2.2 m_input m_halfway m_output)) (c_X12_far l hG D c9 ad m_undoable m_undoStart o1.2 m_inputLength m_position m_start m_token m_value m_letters m_code m_place m_outputLength m_s m_parsed m_tried m_remembered m_slots m_kept m_away m_input m_halfway m_output v1 v2 ho2) 3 gX12_distance_X12_far rfl rfl rfl ⟨rfl, pd_X12_far⟩ ⟨Nat.le_of_ble_eq_true rfl, Nat.le_of_ble_eq_true rfl⟩ 0 rfl rfl rfl rfl (Nat.le_of_ble_eq_true rfl) ⟨Nat.zero_le _, Nat.zero_le _⟩ [0, 1, 2, 3, 4, 5, 6, 7, 8, 9, 10] [] [0, 1, 2, 3, 4, 5, 6, 7, 8, 9, 10] rfl rfl rfl rfl dX12_distance_18 21 rfl ?_
    cases hf
    exact v_iret X (Nat.zero_le _) (Nat.zero_le _) dX12_distance_21
  · refine v_iconst X dX12_distance_9 ic_0 10 rfl ?_
    cases hf
    exact v_iret X (Nat.zero_le _) (Nat.zero_le _) dX12_distance_10
theorem pd_X12_distance : yX12_distance.cls ≠ "java/lang/invoke/MethodHandle" ∧ yX12_distance.cls ≠ "java/lang/invoke/VarHandle" ∧ (parseMethodDescriptor yX12_distance.desc).map (fun d => d.parameters.length) = some 2 := by decide +kernel
theorem k_X12_nextRealm_w12 : ∀ w ∈ u_ws RX12 TX12 22, w ∈ wsX12_nextRealm := in_r _ [38, 39, 40, 41, 42, 43, 44, 45, 46, 47, 48, 49, 50, 51, 52, 53, 54, 55, 56, 57, 58, 59] rfl
theorem k_X12_nextRealm_1 : Cond.fieldLink RX12 7 "TicketGateModel" "s" "[I" ∈ wsX12_nextRealm := List.mem_of_getElem? (i := 1) rfl
def f_X12_nextRealm_L25 (m_thrown : Int32) (m_s : Nat → Int32) (v1 : Int32) (v2 : Int32) (v3 : Int32) : Nat → (Nat → Int32) → Int32 → Option (Int32 × Int32 × (Nat → Int32))
  | 0, _, _ => none
  | n + 1, m_away, v4 =>
    (rd m_s 463 3).bind fun x3 =>
    if x3 ≤ v4 then (
      some ((-1), m_thrown, m_away))
    else (
      if v3 ≤ 0 then (
        some ((-1), m_thrown, m_away))
      else (
        (f_X12_trusted m_s v1 v4).bind fun o4 =>
        if o4 = 0 then (
          f_X12_nextRealm_L25 m_thrown m_s v1 v2 v3 n m_away (v4 + 1))
        else (
          (f_X12_far m_s m_away v4 v2).bind fun o5 =>
          if o5.1 = (v3 - 1) then (
            some (v4, m_thrown, o5.2))
          else (
            f_X12_nextRealm_L25 m_thrown m_s v1 v2 v3 n o5.2 (v4 + 1)))))
def f_X12_nextRealm (m_thrown : Int32) (m_s : Nat → Int32) (m_away : Nat → Int32) (v1 : Int32) (v2 : Int32) : Option (Int32 × Int32 × (Nat → Int32)) :=
  (f_X12_noRealms m_thrown m_s v1 v2).bind fun o1 =>
  if o1.1 = 0 then (
    (f_X12_far m_s m_away v1 v2).bind fun o2 =>
    f_X12_nextRealm_L25 o1.2 m_s v1 v2 o2.1 5000 o2.2 0)
  else (
    some (0, o1.2, m_away))
set_option maxRecDepth 100000 in
set_option maxHeartbeats 4000000 in
theorem l_X12_nextRealm_L25 (l : Launch) {G : (Nat → Prop) → State → Heap → Prop} (hG : vG G) (D : va_G) (c9 : Nat → ClassId) (ad : Nat → Nat) (m_undoable : Int32) (m_undoStart : Int32) (m_thrown : Int32) (m_inputLength : Int32) (m_position : Int32) (m_start : Int32) (m_token : Int32) (m_value : Int32) (m_letters : Int32) (m_code : Int32) (m_place : Int32) (m_outputLength : Int32) (m_s : Nat → Int32) (m_parsed : Nat → Int32) (m_tried : Nat → Int32) (m_remembered : Nat → Int32) (m_slots : Nat → Int32) (m_kept : Nat → Int32) (m_input : Nat → Int32) (m_halfway : Nat → Int32) (m_output : Nat → Int32) (v1 : Int32) (v2 : Int32) (v3 : Int32) {p : Program} {e : Env} {s : State} {m : MethodId} {args : Array Value} {below : List Frame} {meth : Method} {c : Code} {A : Nat → Prop} {F : va_W} (X : vX p s m args meth c cX12_nextRealm 5 (some .int) RX12 wsX12_nextRealm D (tyA c9) G A) (o : Int32 × Int32 × (Nat → Int32)) :
    ∀ (n : Nat) (m_away : Nat → Int32) (v4 : Int32), f_X12_nextRealm_L25 m_thrown m_s v1 v2 v3 n m_away v4 = some o → vW p l e { frames := 4, cells := 0, slots := 0, locals := 88 } s m args below meth c 5 D A F 0 0 (MQ below (eI D (tyA c9) A o.1 ((wX12 ad c9 m_undoable m_undoStart o.2.1 m_inputLength m_position m_start m_token m_value m_letters m_code m_place m_outputLength m_s m_parsed m_tried m_remembered m_slots m_kept o.2.2 m_input m_halfway m_output) ++ F)) args s 0 0 A) (wX12 ad c9 m_undoable m_undoStart m_thrown m_inputLength m_position m_start m_token m_value m_letters m_code m_place m_outputLength m_s m_parsed m_tried m_remembered m_slots m_kept m_away m_input m_halfway m_output) 25 [(0, .ref (ad 0)), (1, .int v1), (2, .int v2), (3, .int v3), (4, .int v4)] [] := by
  intro n
  induction n with
  | zero =>
    intro m_away v4 hf
    rw [f_X12_nextRealm_L25] at hf
    cases hf
  | succ n ih =>
    intro m_away v4 hf
    rw [f_X12_nextRealm_L25] at hf
    refine v_iload X dX12_nextRealm_25 4 rfl 27 rfl ?_
    refine v_aload_n X dX12_nextRealm_27 0 rfl rfl 28 rfl ?_
    refine v_get X (C := RX12) (T := TX12) (N := 22) (ci := 11) (v := _) dX12_nextRealm_28 k_X12_nextRealm_w12 0 rfl rfl 0 (by decide) k_X12_nextRealm_1 rfl rfl 31 rfl ?_
    refine v_iconst X dX12_nextRealm_31 ic_3 32 rfl ?_
    obtain ⟨x3, hx3, hf⟩ := bnd hf
    refine v_iald X dX12_nextRealm_32 1 0 rfl rfl hx3 33 rfl ?_
    refine v_icmp_ge X (tgt := 79) dX12_nextRealm_33 rfl 36 rfl hf (fun hf => ?_) (fun hf => ?_)
    · refine v_iconst X dX12_nextRealm_79 ic_m1 80 rfl ?_
      cases hf
      exact v_iret X (Nat.zero_le _) (Nat.zero_le _) dX12_nextRealm_80
    · refine v_iload_n X dX12_nextRealm_36 3 rfl rfl 37 rfl ?_
      refine v_if_le X (tgt := 79) dX12_nextRealm_37 rfl 40 rfl hf (fun hf => ?_) (fun hf => ?_)
      · refine v_iconst X dX12_nextRealm_79 ic_m1 80 rfl ?_
        cases hf
        exact v_iret X (Nat.zero_le _) (Nat.zero_le _) dX12_nextRealm_80
      · refine v_aload_n X dX12_nextRealm_40 0 rfl rfl 41 rfl ?_
        refine v_get X (C := RX12) (T := TX12) (N := 22) (ci := 11) (v := _) dX12_nextRealm_41 k_X12_nextRealm_w12 0 rfl rfl 0 (by decide) k_X12_nextRealm_1 rfl rfl 44 rfl ?_
        refine v_iload_n X dX12_nextRealm_44 1 rfl rfl 45 rfl ?_
        refine v_iload X dX12_nextRealm_45 4 rfl 47 rfl ?_
        obtain ⟨o4, ho4, hf⟩ := bnd hf
        refine v_callSi X (As := [.ref (ad 1), .int v1, .int v4]) (rest := []) (ws' := (wX12 ad c9 m_undoable m_undoStart m_thrown m_inputLength m_position m_start m_token m_value m_letters m_code m_place m_outputLength m_s m_parsed m_tried m_remembered m_slots m_kept m_away m_input m_halfway m_output)) (c_X12_trusted l hG D c9 (ad 1) m_s v1 v4 ho4) 3 gX12_nextRealm_X12_trusted rfl rfl rfl pd_X12_trusted ⟨Nat.le_of_ble_eq_true rfl, Nat.le_of_ble_eq_true rfl⟩ rfl rfl (Nat.le_of_ble_eq_true rfl) ⟨Nat.zero_le _, Nat.zero_le _⟩ [1] [0, 2, 3, 4, 5, 6, 7, 8, 9, 10] [0, 10, 1, 2, 3, 4, 5, 6, 7, 8, 9] rfl rfl rfl rfl dX12_nextRealm_47 50 rfl ?_
        refine v_if_eq X (tgt := 73) dX12_nextRealm_50 rfl 53 rfl hf (fun hf => ?_) (fun hf => ?_)
        · refine v_iinc X (lv' := [(4, .int (v4 + 1)), (0, .ref (ad 0)), (1, .int v1), (2, .int v2), (3, .int v3)]) dX12_nextRealm_73 4 rfl ic_1 (by decide) rfl 76 rfl ?_
          refine v_goto X (tgt := 25) dX12_nextRealm_76 rfl ?_
          refine v_sub (lv' := [(0, .ref (ad 0)), (1, .int v1), (2, .int v2), (3, .int v3), (4, .int (v4 + 1))]) [1, 2, 3, 4, 0] rfl ?_
          exact ih m_away (v4 + 1) hf
        · refine v_aload_n X dX12_nextRealm_53 0 rfl rfl 54 rfl ?_
          refine v_aload_n X dX12_nextRealm_54 0 rfl rfl 55 rfl ?_
          refine v_get X (C := RX12) (T := TX12) (N := 22) (ci := 11) (v := _) dX12_nextRealm_55 k_X12_nextRealm_w12 0 rfl rfl 0 (by decide) k_X12_nextRealm_1 rfl rfl 58 rfl ?_
          refine v_iload X dX12_nextRealm_58 4 rfl 60 rfl ?_
          refine v_iload_n X dX12_nextRealm_60 2 rfl rfl 61 rfl ?_
          obtain ⟨o5, ho5, hf⟩ := bnd hf
          refine v_callVi X (ci := 11) (T := TX12) (C := RX12) (As := [.ref (ad 1), .int v4, .int v2]) (rest := []) (ws' := (wX12 ad c9 m_undoable m_undoStart m_thrown m_inputLength m_position m_start m_token m_value m_letters m_code m_place m_outputLength m_s m_parsed m_tried m_remembered m_slots m_kept o5.2 m_input m_halfway m_output)) (c_X12_far l hG D c9 ad m_undoable m_undoStart m_thrown m_inputLength m_position m_start m_token m_value m_letters m_code m_place m_outputLength m_s m_parsed m_tried m_remembered m_slots m_kept m_away m_input m_halfway m_output v4 v2 ho5) 3 gX12_nextRealm_X12_far rfl rfl rfl ⟨rfl, pd_X12_far⟩ ⟨Nat.le_of_ble_eq_true rfl, Nat.le_of_ble_eq_true rfl⟩ 0 rfl rfl rfl rfl (Nat.le_of_ble_eq_true rfl) ⟨Nat.zero_le _, Nat.zero_le _⟩ [0, 1, 2, 3, 4, 5, 6, 7, 8, 9, 10] [] [0, 1, 2, 3, 4, 5, 6, 7, 8, 9, 10] rfl rfl rfl rfl dX12_nextRealm_61 64 rfl ?_
          refine v_iload_n X dX12_nextRealm_64 3 rfl rfl 65 rfl ?_
          refine v_iconst X dX12_nextRealm_65 ic_1 66 rfl ?_
          refine v_isub X dX12_nextRealm_66 67 rfl ?_
          refine v_icmp_ne X (tgt := 73) dX12_nextRealm_67 rfl 70 rfl hf (fun hf => ?_) (fun hf => ?_)
          · refine v_iinc X (lv' := [(4, .int (v4 + 1)), (0, .ref (ad 0)), (1, .int v1), (2, .int v2), (3, .int v3)]) dX12_nextRealm_73 4 rfl ic_1 (by decide) rfl 76 rfl ?_
            refine v_goto X (tgt := 25) dX12_nextRealm_76 rfl ?_
            refine v_sub (lv' := [(0, .ref (ad 0)), (1, .int v1), (2, .int v2), (3, .int v3), (4, .int (v4 + 1))]) [1, 2, 3, 4, 0] rfl ?_
            exact ih o5.2 (v4 + 1) hf
          · refine v_iload X dX12_nextRealm_70 4 rfl 72 rfl ?_
            cases hf
            exact v_iret X (Nat.zero_le _) (Nat.zero_le _) dX12_nextRealm_72
set_option maxRecDepth 100000 in
set_option maxHeartbeats 4000000 in
theorem c_X12_nextRealm (l : Launch) {G : (Nat → Prop) → State → Heap → Prop} (hG : vG G) (D : va_G) (c9 : Nat → ClassId) (ad : Nat → Nat) (m_undoable : Int32) (m_undoStart : Int32) (m_thrown : Int32) (m_inputLength : Int32) (m_position : Int32) (m_start : Int32) (m_token : Int32) (m_value : Int32) (m_letters : Int32) (m_code : Int32) (m_place : Int32) (m_outputLength : Int32) (m_s : Nat → Int32) (m_parsed : Nat → Int32) (m_tried : Nat → Int32) (m_remembered : Nat → Int32) (m_slots : Nat → Int32) (m_kept : Nat → Int32) (m_away : Nat → Int32) (m_input : Nat → Int32) (m_halfway : Nat → Int32) (m_output : Nat → Int32) (v1 : Int32) (v2 : Int32) {o : Int32 × Int32 × (Nat → Int32)} (hf : f_X12_nextRealm m_thrown m_s m_away v1 v2 = some o) : mI l yX12_nextRealm wsX12_nextRealm { frames := 4, cells := 0, slots := 0, locals := 88 } G D (tyA c9) [.ref (ad 0), .int v1, .int v2] (wX12 ad c9 m_undoable m_undoStart m_thrown m_inputLength m_position m_start m_token m_value m_letters m_code m_place m_outputLength m_s m_parsed m_tried m_remembered m_slots m_kept m_away m_input m_halfway m_output) [] 0 0 o.1 (wX12 ad c9 m_undoable m_undoStart o.2.1 m_inputLength m_position m_start m_token m_value m_letters m_code m_place m_outputLength m_s m_parsed m_tried m_remembered m_slots m_kept o.2.2 m_input m_halfway m_output) := by
  refine mI_of hG (cc := cX12_nextRealm) (maxL := 5) (ty := .int) (by decide) rfl (Nat.le_of_ble_eq_true rfl) ?_
  intro p e s m args below meth c A X
  have X : vX p s m args meth c cX12_nextRealm 5 (some .int) RX12 wsX12_nextRealm D (tyA c9) G A := X
  refine v_eq (lv2 := [(0, .ref (ad 0)), (1, .int v1), (2, .int v2)]) rfl rfl rfl rfl ?_
  rw [f_X12_nextRealm] at hf
  refine v_aload_n X dX12_nextRealm_0 0 rfl rfl 1 rfl ?_
  refine v_iload_n X dX12_nextRealm_1 1 rfl rfl 2 rfl ?_
  refine v_iload_n X dX12_nextRealm_2 2 rfl rfl 3 rfl ?_
  obtain ⟨o1, ho1, hf⟩ := bnd hf
  refine v_callVi X (ci := 11) (T := TX12) (C := RX12) (As := [.int v1, .int v2]) (rest := []) (ws' := (wX12 ad c9 m_undoable m_undoStart o1.2 m_inputLength m_position m_start m_token m_value m_letters m_code m_place m_outputLength m_s m_parsed m_tried m_remembered m_slots m_kept m_away m_input m_halfway m_output)) (c_X12_noRealms l hG D c9 ad m_undoable m_undoStart m_thrown m_inputLength m_position m_start m_token m_value m_letters m_code m_place m_outputLength m_s m_parsed m_tried m_remembered m_slots m_kept m_away m_input m_halfway m_output v1 v2 ho1) 2 gX12_nextRealm_X12_noRealms rfl rfl rfl ⟨rfl, pd_X12_noRealms⟩ ⟨Nat.le_of_ble_eq_true rfl, Nat.le_of_ble_eq_true rfl⟩ 0 rfl rfl rfl rfl (Nat.le_of_ble_eq_true rfl) ⟨Nat.zero_le _, Nat.zero_le _⟩ [0, 1, 2, 3, 4, 5, 6, 7, 8, 9, 10] [] [0, 1, 2, 3, 4, 5, 6, 7, 8, 9, 10] rfl rfl rfl rfl dX12_nextRealm_3 6 rfl ?_
  refine v_if_eq X (tgt := 11) dX12_nextRealm_6 rfl 9 rfl hf (fun hf => ?_) (fun hf => ?_)
  · refine v_aload_n X dX12_nextRealm_11 0 rfl rfl 12 rfl ?_
    refine v_aload_n X dX12_nextRealm_12 0 rfl rfl 13 rfl ?_
    refine v_get X (C := RX12) (T := TX12) (N := 22) (ci := 11) (v := _) dX12_nextRealm_13 k_X12_nextRealm_w12 0 rfl rfl 0 (by decide) k_X12_nextRealm_1 rfl rfl 16 rfl ?_
    refine v_iload_n X dX12_nextRealm_16 1 rfl rfl 17 rfl ?_
    refine v_iload_n X dX12_nextRealm_17 2 rfl rfl 18 rfl ?_
    obtain ⟨o2, ho2, hf⟩ := bnd hf
    refine v_callVi X (ci := 11) (T := TX12) (C := RX12) (As := [.ref (ad 1), .int v1, .int v2]) (rest := []) (ws' := (wX12 ad c9 m_undoable m_undoStart o1.2 m_inputLength m_position m_start m_token m_value m_letters m_code m_place m_outputLength m_s m_parsed m_tried m_remembered m_slots m_kept o2.2 m_input m_halfway m_output)) (c_X12_far l hG D c9 ad m_undoable m_undoStart o1.2 m_inputLength m_position m_start m_token m_value m_letters m_code m_place m_outputLength m_s m_parsed m_tried m_remembered m_slots m_kept m_away m_input m_halfway m_output v1 v2 ho2) 3 gX12_nextRealm_X12_far rfl rfl rfl ⟨rfl, pd_X12_far⟩ ⟨Nat.le_of_ble_eq_true rfl, Nat.le_of_ble_eq_true rfl⟩ 0 rfl rfl rfl rfl (Nat.le_of_ble_eq_true rfl) ⟨Nat.zero_le _, Nat.zero_le _⟩ [0, 1, 2, 3, 4, 5, 6, 7, 8, 9, 10] [] [0, 1, 2, 3, 4, 5, 6, 7, 8, 9, 10] rfl rfl rfl rfl dX12_nextRealm_18 21 rfl ?_
    refine v_istore_n X (lv' := [(3, .int o2.1), (0, .ref (ad 0)), (1, .int v1), (2, .int v2)]) dX12_nextRealm_21 rfl (by decide) rfl 22 rfl ?_
    refine v_iconst X dX12_nextRealm_22 ic_0 23 rfl ?_
    refine v_istore X (lv' := [(4, .int 0), (3, .int o2.1), (0, .ref (ad 0)), (1, .int v1), (2, .int v2)]) dX12_nextRealm_23 (by decide) rfl 25 rfl ?_
    refine v_sub (lv' := [(0, .ref (ad 0)), (1, .int v1), (2, .int v2), (3, .int o2.1), (4, .int 0)]) [2, 3, 4, 1, 0] rfl ?_
    exact l_X12_nextRealm_L25 l hG D c9 ad m_undoable m_undoStart o1.2 m_inputLength m_position m_start m_token m_value m_letters m_code m_place m_outputLength m_s m_parsed m_tried m_remembered m_slots m_kept m_input m_halfway m_output v1 v2 o2.1 X _ 5000 o2.2 0 hf
  · refine v_iconst X dX12_nextRealm_9 ic_0 10 rfl ?_
    cases hf
    exact v_iret X (Nat.zero_le _) (Nat.zero_le _) dX12_nextRealm_10
theorem pd_X12_nextRealm : yX12_nextRealm.cls ≠ "java/lang/invoke/MethodHandle" ∧ yX12_nextRealm.cls ≠ "java/lang/invoke/VarHandle" ∧ (parseMethodDescriptor yX12_nextRealm.desc).map (fun d => d.parameters.length) = some 2 := by decide +kernel
theorem k_X12_homeOf_w12 : ∀ w ∈ u_ws RX12 TX12 22, w ∈ wsX12_homeOf := in_r _ [22, 23, 24, 25, 26, 27, 28, 29, 30, 31, 32, 33, 34, 35, 36, 37, 38, 39, 40, 41, 42, 43] rfl
theorem k_X12_homeOf_1 : Cond.fieldLink RX12 7 "TicketGateModel" "s" "[I" ∈ wsX12_homeOf := List.mem_of_getElem? (i := 1) rfl
def f_X12_homeOf (m_thrown : Int32) (m_s : Nat → Int32) (v1 : Int32) : Option (Int32 × Int32) :=
  (f_X12_noUser m_thrown m_s v1).bind fun o1 =>
  if o1.1 = 0 then (
    (f_X12_ofUser v1).bind fun o2 =>
    (rd m_s 463 (o2 + 1)).bind fun x3 =>
    some (x3, o1.2))
  else (
    some (0, o1.2))
set_option maxRecDepth 100000 in
set_option maxHeartbeats 4000000 in
theorem c_X12_homeOf (l : Launch) {G : (Nat → Prop) → State → Heap → Prop} (hG : vG G) (D : va_G) (c9 : Nat → ClassId) (ad : Nat → Nat) (m_undoable : Int32) (m_undoStart : Int32) (m_thrown : Int32) (m_inputLength : Int32) (m_position : Int32) (m_start : Int32) (m_token : Int32) (m_value : Int32) (m_letters : Int32) (m_code : Int32) (m_place : Int32) (m_outputLength : Int32) (m_s : Nat → Int32) (m_parsed : Nat → Int32) (m_tried : Nat → Int32) (m_remembered : Nat → Int32) (m_slots : Nat → Int32) (m_kept : Nat → Int32) (m_away : Nat → Int32) (m_input : Nat → Int32) (m_halfway : Nat → Int32) (m_output : Nat → Int32) (v1 : Int32) {o : Int32 × Int32} (hf : f_X12_homeOf m_thrown m_s v1 = some o) : mI l yX12_homeOf wsX12_homeOf { frames := 3, cells := 0, slots := 0, locals := 66 } G D (tyA c9) [.ref (ad 0), .int v1] (wX12 ad c9 m_undoable m_undoStart m_thrown m_inputLength m_position m_start m_token m_value m_letters m_code m_place m_outputLength m_s m_parsed m_tried m_remembered m_slots m_kept m_away m_input m_halfway m_output) [] 0 0 o.1 (wX12 ad c9 m_undoable m_undoStart o.2 m_inputLength m_position m_start m_token m_value m_letters m_code m_place m_outputLength m_s m_parsed m_tried m_remembered m_slots m_kept m_away m_input m_halfway m_output) := by
  refine mI_of hG (cc := cX12_homeOf) (maxL := 2) (ty := .int) (by decide) rfl (Nat.le_of_ble_eq_true rfl) ?_
  intro p e s m args below meth c A X
  have X : vX p s m args meth c cX12_homeOf 2 (some .int) RX12 wsX12_homeOf D (tyA c9) G A := X
  refine v_eq (lv2 := [(0, .ref (ad 0)), (1, .int v1)]) rfl rfl rfl rfl ?_
  rw [f_X12_homeOf] at hf
  refine v_aload_n X dX12_homeOf_0 0 rfl rfl 1 rfl ?_
  refine v_iload_n X dX12_homeOf_1 1 rfl rfl 2 rfl ?_
  obtain ⟨o1, ho1, hf⟩ := bnd hf
  refine v_callVi X (ci := 11) (T := TX12) (C := RX12) (As := [.int v1]) (rest := []) (ws' := (wX12 ad c9 m_undoable m_undoStart o1.2 m_inputLength m_position m_start m_token m_value m_letters m_code m_place m_outputLength m_s m_parsed m_tried m_remembered m_slots m_kept m_away m_input m_halfway m_output)) (c_X12_noUser l hG D c9 ad m_undoable m_undoStart m_thrown m_inputLength m_position m_start m_token m_value m_letters m_code m_place m_outputLength m_s m_parsed m_tried m_remembered m_slots m_kept m_away m_input m_halfway m_output v1 ho1) 1 gX12_homeOf_X12_noUser rfl rfl rfl ⟨rfl, pd_X12_noUser⟩ ⟨Nat.le_of_ble_eq_true rfl, Nat.le_of_ble_eq_true rfl⟩ 0 rfl rfl rfl rfl (Nat.le_of_ble_eq_true rfl) ⟨Nat.zero_le _, Nat.zero_le _⟩ [0, 1, 2, 3, 4, 5, 6, 7, 8, 9, 10] [] [0, 1, 2, 3, 4, 5, 6, 7, 8, 9, 10] rfl rfl rfl rfl dX12_homeOf_2 5 rfl ?_
  refine v_if_eq X (tgt := 10) dX12_homeOf_5 rfl 8 rfl hf (fun hf => ?_) (fun hf => ?_)
  · refine v_aload_n X dX12_homeOf_10 0 rfl rfl 11 rfl ?_
    refine v_get X (C := RX12) (T := TX12) (N := 22) (ci := 11) (v := _) dX12_homeOf_11 k_X12_homeOf_w12 0 rfl rfl 0 (by decide) k_X12_homeOf_1 rfl rfl 14 rfl ?_
    refine v_iload_n X dX12_homeOf_14 1 rfl rfl 15 rfl ?_
    obtain ⟨o2, ho2, hf⟩ := bnd hf
    refine v_callSi X (As := [.int v1]) (rest := [.ref (ad 1)]) (ws' := (wX12 ad c9 m_undoable m_undoStart o1.2 m_inputLength m_position m_start m_token m_value m_letters m_code m_place m_outputLength m_s m_parsed m_tried m_remembered m_slots m_kept m_away m_input m_halfway m_output)) (c_X12_ofUser l hG D c9 v1 ho2) 1 gX12_homeOf_X12_ofUser rfl rfl rfl pd_X12_ofUser ⟨Nat.le_of_ble_eq_true rfl, Nat.le_of_ble_eq_true rfl⟩ rfl rfl (Nat.le_of_ble_eq_true rfl) ⟨Nat.zero_le _, Nat.zero_le _⟩ [] [0, 1, 2, 3, 4, 5, 6, 7, 8, 9, 10] [0, 1, 2, 3, 4, 5, 6, 7, 8, 9, 10] rfl rfl rfl rfl dX12_homeOf_15 18 rfl ?_
    refine v_iconst X dX12_homeOf_18 ic_1 19 rfl ?_
    refine v_iadd X dX12_homeOf_19 20 rfl ?_
    obtain ⟨x3, hx3, hf⟩ := bnd hf
    refine v_iald X dX12_homeOf_20 1 0 rfl rfl hx3 21 rfl ?_
    cases hf
    exact v_iret X (Nat.zero_le _) (Nat.zero_le _) dX12_homeOf_21
  · refine v_iconst X dX12_homeOf_8 ic_0 9 rfl ?_
    cases hf
    exact v_iret X (Nat.zero_le _) (Nat.zero_le _) dX12_homeOf_9
theorem pd_X12_homeOf : yX12_homeOf.cls ≠ "java/lang/invoke/MethodHandle" ∧ yX12_homeOf.cls ≠ "java/lang/invoke/VarHandle" ∧ (parseMethodDescriptor yX12_homeOf.desc).map (fun d => d.parameters.length) = some 1 := by decide +kernel
theorem k_X12_cheesesOf_w12 : ∀ w ∈ u_ws RX12 TX12 22, w ∈ wsX12_cheesesOf := in_r _ [22, 23, 24, 25, 26, 27, 28, 29, 30, 31, 32, 33, 34, 35, 36, 37, 38, 39, 40, 41, 42, 43] rfl
theorem k_X12_cheesesOf_1 : Cond.fieldLink RX12 7 "TicketGateModel" "s" "[I" ∈ wsX12_cheesesOf := List.mem_of_getElem? (i := 1) rfl
def f_X12_cheesesOf (m_thrown : Int32) (m_s : Nat → Int32) (v1 : Int32) : Option (Int32 × Int32) :=
  (f_X12_noUser m_thrown m_s v1).bind fun o1 =>
  if o1.1 = 0 then (
    (f_X12_ofUser v1).bind fun o2 =>
    (rd m_s 463 (o2 + 4)).bind fun x3 =>
    some (x3, o1.2))
  else (
    some (0, o1.2))
set_option maxRecDepth 100000 in
set_option maxHeartbeats 4000000 in
theorem c_X12_cheesesOf (l : Launch) {G : (Nat → Prop) → State → Heap → Prop} (hG : vG G) (D : va_G) (c9 : Nat → ClassId) (ad : Nat → Nat) (m_undoable : Int32) (m_undoStart : Int32) (m_thrown : Int32) (m_inputLength : Int32) (m_position : Int32) (m_start : Int32) (m_token : Int32) (m_value : Int32) (m_letters : Int32) (m_code : Int32) (m_place : Int32) (m_outputLength : Int32) (m_s : Nat → Int32) (m_parsed : Nat → Int32) (m_tried : Nat → Int32) (m_remembered : Nat → Int32) (m_slots : Nat → Int32) (m_kept : Nat → Int32) (m_away : Nat → Int32) (m_input : Nat → Int32) (m_halfway : Nat → Int32) (m_output : Nat → Int32) (v1 : Int32) {o : Int32 × Int32} (hf : f_X12_cheesesOf m_thrown m_s v1 = some o) : mI l yX12_cheesesOf wsX12_cheesesOf { frames := 3, cells := 0, slots := 0, locals := 66 } G D (tyA c9) [.ref (ad 0), .int v1] (wX12 ad c9 m_undoable m_undoStart m_thrown m_inputLength m_position m_start m_token m_value m_letters m_code m_place m_outputLength m_s m_parsed m_tried m_remembered m_slots m_kept m_away m_input m_halfway m_output) [] 0 0 o.1 (wX12 ad c9 m_undoable m_undoStart o.2 m_inputLength m_position m_start m_token m_value m_letters m_code m_place m_outputLength m_s m_parsed m_tried m_remembered m_slots m_kept m_away m_input m_halfway m_output) := by
  refine mI_of hG (cc := cX12_cheesesOf) (maxL := 2) (ty := .int) (by decide) rfl (Nat.le_of_ble_eq_true rfl) ?_
  intro p e s m args below meth c A X
  have X : vX p s m args meth c cX12_cheesesOf 2 (some .int) RX12 wsX12_cheesesOf D (tyA c9) G A := X
  refine v_eq (lv2 := [(0, .ref (ad 0)), (1, .int v1)]) rfl rfl rfl rfl ?_
  rw [f_X12_cheesesOf] at hf
  refine v_aload_n X dX12_cheesesOf_0 0 rfl rfl 1 rfl ?_
  refine v_iload_n X dX12_cheesesOf_1 1 rfl rfl 2 rfl ?_
  obtain ⟨o1, ho1, hf⟩ := bnd hf
  refine v_callVi X (ci := 11) (T := TX12) (C := RX12) (As := [.int v1]) (rest := []) (ws' := (wX12 ad c9 m_undoable m_undoStart o1.2 m_inputLength m_position m_start m_token m_value m_letters m_code m_place m_outputLength m_s m_parsed m_tried m_remembered m_slots m_kept m_away m_input m_halfway m_output)) (c_X12_noUser l hG D c9 ad m_undoable m_undoStart m_thrown m_inputLength m_position m_start m_token m_value m_letters m_code m_place m_outputLength m_s m_parsed m_tried m_remembered m_slots m_kept m_away m_input m_halfway m_output v1 ho1) 1 gX12_cheesesOf_X12_noUser rfl rfl rfl ⟨rfl, pd_X12_noUser⟩ ⟨Nat.le_of_ble_eq_true rfl, Nat.le_of_ble_eq_true rfl⟩ 0 rfl rfl rfl rfl (Nat.le_of_ble_eq_true rfl) ⟨Nat.zero_le _, Nat.zero_le _⟩ [0, 1, 2, 3, 4, 5, 6, 7, 8, 9, 10] [] [0, 1, 2, 3, 4, 5, 6, 7, 8, 9, 10] rfl rfl rfl rfl dX12_cheesesOf_2 5 rfl ?_
  refine v_if_eq X (tgt := 10) dX12_cheesesOf_5 rfl 8 rfl hf (fun hf => ?_) (fun hf => ?_)
  · refine v_aload_n X dX12_cheesesOf_10 0 rfl rfl 11 rfl ?_
    refine v_get X (C := RX12) (T := TX12) (N := 22) (ci := 11) (v := _) dX12_cheesesOf_11 k_X12_cheesesOf_w12 0 rfl rfl 0 (by decide) k_X12_cheesesOf_1 rfl rfl 14 rfl ?_
    refine v_iload_n X dX12_cheesesOf_14 1 rfl rfl 15 rfl ?_
    obtain ⟨o2, ho2, hf⟩ := bnd hf
    refine v_callSi X (As := [.int v1]) (rest := [.ref (ad 1)]) (ws' := (wX12 ad c9 m_undoable m_undoStart o1.2 m_inputLength m_position m_start m_token m_value m_letters m_code m_place m_outputLength m_s m_parsed m_tried m_remembered m_slots m_kept m_away m_input m_halfway m_output)) (c_X12_ofUser l hG D c9 v1 ho2) 1 gX12_cheesesOf_X12_ofUser rfl rfl rfl pd_X12_ofUser ⟨Nat.le_of_ble_eq_true rfl, Nat.le_of_ble_eq_true rfl⟩ rfl rfl (Nat.le_of_ble_eq_true rfl) ⟨Nat.zero_le _, Nat.zero_le _⟩ [] [0, 1, 2, 3, 4, 5, 6, 7, 8, 9, 10] [0, 1, 2, 3, 4, 5, 6, 7, 8, 9, 10] rfl rfl rfl rfl dX12_cheesesOf_15 18 rfl ?_
    refine v_iconst X dX12_cheesesOf_18 ic_4 19 rfl ?_
    refine v_iadd X dX12_cheesesOf_19 20 rfl ?_
    obtain ⟨x3, hx3, hf⟩ := bnd hf
    refine v_iald X dX12_cheesesOf_20 1 0 rfl rfl hx3 21 rfl ?_
    cases hf
    exact v_iret X (Nat.zero_le _) (Nat.zero_le _) dX12_cheesesOf_21
  · refine v_iconst X dX12_cheesesOf_8 ic_0 9 rfl ?_
    cases hf
    exact v_iret X (Nat.zero_le _) (Nat.zero_le _) dX12_cheesesOf_9
theorem pd_X12_cheesesOf : yX12_cheesesOf.cls ≠ "java/lang/invoke/MethodHandle" ∧ yX12_cheesesOf.cls ≠ "java/lang/invoke/VarHandle" ∧ (parseMethodDescriptor yX12_cheesesOf.desc).map (fun d => d.parameters.length) = some 1 := by decide +kernel
theorem k_X12_skew_w12 : ∀ w ∈ u_ws RX12 TX12 22, w ∈ wsX12_skew := in_r _ [32, 33, 34, 35, 36, 37, 38, 39, 40, 41, 42, 43, 44, 45, 46, 47, 48, 49, 50, 51, 52, 53] rfl
theorem k_X12_skew_1 : Cond.fieldLink RX12 7 "TicketGateModel" "s" "[I" ∈ wsX12_skew := List.mem_of_getElem? (i := 1) rfl
def f_X12_skew (m_thrown : Int32) (m_s : Nat → Int32) (v1 : Int32) (v2 : Int32) : Option (Int32 × Int32) :=
  (f_X12_noUser m_thrown m_s v1).bind fun o1 =>
  if o1.1 = 0 then (
    (f_X12_noRealm o1.2 m_s v2).bind fun o2 =>
    if o2.1 = 0 then (
      (f_X12_skewOf m_s v1 v2).bind fun o3 =>
      some (o3, o2.2))
    else (
      some (0, o2.2)))
  else (
    some (0, o1.2))
set_option maxRecDepth 100000 in
set_option maxHeartbeats 4000000 in
theorem c_X12_skew (l : Launch) {G : (Nat → Prop) → State → Heap → Prop} (hG : vG G) (D : va_G) (c9 : Nat → ClassId) (ad : Nat → Nat) (m_undoable : Int32) (m_undoStart : Int32) (m_thrown : Int32) (m_inputLength : Int32) (m_position : Int32) (m_start : Int32) (m_token : Int32) (m_value : Int32) (m_letters : Int32) (m_code : Int32) (m_place : Int32) (m_outputLength : Int32) (m_s : Nat → Int32) (m_parsed : Nat → Int32) (m_tried : Nat → Int32) (m_remembered : Nat → Int32) (m_slots : Nat → Int32) (m_kept : Nat → Int32) (m_away : Nat → Int32) (m_input : Nat → Int32) (m_halfway : Nat → Int32) (m_output : Nat → Int32) (v1 : Int32) (v2 : Int32) {o : Int32 × Int32} (hf : f_X12_skew m_thrown m_s v1 v2 = some o) : mI l yX12_skew wsX12_skew { frames := 3, cells := 0, slots := 0, locals := 66 } G D (tyA c9) [.ref (ad 0), .int v1, .int v2] (wX12 ad c9 m_undoable m_undoStart m_thrown m_inputLength m_position m_start m_token m_value m_letters m_code m_place m_outputLength m_s m_parsed m_tried m_remembered m_slots m_kept m_away m_input m_halfway m_output) [] 0 0 o.1 (wX12 ad c9 m_undoable m_undoStart o.2 m_inputLength m_position m_start m_token m_value m_letters m_code m_place m_outputLength m_s m_parsed m_tried m_remembered m_slots m_kept m_away m_input m_halfway m_output) := by
  refine mI_of hG (cc := cX12_skew) (maxL := 3) (ty := .int) (by decide) rfl (Nat.le_of_ble_eq_true rfl) ?_
  intro p e s m args below meth c A X
  have X : vX p s m args meth c cX12_skew 3 (some .int) RX12 wsX12_skew D (tyA c9) G A := X
  refine v_eq (lv2 := [(0, .ref (ad 0)), (1, .int v1), (2, .int v2)]) rfl rfl rfl rfl ?_
  rw [f_X12_skew] at hf
  refine v_aload_n X dX12_skew_0 0 rfl rfl 1 rfl ?_
  refine v_iload_n X dX12_skew_1 1 rfl rfl 2 rfl ?_
  obtain ⟨o1, ho1, hf⟩ := bnd hf
  refine v_callVi X (ci := 11) (T := TX12) (C := RX12) (As := [.int v1]) (rest := []) (ws' := (wX12 ad c9 m_undoable m_undoStart o1.2 m_inputLength m_position m_start m_token m_value m_letters m_code m_place m_outputLength m_s m_parsed m_tried m_remembered m_slots m_kept m_away m_input m_halfway m_output)) (c_X12_noUser l hG D c9 ad m_undoable m_undoStart m_thrown m_inputLength m_position m_start m_token m_value m_letters m_code m_place m_outputLength m_s m_parsed m_tried m_remembered m_slots m_kept m_away m_input m_halfway m_output v1 ho1) 1 gX12_skew_X12_noUser rfl rfl rfl ⟨rfl, pd_X12_noUser⟩ ⟨Nat.le_of_ble_eq_true rfl, Nat.le_of_ble_eq_true rfl⟩ 0 rfl rfl rfl rfl (Nat.le_of_ble_eq_true rfl) ⟨Nat.zero_le _, Nat.zero_le _⟩ [0, 1, 2, 3, 4, 5, 6, 7, 8, 9, 10] [] [0, 1, 2, 3, 4, 5, 6, 7, 8, 9, 10] rfl rfl rfl rfl dX12_skew_2 5 rfl ?_
  refine v_if_ne X (tgt := 16) dX12_skew_5 rfl 8 rfl hf (fun hf => ?_) (fun hf => ?_)
  · refine v_iconst X dX12_skew_16 ic_0 17 rfl ?_
    cases hf
    exact v_iret X (Nat.zero_le _) (Nat.zero_le _) dX12_skew_17
  · refine v_aload_n X dX12_skew_8 0 rfl rfl 9 rfl ?_
    refine v_iload_n X dX12_skew_9 2 rfl rfl 10 rfl ?_
    obtain ⟨o2, ho2, hf⟩ := bnd hf
    refine v_callVi X (ci := 11) (T := TX12) (C := RX12) (As := [.int v2]) (rest := []) (ws' := (wX12 ad c9 m_undoable m_undoStart o2.2 m_inputLength m_position m_start m_token m_value m_letters m_code m_place m_outputLength m_s m_parsed m_tried m_remembered m_slots m_kept m_away m_input m_halfway m_output)) (c_X12_noRealm l hG D c9 ad m_undoable m_undoStart o1.2 m_inputLength m_position m_start m_token m_value m_letters m_code m_place m_outputLength m_s m_parsed m_tried m_remembered m_slots m_kept m_away m_input m_halfway m_output v2 ho2) 1 gX12_skew_X12_noRealm rfl rfl rfl ⟨rfl, pd_X12_noRealm⟩ ⟨Nat.le_of_ble_eq_true rfl, Nat.le_of_ble_eq_true rfl⟩ 0 rfl rfl rfl rfl (Nat.le_of_ble_eq_true rfl) ⟨Nat.zero_le _, Nat.zero_le _⟩ [0, 1, 2, 3, 4, 5, 6, 7, 8, 9, 10] [] [0, 1, 2, 3, 4, 5, 6, 7, 8, 9, 10] rfl rfl rfl rfl dX12_skew_10 13 rfl ?_
    refine v_if_eq X (tgt := 18) dX12_skew_13 rfl 16 rfl hf (fun hf => ?_) (fun hf => ?_)
    · refine v_aload_n X dX12_skew_18 0 rfl rfl 19 rfl ?_
      refine v_get X (C := RX12) (T := TX12) (N := 22) (ci := 11) (v := _) dX12_skew_19 k_X12_skew_w12 0 rfl rfl 0 (by decide) k_X12_skew_1 rfl rfl 22 rfl ?_
      refine v_iload_n X dX12_skew_22 1 rfl rfl 23 rfl ?_
      refine v_iload_n X dX12_skew_23 2 rfl rfl 24 rfl ?_
      obtain ⟨o3, ho3, hf⟩ := bnd hf
      refine v_callSi X (As := [.ref (ad 1), .int v1, .int v2]) (rest := []) (ws' := (wX12 ad c9 m_undoable m_undoStart o2.2 m_inputLength m_position m_start m_token m_value m_letters m_code m_place m_outputLength m_s m_parsed m_tried m_remembered m_slots m_kept m_away m_input m_halfway m_output)) (c_X12_skewOf l hG D c9 (ad 1) m_s v1 v2 ho3) 3 gX12_skew_X12_skewOf rfl rfl rfl pd_X12_skewOf ⟨Nat.le_of_ble_eq_true rfl, Nat.le_of_ble_eq_true rfl⟩ rfl rfl (Nat.le_of_ble_eq_true rfl) ⟨Nat.zero_le _, Nat.zero_le _⟩ [1] [0, 2, 3, 4, 5, 6, 7, 8, 9, 10] [0, 10, 1, 2, 3, 4, 5, 6, 7, 8, 9] rfl rfl rfl rfl dX12_skew_24 27 rfl ?_
      cases hf
      exact v_iret X (Nat.zero_le _) (Nat.zero_le _) dX12_skew_27
    · refine v_iconst X dX12_skew_16 ic_0 17 rfl ?_
      cases hf
      exact v_iret X (Nat.zero_le _) (Nat.zero_le _) dX12_skew_17
theorem pd_X12_skew : yX12_skew.cls ≠ "java/lang/invoke/MethodHandle" ∧ yX12_skew.cls ≠ "java/lang/invoke/VarHandle" ∧ (parseMethodDescriptor yX12_skew.desc).map (fun d => d.parameters.length) = some 2 := by decide +kernel
theorem k_X12_realmOfService_w12 : ∀ w ∈ u_ws RX12 TX12 22, w ∈ wsX12_realmOfService := in_r _ [22, 23, 24, 25, 26, 27, 28, 29, 30, 31, 32, 33, 34, 35, 36, 37, 38, 39, 40, 41, 42, 43] rfl
theorem k_X12_realmOfService_1 : Cond.fieldLink RX12 7 "TicketGateModel" "s" "[I" ∈ wsX12_realmOfService := List.mem_of_getElem? (i := 1) rfl
def f_X12_realmOfService (m_thrown : Int32) (m_s : Nat → Int32) (v1 : Int32) : Option (Int32 × Int32) :=
  (f_X12_noService m_thrown m_s v1).bind fun o1 =>
  if o1.1 = 0 then (
    (f_X12_ofService v1).bind fun o2 =>
    (rd m_s 463 (o2 + 1)).bind fun x3 =>
    some (x3, o1.2))
  else (
    some (0, o1.2))
set_option maxRecDepth 100000 in
set_option maxHeartbeats 4000000 in
theorem c_X12_realmOfService (l : Launch) {G : (Nat → Prop) → State → Heap → Prop} (hG : vG G) (D : va_G) (c9 : Nat → ClassId) (ad : Nat → Nat) (m_undoable : Int32) (m_undoStart : Int32) (m_thrown : Int32) (m_inputLength : Int32) (m_position : Int32) (m_start : Int32) (m_token : Int32) (m_value : Int32) (m_letters : Int32) (m_code : Int32) (m_place : Int32) (m_outputLength : Int32) (m_s : Nat → Int32) (m_parsed : Nat → Int32) (m_tried : Nat → Int32) (m_remembered : Nat → Int32) (m_slots : Nat → Int32) (m_kept : Nat → Int32) (m_away : Nat → Int32) (m_input : Nat → Int32) (m_halfway : Nat → Int32) (m_output : Nat → Int32) (v1 : Int32) {o : Int32 × Int32} (hf : f_X12_realmOfService m_thrown m_s v1 = some o) : mI l yX12_realmOfService wsX12_realmOfService { frames := 3, cells := 0, slots := 0, locals := 66 } G D (tyA c9) [.ref (ad 0), .int v1] (wX12 ad c9 m_undoable m_undoStart m_thrown m_inputLength m_position m_start m_token m_value m_letters m_code m_place m_outputLength m_s m_parsed m_tried m_remembered m_slots m_kept m_away m_input m_halfway m_output) [] 0 0 o.1 (wX12 ad c9 m_undoable m_undoStart o.2 m_inputLength m_position m_start m_token m_value m_letters m_code m_place m_outputLength m_s m_parsed m_tried m_remembered m_slots m_kept m_away m_input m_halfway m_output) := by
  refine mI_of hG (cc := cX12_realmOfService) (maxL := 2) (ty := .int) (by decide) rfl (Nat.le_of_ble_eq_true rfl) ?_
  intro p e s m args below meth c A X
  have X : vX p s m args meth c cX12_realmOfService 2 (some .int) RX12 wsX12_realmOfService D (tyA c9) G A := X
  refine v_eq (lv2 := [(0, .ref (ad 0)), (1, .int v1)]) rfl rfl rfl rfl ?_
  rw [f_X12_realmOfService] at hf
  refine v_aload_n X dX12_realmOfService_0 0 rfl rfl 1 rfl ?_
  refine v_iload_n X dX12_realmOfService_1 1 rfl rfl 2 rfl ?_
  obtain ⟨o1, ho1, hf⟩ := bnd hf
  refine v_callVi X (ci := 11) (T := TX12) (C := RX12) (As := [.int v1]) (rest := []) (ws' := (wX12 ad c9 m_undoable m_undoStart o1.2 m_inputLength m_position m_start m_token m_value m_letters m_code m_place m_outputLength m_s m_parsed m_tried m_remembered m_slots m_kept m_away m_input m_halfway m_output)) (c_X12_noService l hG D c9 ad m_undoable m_undoStart m_thrown m_inputLength m_position m_start m_token m_value m_letters m_code m_place m_outputLength m_s m_parsed m_tried m_remembered m_slots m_kept m_away m_input m_halfway m_output v1 ho1) 1 gX12_realmOfService_X12_noService rfl rfl rfl ⟨rfl, pd_X12_noService⟩ ⟨Nat.le_of_ble_eq_true rfl, Nat.le_of_ble_eq_true rfl⟩ 0 rfl rfl rfl rfl (Nat.le_of_ble_eq_true rfl) ⟨Nat.zero_le _, Nat.zero_le _⟩ [0, 1, 2, 3, 4, 5, 6, 7, 8, 9, 10] [] [0, 1, 2, 3, 4, 5, 6, 7, 8, 9, 10] rfl rfl rfl rfl dX12_realmOfService_2 5 rfl ?_
  refine v_if_eq X (tgt := 10) dX12_realmOfService_5 rfl 8 rfl hf (fun hf => ?_) (fun hf => ?_)
  · refine v_aload_n X dX12_realmOfService_10 0 rfl rfl 11 rfl ?_
    refine v_get X (C := RX12) (T := TX12) (N := 22) (ci := 11) (v := _) dX12_realmOfService_11 k_X12_realmOfService_w12 0 rfl rfl 0 (by decide) k_X12_realmOfService_1 rfl rfl 14 rfl ?_
    refine v_iload_n X dX12_realmOfService_14 1 rfl rfl 15 rfl ?_
    obtain ⟨o2, ho2, hf⟩ := bnd hf
    refine v_callSi X (As := [.int v1]) (rest := [.ref (ad 1)]) (ws' := (wX12 ad c9 m_undoable m_undoStart o1.2 m_inputLength m_position m_start m_token m_value m_letters m_code m_place m_outputLength m_s m_parsed m_tried m_remembered m_slots m_kept m_away m_input m_halfway m_output)) (c_X12_ofService l hG D c9 v1 ho2) 1 gX12_realmOfService_X12_ofService rfl rfl rfl pd_X12_ofService ⟨Nat.le_of_ble_eq_true rfl, Nat.le_of_ble_eq_true rfl⟩ rfl rfl (Nat.le_of_ble_eq_true rfl) ⟨Nat.zero_le _, Nat.zero_le _⟩ [] [0, 1, 2, 3, 4, 5, 6, 7, 8, 9, 10] [0, 1, 2, 3, 4, 5, 6, 7, 8, 9, 10] rfl rfl rfl rfl dX12_realmOfService_15 18 rfl ?_
    refine v_iconst X dX12_realmOfService_18 ic_1 19 rfl ?_
    refine v_iadd X dX12_realmOfService_19 20 rfl ?_
    obtain ⟨x3, hx3, hf⟩ := bnd hf
    refine v_iald X dX12_realmOfService_20 1 0 rfl rfl hx3 21 rfl ?_
    cases hf
    exact v_iret X (Nat.zero_le _) (Nat.zero_le _) dX12_realmOfService_21
  · refine v_iconst X dX12_realmOfService_8 ic_0 9 rfl ?_
    cases hf
    exact v_iret X (Nat.zero_le _) (Nat.zero_le _) dX12_realmOfService_9
theorem pd_X12_realmOfService : yX12_realmOfService.cls ≠ "java/lang/invoke/MethodHandle" ∧ yX12_realmOfService.cls ≠ "java/lang/invoke/VarHandle" ∧ (parseMethodDescriptor yX12_realmOfService.desc).map (fun d => d.parameters.length) = some 1 := by decide +kernel
theorem k_X12_cheesesLeft_w12 : ∀ w ∈ u_ws RX12 TX12 22, w ∈ wsX12_cheesesLeft := in_r _ [22, 23, 24, 25, 26, 27, 28, 29, 30, 31, 32, 33, 34, 35, 36, 37, 38, 39, 40, 41, 42, 43] rfl
theorem k_X12_cheesesLeft_1 : Cond.fieldLink RX12 7 "TicketGateModel" "s" "[I" ∈ wsX12_cheesesLeft := List.mem_of_getElem? (i := 1) rfl
def f_X12_cheesesLeft (m_thrown : Int32) (m_s : Nat → Int32) (v1 : Int32) : Option (Int32 × Int32) :=
  (f_X12_noService m_thrown m_s v1).bind fun o1 =>
  if o1.1 = 0 then (
    (f_X12_ofService v1).bind fun o2 =>
    (rd m_s 463 (o2 + 2)).bind fun x3 =>
    some (x3, o1.2))
  else (
    some (0, o1.2))
set_option maxRecDepth 100000 in
set_option maxHeartbeats 4000000 in
theorem c_X12_cheesesLeft (l : Launch) {G : (Nat → Prop) → State → Heap → Prop} (hG : vG G) (D : va_G) (c9 : Nat → ClassId) (ad : Nat → Nat) (m_undoable : Int32) (m_undoStart : Int32) (m_thrown : Int32) (m_inputLength : Int32) (m_position : Int32) (m_start : Int32) (m_token : Int32) (m_value : Int32) (m_letters : Int32) (m_code : Int32) (m_place : Int32) (m_outputLength : Int32) (m_s : Nat → Int32) (m_parsed : Nat → Int32) (m_tried : Nat → Int32) (m_remembered : Nat → Int32) (m_slots : Nat → Int32) (m_kept : Nat → Int32) (m_away : Nat → Int32) (m_input : Nat → Int32) (m_halfway : Nat → Int32) (m_output : Nat → Int32) (v1 : Int32) {o : Int32 × Int32} (hf : f_X12_cheesesLeft m_thrown m_s v1 = some o) : mI l yX12_cheesesLeft wsX12_cheesesLeft { frames := 3, cells := 0, slots := 0, locals := 66 } G D (tyA c9) [.ref (ad 0), .int v1] (wX12 ad c9 m_undoable m_undoStart m_thrown m_inputLength m_position m_start m_token m_value m_letters m_code m_place m_outputLength m_s m_parsed m_tried m_remembered m_slots m_kept m_away m_input m_halfway m_output) [] 0 0 o.1 (wX12 ad c9 m_undoable m_undoStart o.2 m_inputLength m_position m_start m_token m_value m_letters m_code m_place m_outputLength m_s m_parsed m_tried m_remembered m_slots m_kept m_away m_input m_halfway m_output) := by
  refine mI_of hG (cc := cX12_cheesesLeft) (maxL := 2) (ty := .int) (by decide) rfl (Nat.le_of_ble_eq_true rfl) ?_
  intro p e s m args below meth c A X
  have X : vX p s m args meth c cX12_cheesesLeft 2 (some .int) RX12 wsX12_cheesesLeft D (tyA c9) G A := X
  refine v_eq (lv2 := [(0, .ref (ad 0)), (1, .int v1)]) rfl rfl rfl rfl ?_
  rw [f_X12_cheesesLeft] at hf
  refine v_aload_n X dX12_cheesesLeft_0 0 rfl rfl 1 rfl ?_
  refine v_iload_n X dX12_cheesesLeft_1 1 rfl rfl 2 rfl ?_
  obtain ⟨o1, ho1, hf⟩ := bnd hf
  refine v_callVi X (ci := 11) (T := TX12) (C := RX12) (As := [.int v1]) (rest := []) (ws' := (wX12 ad c9 m_undoable m_undoStart o1.2 m_inputLength m_position m_start m_token m_value m_letters m_code m_place m_outputLength m_s m_parsed m_tried m_remembered m_slots m_kept m_away m_input m_halfway m_output)) (c_X12_noService l hG D c9 ad m_undoable m_undoStart m_thrown m_inputLength m_position m_start m_token m_value m_letters m_code m_place m_outputLength m_s m_parsed m_tried m_remembered m_slots m_kept m_away m_input m_halfway m_output v1 ho1) 1 gX12_cheesesLeft_X12_noService rfl rfl rfl ⟨rfl, pd_X12_noService⟩ ⟨Nat.le_of_ble_eq_true rfl, Nat.le_of_ble_eq_true rfl⟩ 0 rfl rfl rfl rfl (Nat.le_of_ble_eq_true rfl) ⟨Nat.zero_le _, Nat.zero_le _⟩ [0, 1, 2, 3, 4, 5, 6, 7, 8, 9, 10] [] [0, 1, 2, 3, 4, 5, 6, 7, 8, 9, 10] rfl rfl rfl rfl dX12_cheesesLeft_2 5 rfl ?_
  refine v_if_eq X (tgt := 10) dX12_cheesesLeft_5 rfl 8 rfl hf (fun hf => ?_) (fun hf => ?_)
  · refine v_aload_n X dX12_cheesesLeft_10 0 rfl rfl 11 rfl ?_
    refine v_get X (C := RX12) (T := TX12) (N := 22) (ci := 11) (v := _) dX12_cheesesLeft_11 k_X12_cheesesLeft_w12 0 rfl rfl 0 (by decide) k_X12_cheesesLeft_1 rfl rfl 14 rfl ?_
    refine v_iload_n X dX12_cheesesLeft_14 1 rfl rfl 15 rfl ?_
    obtain ⟨o2, ho2, hf⟩ := bnd hf
    refine v_callSi X (As := [.int v1]) (rest := [.ref (ad 1)]) (ws' := (wX12 ad c9 m_undoable m_undoStart o1.2 m_inputLength m_position m_start m_token m_value m_letters m_code m_place m_outputLength m_s m_parsed m_tried m_remembered m_slots m_kept m_away m_input m_halfway m_output)) (c_X12_ofService l hG D c9 v1 ho2) 1 gX12_cheesesLeft_X12_ofService rfl rfl rfl pd_X12_ofService ⟨Nat.le_of_ble_eq_true rfl, Nat.le_of_ble_eq_true rfl⟩ rfl rfl (Nat.le_of_ble_eq_true rfl) ⟨Nat.zero_le _, Nat.zero_le _⟩ [] [0, 1, 2, 3, 4, 5, 6, 7, 8, 9, 10] [0, 1, 2, 3, 4, 5, 6, 7, 8, 9, 10] rfl rfl rfl rfl dX12_cheesesLeft_15 18 rfl ?_
    refine v_iconst X dX12_cheesesLeft_18 ic_2 19 rfl ?_
    refine v_iadd X dX12_cheesesLeft_19 20 rfl ?_
    obtain ⟨x3, hx3, hf⟩ := bnd hf
    refine v_iald X dX12_cheesesLeft_20 1 0 rfl rfl hx3 21 rfl ?_
    cases hf
    exact v_iret X (Nat.zero_le _) (Nat.zero_le _) dX12_cheesesLeft_21
  · refine v_iconst X dX12_cheesesLeft_8 ic_0 9 rfl ?_
    cases hf
    exact v_iret X (Nat.zero_le _) (Nat.zero_le _) dX12_cheesesLeft_9
theorem pd_X12_cheesesLeft : yX12_cheesesLeft.cls ≠ "java/lang/invoke/MethodHandle" ∧ yX12_cheesesLeft.cls ≠ "java/lang/invoke/VarHandle" ∧ (parseMethodDescriptor yX12_cheesesLeft.desc).map (fun d => d.parameters.length) = some 1 := by decide +kernel
theorem k_X12_ticketCount_w12 : ∀ w ∈ u_ws RX12 TX12 22, w ∈ wsX12_ticketCount := in_r _ [3, 4, 5, 6, 7, 8, 9, 10, 11, 12, 13, 14, 15, 16, 17, 18, 19, 20, 21, 22, 23, 24] rfl
theorem k_X12_ticketCount_1 : Cond.fieldLink RX12 72 "TicketGateModel" "thrown" "I" ∈ wsX12_ticketCount := List.mem_of_getElem? (i := 1) rfl
theorem k_X12_ticketCount_2 : Cond.fieldLink RX12 7 "TicketGateModel" "s" "[I" ∈ wsX12_ticketCount := List.mem_of_getElem? (i := 2) rfl
def f_X12_ticketCount (m_thrown : Int32) (m_s : Nat → Int32) : Option (Int32 × Int32) :=
  (rd m_s 463 6).bind fun x1 =>
  some (x1, 0)
set_option maxRecDepth 100000 in
set_option maxHeartbeats 4000000 in
theorem c_X12_ticketCount (l : Launch) {G : (Nat → Prop) → State → Heap → Prop} (hG : vG G) (D : va_G) (c9 : Nat → ClassId) (ad : Nat → Nat) (m_undoable : Int32) (m_undoStart : Int32) (m_thrown : Int32) (m_inputLength : Int32) (m_position : Int32) (m_start : Int32) (m_token : Int32) (m_value : Int32) (m_letters : Int32) (m_code : Int32) (m_place : Int32) (m_outputLength : Int32) (m_s : Nat → Int32) (m_parsed : Nat → Int32) (m_tried : Nat → Int32) (m_remembered : Nat → Int32) (m_slots : Nat → Int32) (m_kept : Nat → Int32) (m_away : Nat → Int32) (m_input : Nat → Int32) (m_halfway : Nat → Int32) (m_output : Nat → Int32)  {o : Int32 × Int32} (hf : f_X12_ticketCount m_thrown m_s = some o) : mI l yX12_ticketCount wsX12_ticketCount { frames := 0, cells := 0, slots := 0, locals := 0 } G D (tyA c9) [.ref (ad 0)] (wX12 ad c9 m_undoable m_undoStart m_thrown m_inputLength m_position m_start m_token m_value m_letters m_code m_place m_outputLength m_s m_parsed m_tried m_remembered m_slots m_kept m_away m_input m_halfway m_output) [] 0 0 o.1 (wX12 ad c9 m_undoable m_undoStart o.2 m_inputLength m_position m_start m_token m_value m_letters m_code m_place m_outputLength m_s m_parsed m_tried m_remembered m_slots m_kept m_away m_input m_halfway m_output) := by
  refine mI_of hG (cc := cX12_ticketCount) (maxL := 1) (ty := .int) (by decide) rfl (Nat.le_of_ble_eq_true rfl) ?_
  intro p e s m args below meth c A X
  have X : vX p s m args meth c cX12_ticketCount 1 (some .int) RX12 wsX12_ticketCount D (tyA c9) G A := X
  refine v_eq (lv2 := [(0, .ref (ad 0))]) rfl rfl rfl rfl ?_
  rw [f_X12_ticketCount] at hf
  refine v_aload_n X dX12_ticketCount_0 0 rfl rfl 1 rfl ?_
  refine v_iconst X dX12_ticketCount_1 ic_0 2 rfl ?_
  refine v_put X (C := RX12) (T := TX12) (N := 22) (ci := 11) (ty := tyX12 8) (ws' := (wX12 ad c9 m_undoable m_undoStart 0 m_inputLength m_position m_start m_token m_value m_letters m_code m_place m_outputLength m_s m_parsed m_tried m_remembered m_slots m_kept m_away m_input m_halfway m_output)) dX12_ticketCount_2 k_X12_ticketCount_w12 0 rfl rfl 8 (by decide) tyX12 tyX12_ok nmX12 k_X12_ticketCount_1 rfl rfl (tyX12_ok 8 (by decide)) rfl rfl (by decide) rfl 5 rfl ?_
  refine v_aload_n X dX12_ticketCount_5 0 rfl rfl 6 rfl ?_
  refine v_get X (C := RX12) (T := TX12) (N := 22) (ci := 11) (v := _) dX12_ticketCount_6 k_X12_ticketCount_w12 0 rfl rfl 0 (by decide) k_X12_ticketCount_2 rfl rfl 9 rfl ?_
  refine v_bipush X dX12_ticketCount_9 bp_6 11 rfl ?_
  obtain ⟨x1, hx1, hf⟩ := bnd hf
  refine v_iald X dX12_ticketCount_11 1 0 rfl rfl hx1 12 rfl ?_
  cases hf
  exact v_iret X (Nat.zero_le _) (Nat.zero_le _) dX12_ticketCount_12
theorem pd_X12_ticketCount : yX12_ticketCount.cls ≠ "java/lang/invoke/MethodHandle" ∧ yX12_ticketCount.cls ≠ "java/lang/invoke/VarHandle" ∧ (parseMethodDescriptor yX12_ticketCount.desc).map (fun d => d.parameters.length) = some 0 := by decide +kernel
theorem k_X12_ticketAt_w12 : ∀ w ∈ u_ws RX12 TX12 22, w ∈ wsX12_ticketAt := in_r _ [18, 19, 20, 21, 22, 23, 24, 25, 26, 27, 28, 29, 30, 31, 32, 33, 34, 35, 36, 37, 38, 39] rfl
theorem k_X12_ticketAt_1 : Cond.fieldLink RX12 7 "TicketGateModel" "s" "[I" ∈ wsX12_ticketAt := List.mem_of_getElem? (i := 1) rfl
def f_X12_ticketAt (m_thrown : Int32) (m_s : Nat → Int32) (v1 : Int32) : Option (Int32 × Int32) :=
  (rd m_s 463 6).bind fun x1 =>
  (f_X12_noNumber m_thrown v1 0 (x1 - 1)).bind fun o2 =>
  if o2.1 = 0 then (
    (f_X12_ofTicket v1).bind fun o3 =>
    (rd m_s 463 (o3 + 0)).bind fun x4 =>
    some (x4, o2.2))
  else (
    some (0, o2.2))
set_option maxRecDepth 100000 in
set_option maxHeartbeats 4000000 in
theorem c_X12_ticketAt (l : Launch) {G : (Nat → Prop) → State → Heap → Prop} (hG : vG G) (D : va_G) (c9 : Nat → ClassId) (ad : Nat → Nat) (m_undoable : Int32) (m_undoStart : Int32) (m_thrown : Int32) (m_inputLength : Int32) (m_position : Int32) (m_start : Int32) (m_token : Int32) (m_value : Int32) (m_letters : Int32) (m_code : Int32) (m_place : Int32) (m_outputLength : Int32) (m_s : Nat → Int32) (m_parsed : Nat → Int32) (m_tried : Nat → Int32) (m_remembered : Nat → Int32) (m_slots : Nat → Int32) (m_kept : Nat → Int32) (m_away : Nat → Int32) (m_input : Nat → Int32) (m_halfway : Nat → Int32) (m_output : Nat → Int32) (v1 : Int32) {o : Int32 × Int32} (hf : f_X12_ticketAt m_thrown m_s v1 = some o) : mI l yX12_ticketAt wsX12_ticketAt { frames := 2, cells := 0, slots := 0, locals := 45 } G D (tyA c9) [.ref (ad 0), .int v1] (wX12 ad c9 m_undoable m_undoStart m_thrown m_inputLength m_position m_start m_token m_value m_letters m_code m_place m_outputLength m_s m_parsed m_tried m_remembered m_slots m_kept m_away m_input m_halfway m_output) [] 0 0 o.1 (wX12 ad c9 m_undoable m_undoStart o.2 m_inputLength m_position m_start m_token m_value m_letters m_code m_place m_outputLength m_s m_parsed m_tried m_remembered m_slots m_kept m_away m_input m_halfway m_output) := by
  refine mI_of hG (cc := cX12_ticketAt) (maxL := 2) (ty := .int) (by decide) rfl (Nat.le_of_ble_eq_true rfl) ?_
  intro p e s m args below meth c A X
  have X : vX p s m args meth c cX12_ticketAt 2 (some .int) RX12 wsX12_ticketAt D (tyA c9) G A := X
  refine v_eq (lv2 := [(0, .ref (ad 0)), (1, .int v1)]) rfl rfl rfl rfl ?_
  rw [f_X12_ticketAt] at hf
  refine v_aload_n X dX12_ticketAt_0 0 rfl rfl 1 rfl ?_
  refine v_iload_n X dX12_ticketAt_1 1 rfl rfl 2 rfl ?_
  refine v_iconst X dX12_ticketAt_2 ic_0 3 rfl ?_
  refine v_aload_n X dX12_ticketAt_3 0 rfl rfl 4 rfl ?_
  refine v_get X (C := RX12) (T := TX12) (N := 22) (ci := 11) (v := _) dX12_ticketAt_4 k_X12_ticketAt_w12 0 rfl rfl 0 (by decide) k_X12_ticketAt_1 rfl rfl 7 rfl ?_
  refine v_bipush X dX12_ticketAt_7 bp_6 9 rfl ?_
  obtain ⟨x1, hx1, hf⟩ := bnd hf
  refine v_iald X dX12_ticketAt_9 1 0 rfl rfl hx1 10 rfl ?_
  refine v_iconst X dX12_ticketAt_10 ic_1 11 rfl ?_
  refine v_isub X dX12_ticketAt_11 12 rfl ?_
  obtain ⟨o2, ho2, hf⟩ := bnd hf
  refine v_callVi X (ci := 11) (T := TX12) (C := RX12) (As := [.int v1, .int 0, .int (x1 - 1)]) (rest := []) (ws' := (wX12 ad c9 m_undoable m_undoStart o2.2 m_inputLength m_position m_start m_token m_value m_letters m_code m_place m_outputLength m_s m_parsed m_tried m_remembered m_slots m_kept m_away m_input m_halfway m_output)) (c_X12_noNumber l hG D c9 ad m_undoable m_undoStart m_thrown m_inputLength m_position m_start m_token m_value m_letters m_code m_place m_outputLength m_s m_parsed m_tried m_remembered m_slots m_kept m_away m_input m_halfway m_output v1 0 (x1 - 1) ho2) 3 gX12_ticketAt_X12_noNumber rfl rfl rfl ⟨rfl, pd_X12_noNumber⟩ ⟨Nat.le_of_ble_eq_true rfl, Nat.le_of_ble_eq_true rfl⟩ 0 rfl rfl rfl rfl (Nat.le_of_ble_eq_true rfl) ⟨Nat.zero_le _, Nat.zero_le _⟩ [0, 1, 2, 3, 4, 5, 6, 7, 8, 9, 10] [] [0, 1, 2, 3, 4, 5, 6, 7, 8, 9, 10] rfl rfl rfl rfl dX12_ticketAt_12 15 rfl ?_
  refine v_if_eq X (tgt := 20) dX12_ticketAt_15 rfl 18 rfl hf (fun hf => ?_) (fun hf => ?_)
  · refine v_aload_n X dX12_ticketAt_20 0 rfl rfl 21 rfl ?_
    refine v_get X (C := RX12) (T := TX12) (N := 22) (ci := 11) (v := _) dX12_ticketAt_21 k_X12_ticketAt_w12 0 rfl rfl 0 (by decide) k_X12_ticketAt_1 rfl rfl 24 rfl ?_
    refine v_iload_n X dX12_ticketAt_24 1 rfl rfl 25 rfl ?_
    obtain ⟨o3, ho3, hf⟩ := bnd hf
    refine v_callSi X (As := [.int v1]) (rest := [.ref (ad 1)]) (ws' := (wX12 ad c9 m_undoable m_undoStart o2.2 m_inputLength m_position m_start m_token m_value m_letters m_code m_place m_outputLength m_s m_parsed m_tried m_remembered m_slots m_kept m_away m_input m_halfway m_output)) (c_X12_ofTicket l hG D c9 v1 ho3) 1 gX12_ticketAt_X12_ofTicket rfl rfl rfl pd_X12_ofTicket ⟨Nat.le_of_ble_eq_true rfl, Nat.le_of_ble_eq_true rfl⟩ rfl rfl (Nat.le_of_ble_eq_true rfl) ⟨Nat.zero_le _, Nat.zero_le _⟩ [] [0, 1, 2, 3, 4, 5, 6, 7, 8, 9, 10] [0, 1, 2, 3, 4, 5, 6, 7, 8, 9, 10] rfl rfl rfl rfl dX12_ticketAt_25 28 rfl ?_
    refine v_iconst X dX12_ticketAt_28 ic_0 29 rfl ?_
    refine v_iadd X dX12_ticketAt_29 30 rfl ?_
    obtain ⟨x4, hx4, hf⟩ := bnd hf
    refine v_iald X dX12_ticketAt_30 1 0 rfl rfl hx4 31 rfl ?_
    cases hf
    exact v_iret X (Nat.zero_le _) (Nat.zero_le _) dX12_ticketAt_31
  · refine v_iconst X dX12_ticketAt_18 ic_0 19 rfl ?_
    cases hf
    exact v_iret X (Nat.zero_le _) (Nat.zero_le _) dX12_ticketAt_19
theorem pd_X12_ticketAt : yX12_ticketAt.cls ≠ "java/lang/invoke/MethodHandle" ∧ yX12_ticketAt.cls ≠ "java/lang/invoke/VarHandle" ∧ (parseMethodDescriptor yX12_ticketAt.desc).map (fun d => d.parameters.length) = some 1 := by decide +kernel
theorem k_X12_ofIt_w12 : ∀ w ∈ u_ws RX12 TX12 22, w ∈ wsX12_ofIt := in_r _ [18, 19, 20, 21, 22, 23, 24, 25, 26, 27, 28, 29, 30, 31, 32, 33, 34, 35, 36, 37, 38, 39] rfl
theorem k_X12_ofIt_1 : Cond.fieldLink RX12 7 "TicketGateModel" "s" "[I" ∈ wsX12_ofIt := List.mem_of_getElem? (i := 1) rfl
def f_X12_ofIt (m_thrown : Int32) (m_s : Nat → Int32) (v1 : Int32) (v2 : Int32) : Option (Int32 × Int32) :=
  (f_X12_noTicket m_thrown m_s v1).bind fun o1 =>
  if o1.1 = 0 then (
    (f_X12_find m_s v1).bind fun o2 =>
    (f_X12_ofTicket o2).bind fun o3 =>
    (rd m_s 463 (o3 + v2)).bind fun x4 =>
    some (x4, o1.2))
  else (
    some (0, o1.2))
set_option maxRecDepth 100000 in
set_option maxHeartbeats 4000000 in
theorem c_X12_ofIt (l : Launch) {G : (Nat → Prop) → State → Heap → Prop} (hG : vG G) (D : va_G) (c9 : Nat → ClassId) (ad : Nat → Nat) (m_undoable : Int32) (m_undoStart : Int32) (m_thrown : Int32) (m_inputLength : Int32) (m_position : Int32) (m_start : Int32) (m_token : Int32) (m_value : Int32) (m_letters : Int32) (m_code : Int32) (m_place : Int32) (m_outputLength : Int32) (m_s : Nat → Int32) (m_parsed : Nat → Int32) (m_tried : Nat → Int32) (m_remembered : Nat → Int32) (m_slots : Nat → Int32) (m_kept : Nat → Int32) (m_away : Nat → Int32) (m_input : Nat → Int32) (m_halfway : Nat → Int32) (m_output : Nat → Int32) (v1 : Int32) (v2 : Int32) {o : Int32 × Int32} (hf : f_X12_ofIt m_thrown m_s v1 v2 = some o) : mI l yX12_ofIt wsX12_ofIt { frames := 3, cells := 0, slots := 0, locals := 63 } G D (tyA c9) [.ref (ad 0), .int v1, .int v2] (wX12 ad c9 m_undoable m_undoStart m_thrown m_inputLength m_position m_start m_token m_value m_letters m_code m_place m_outputLength m_s m_parsed m_tried m_remembered m_slots m_kept m_away m_input m_halfway m_output) [] 0 0 o.1 (wX12 ad c9 m_undoable m_undoStart o.2 m_inputLength m_position m_start m_token m_value m_letters m_code m_place m_outputLength m_s m_parsed m_tried m_remembered m_slots m_kept m_away m_input m_halfway m_output) := by
  refine mI_of hG (cc := cX12_ofIt) (maxL := 3) (ty := .int) (by decide) rfl (Nat.le_of_ble_eq_true rfl) ?_
  intro p e s m args below meth c A X
  have X : vX p s m args meth c cX12_ofIt 3 (some .int) RX12 wsX12_ofIt D (tyA c9) G A := X
  refine v_eq (lv2 := [(0, .ref (ad 0)), (1, .int v1), (2, .int v2)]) rfl rfl rfl rfl ?_
  rw [f_X12_ofIt] at hf
  refine v_aload_n X dX12_ofIt_0 0 rfl rfl 1 rfl ?_
  refine v_iload_n X dX12_ofIt_1 1 rfl rfl 2 rfl ?_
  obtain ⟨o1, ho1, hf⟩ := bnd hf
  refine v_callVi X (ci := 11) (T := TX12) (C := RX12) (As := [.int v1]) (rest := []) (ws' := (wX12 ad c9 m_undoable m_undoStart o1.2 m_inputLength m_position m_start m_token m_value m_letters m_code m_place m_outputLength m_s m_parsed m_tried m_remembered m_slots m_kept m_away m_input m_halfway m_output)) (c_X12_noTicket l hG D c9 ad m_undoable m_undoStart m_thrown m_inputLength m_position m_start m_token m_value m_letters m_code m_place m_outputLength m_s m_parsed m_tried m_remembered m_slots m_kept m_away m_input m_halfway m_output v1 ho1) 1 gX12_ofIt_X12_noTicket rfl rfl rfl ⟨rfl, pd_X12_noTicket⟩ ⟨Nat.le_of_ble_eq_true rfl, Nat.le_of_ble_eq_true rfl⟩ 0 rfl rfl rfl rfl (Nat.le_of_ble_eq_true rfl) ⟨Nat.zero_le _, Nat.zero_le _⟩ [0, 1, 2, 3, 4, 5, 6, 7, 8, 9, 10] [] [0, 1, 2, 3, 4, 5, 6, 7, 8, 9, 10] rfl rfl rfl rfl dX12_ofIt_2 5 rfl ?_
  refine v_if_eq X (tgt := 10) dX12_ofIt_5 rfl 8 rfl hf (fun hf => ?_) (fun hf => ?_)
  · refine v_aload_n X dX12_ofIt_10 0 rfl rfl 11 rfl ?_
    refine v_get X (C := RX12) (T := TX12) (N := 22) (ci := 11) (v := _) dX12_ofIt_11 k_X12_ofIt_w12 0 rfl rfl 0 (by decide) k_X12_ofIt_1 rfl rfl 14 rfl ?_
    refine v_aload_n X dX12_ofIt_14 0 rfl rfl 15 rfl ?_
    refine v_get X (C := RX12) (T := TX12) (N := 22) (ci := 11) (v := _) dX12_ofIt_15 k_X12_ofIt_w12 0 rfl rfl 0 (by decide) k_X12_ofIt_1 rfl rfl 18 rfl ?_
    refine v_iload_n X dX12_ofIt_18 1 rfl rfl 19 rfl ?_
    obtain ⟨o2, ho2, hf⟩ := bnd hf
    refine v_callSi X (As := [.ref (ad 1), .int v1]) (rest := [.ref (ad 1)]) (ws' := (wX12 ad c9 m_undoable m_undoStart o1.2 m_inputLength m_position m_start m_token m_value m_letters m_code m_place m_outputLength m_s m_parsed m_tried m_remembered m_slots m_kept m_away m_input m_halfway m_output)) (c_X12_find l hG D c9 (ad 1) m_s v1 ho2) 2 gX12_ofIt_X12_find rfl rfl rfl pd_X12_find ⟨Nat.le_of_ble_eq_true rfl, Nat.le_of_ble_eq_true rfl⟩ rfl rfl (Nat.le_of_ble_eq_true rfl) ⟨Nat.zero_le _, Nat.zero_le _⟩ [1] [0, 2, 3, 4, 5, 6, 7, 8, 9, 10] [0, 10, 1, 2, 3, 4, 5, 6, 7, 8, 9] rfl rfl rfl rfl dX12_ofIt_19 22 rfl ?_
    obtain ⟨o3, ho3, hf⟩ := bnd hf
    refine v_callSi X (As := [.int o2]) (rest := [.ref (ad 1)]) (ws' := (wX12 ad c9 m_undoable m_undoStart o1.2 m_inputLength m_position m_start m_token m_value m_letters m_code m_place m_outputLength m_s m_parsed m_tried m_remembered m_slots m_kept m_away m_input m_halfway m_output)) (c_X12_ofTicket l hG D c9 o2 ho3) 1 gX12_ofIt_X12_ofTicket rfl rfl rfl pd_X12_ofTicket ⟨Nat.le_of_ble_eq_true rfl, Nat.le_of_ble_eq_true rfl⟩ rfl rfl (Nat.le_of_ble_eq_true rfl) ⟨Nat.zero_le _, Nat.zero_le _⟩ [] [0, 1, 2, 3, 4, 5, 6, 7, 8, 9, 10] [0, 1, 2, 3, 4, 5, 6, 7, 8, 9, 10] rfl rfl rfl rfl dX12_ofIt_22 25 rfl ?_
    refine v_iload_n X dX12_ofIt_25 2 rfl rfl 26 rfl ?_
    refine v_iadd X dX12_ofIt_26 27 rfl ?_
    obtain ⟨x4, hx4, hf⟩ := bnd hf
    refine v_iald X dX12_ofIt_27 1 0 rfl rfl hx4 28 rfl ?_
    cases hf
    exact v_iret X (Nat.zero_le _) (Nat.zero_le _) dX12_ofIt_28
  · refine v_iconst X dX12_ofIt_8 ic_0 9 rfl ?_
    cases hf
    exact v_iret X (Nat.zero_le _) (Nat.zero_le _) dX12_ofIt_9
theorem pd_X12_ofIt : yX12_ofIt.cls ≠ "java/lang/invoke/MethodHandle" ∧ yX12_ofIt.cls ≠ "java/lang/invoke/VarHandle" ∧ (parseMethodDescriptor yX12_ofIt.desc).map (fun d => d.parameters.length) = some 2 := by decide +kernel
def f_X12_kindOf (m_thrown : Int32) (m_s : Nat → Int32) (v1 : Int32) : Option (Int32 × Int32) :=
  (f_X12_ofIt m_thrown m_s v1 1).bind fun o1 =>
  some (o1.1, o1.2)
set_option maxRecDepth 100000 in
set_option maxHeartbeats 4000000 in
theorem c_X12_kindOf (l : Launch) {G : (Nat → Prop) → State → Heap → Prop} (hG : vG G) (D : va_G) (c9 : Nat → ClassId) (ad : Nat → Nat) (m_undoable : Int32) (m_undoStart : Int32) (m_thrown : Int32) (m_inputLength : Int32) (m_position : Int32) (m_start : Int32) (m_token : Int32) (m_value : Int32) (m_letters : Int32) (m_code : Int32) (m_place : Int32) (m_outputLength : Int32) (m_s : Nat → Int32) (m_parsed : Nat → Int32) (m_tried : Nat → Int32) (m_remembered : Nat → Int32) (m_slots : Nat → Int32) (m_kept : Nat → Int32) (m_away : Nat → Int32) (m_input : Nat → Int32) (m_halfway : Nat → Int32) (m_output : Nat → Int32) (v1 : Int32) {o : Int32 × Int32} (hf : f_X12_kindOf m_thrown m_s v1 = some o) : mI l yX12_kindOf wsX12_kindOf { frames := 4, cells := 0, slots := 0, locals := 85 } G D (tyA c9) [.ref (ad 0), .int v1] (wX12 ad c9 m_undoable m_undoStart m_thrown m_inputLength m_position m_start m_token m_value m_letters m_code m_place m_outputLength m_s m_parsed m_tried m_remembered m_slots m_kept m_away m_input m_halfway m_output) [] 0 0 o.1 (wX12 ad c9 m_undoable m_undoStart o.2 m_inputLength m_position m_start m_token m_value m_letters m_code m_place m_outputLength m_s m_parsed m_tried m_remembered m_slots m_kept m_away m_input m_halfway m_output) := by
  refine mI_of hG (cc := cX12_kindOf) (maxL := 2) (ty := .int) (by decide) rfl (Nat.le_of_ble_eq_true rfl) ?_
  intro p e s m args below meth c A X
  have X : vX p s m args meth c cX12_kindOf 2 (some .int) RX12 wsX12_kindOf D (tyA c9) G A := X
  refine v_eq (lv2 := [(0, .ref (ad 0)), (1, .int v1)]) rfl rfl rfl rfl ?_
  rw [f_X12_kindOf] at hf
  refine v_aload_n X dX12_kindOf_0 0 rfl rfl 1 rfl ?_
  refine v_iload_n X dX12_kindOf_1 1 rfl rfl 2 rfl ?_
  refine v_iconst X dX12_kindOf_2 ic_1 3 rfl ?_
  obtain ⟨o1, ho1, hf⟩ := bnd hf
  refine v_callVi X (ci := 11) (T := TX12) (C := RX12) (As := [.int v1, .int 1]) (rest := []) (ws' := (wX12 ad c9 m_undoable m_undoStart o1.2 m_inputLength m_position m_start m_token m_value m_letters m_code m_place m_outputLength m_s m_parsed m_tried m_remembered m_slots m_kept m_away m_input m_halfway m_output)) (c_X12_ofIt l hG D c9 ad m_undoable m_undoStart m_thrown m_inputLength m_position m_start m_token m_value m_letters m_code m_place m_outputLength m_s m_parsed m_tried m_remembered m_slots m_kept m_away m_input m_halfway m_output v1 1 ho1) 2 gX12_kindOf_X12_ofIt rfl rfl rfl ⟨rfl, pd_X12_ofIt⟩ ⟨Nat.le_of_ble_eq_true rfl, Nat.le_of_ble_eq_true rfl⟩ 0 rfl rfl rfl rfl (Nat.le_of_ble_eq_true rfl) ⟨Nat.zero_le _, Nat.zero_le _⟩ [0, 1, 2, 3, 4, 5, 6, 7, 8, 9, 10] [] [0, 1, 2, 3, 4, 5, 6, 7, 8, 9, 10] rfl rfl rfl rfl dX12_kindOf_3 6 rfl ?_
  cases hf
  exact v_iret X (Nat.zero_le _) (Nat.zero_le _) dX12_kindOf_6
theorem pd_X12_kindOf : yX12_kindOf.cls ≠ "java/lang/invoke/MethodHandle" ∧ yX12_kindOf.cls ≠ "java/lang/invoke/VarHandle" ∧ (parseMethodDescriptor yX12_kindOf.desc).map (fun d => d.parameters.length) = some 1 := by decide +kernel
def f_X12_ownerOf (m_thrown : Int32) (m_s : Nat → Int32) (v1 : Int32) : Option (Int32 × Int32) :=
  (f_X12_ofIt m_thrown m_s v1 2).bind fun o1 =>
  some (o1.1, o1.2)
set_option maxRecDepth 100000 in
set_option maxHeartbeats 4000000 in
theorem c_X12_ownerOf (l : Launch) {G : (Nat → Prop) → State → Heap → Prop} (hG : vG G) (D : va_G) (c9 : Nat → ClassId) (ad : Nat → Nat) (m_undoable : Int32) (m_undoStart : Int32) (m_thrown : Int32) (m_inputLength : Int32) (m_position : Int32) (m_start : Int32) (m_token : Int32) (m_value : Int32) (m_letters : Int32) (m_code : Int32) (m_place : Int32) (m_outputLength : Int32) (m_s : Nat → Int32) (m_parsed : Nat → Int32) (m_tried : Nat → Int32) (m_remembered : Nat → Int32) (m_slots : Nat → Int32) (m_kept : Nat → Int32) (m_away : Nat → Int32) (m_input : Nat → Int32) (m_halfway : Nat → Int32) (m_output : Nat → Int32) (v1 : Int32) {o : Int32 × Int32} (hf : f_X12_ownerOf m_thrown m_s v1 = some o) : mI l yX12_ownerOf wsX12_ownerOf { frames := 4, cells := 0, slots := 0, locals := 85 } G D (tyA c9) [.ref (ad 0), .int v1] (wX12 ad c9 m_undoable m_undoStart m_thrown m_inputLength m_position m_start m_token m_value m_letters m_code m_place m_outputLength m_s m_parsed m_tried m_remembered m_slots m_kept m_away m_input m_halfway m_output) [] 0 0 o.1 (wX12 ad c9 m_undoable m_undoStart o.2 m_inputLength m_position m_start m_token m_value m_letters m_code m_place m_outputLength m_s m_parsed m_tried m_remembered m_slots m_kept m_away m_input m_halfway m_output) := by
  refine mI_of hG (cc := cX12_ownerOf) (maxL := 2) (ty := .int) (by decide) rfl (Nat.le_of_ble_eq_true rfl) ?_
  intro p e s m args below meth c A X
  have X : vX p s m args meth c cX12_ownerOf 2 (some .int) RX12 wsX12_ownerOf D (tyA c9) G A := X
  refine v_eq (lv2 := [(0, .ref (ad 0)), (1, .int v1)]) rfl rfl rfl rfl ?_
  rw [f_X12_ownerOf] at hf
  refine v_aload_n X dX12_ownerOf_0 0 rfl rfl 1 rfl ?_
  refine v_iload_n X dX12_ownerOf_1 1 rfl rfl 2 rfl ?_
  refine v_iconst X dX12_ownerOf_2 ic_2 3 rfl ?_
  obtain ⟨o1, ho1, hf⟩ := bnd hf
  refine v_callVi X (ci := 11) (T := TX12) (C := RX12) (As := [.int v1, .int 2]) (rest := []) (ws' := (wX12 ad c9 m_undoable m_undoStart o1.2 m_inputLength m_position m_start m_token m_value m_letters m_code m_place m_outputLength m_s m_parsed m_tried m_remembered m_slots m_kept m_away m_input m_halfway m_output)) (c_X12_ofIt l hG D c9 ad m_undoable m_undoStart m_thrown m_inputLength m_position m_start m_token m_value m_letters m_code m_place m_outputLength m_s m_parsed m_tried m_remembered m_slots m_kept m_away m_input m_halfway m_output v1 2 ho1) 2 gX12_ownerOf_X12_ofIt rfl rfl rfl ⟨rfl, pd_X12_ofIt⟩ ⟨Nat.le_of_ble_eq_true rfl, Nat.le_of_ble_eq_true rfl⟩ 0 rfl rfl rfl rfl (Nat.le_of_ble_eq_true rfl) ⟨Nat.zero_le _, Nat.zero_le _⟩ [0, 1, 2, 3, 4, 5, 6, 7, 8, 9, 10] [] [0, 1, 2, 3, 4, 5, 6, 7, 8, 9, 10] rfl rfl rfl rfl dX12_ownerOf_3 6 rfl ?_
  cases hf
  exact v_iret X (Nat.zero_le _) (Nat.zero_le _) dX12_ownerOf_6
theorem pd_X12_ownerOf : yX12_ownerOf.cls ≠ "java/lang/invoke/MethodHandle" ∧ yX12_ownerOf.cls ≠ "java/lang/invoke/VarHandle" ∧ (parseMethodDescriptor yX12_ownerOf.desc).map (fun d => d.parameters.length) = some 1 := by decide +kernel
def f_X12_realmOf (m_thrown : Int32) (m_s : Nat → Int32) (v1 : Int32) : Option (Int32 × Int32) :=
  (f_X12_ofIt m_thrown m_s v1 3).bind fun o1 =>
  some (o1.1, o1.2)
set_option maxRecDepth 100000 in
set_option maxHeartbeats 4000000 in
theorem c_X12_realmOf (l : Launch) {G : (Nat → Prop) → State → Heap → Prop} (hG : vG G) (D : va_G) (c9 : Nat → ClassId) (ad : Nat → Nat) (m_undoable : Int32) (m_undoStart : Int32) (m_thrown : Int32) (m_inputLength : Int32) (m_position : Int32) (m_start : Int32) (m_token : Int32) (m_value : Int32) (m_letters : Int32) (m_code : Int32) (m_place : Int32) (m_outputLength : Int32) (m_s : Nat → Int32) (m_parsed : Nat → Int32) (m_tried : Nat → Int32) (m_remembered : Nat → Int32) (m_slots : Nat → Int32) (m_kept : Nat → Int32) (m_away : Nat → Int32) (m_input : Nat → Int32) (m_halfway : Nat → Int32) (m_output : Nat → Int32) (v1 : Int32) {o : Int32 × Int32} (hf : f_X12_realmOf m_thrown m_s v1 = some o) : mI l yX12_realmOf wsX12_realmOf { frames := 4, cells := 0, slots := 0, locals := 85 } G D (tyA c9) [.ref (ad 0), .int v1] (wX12 ad c9 m_undoable m_undoStart m_thrown m_inputLength m_position m_start m_token m_value m_letters m_code m_place m_outputLength m_s m_parsed m_tried m_remembered m_slots m_kept m_away m_input m_halfway m_output) [] 0 0 o.1 (wX12 ad c9 m_undoable m_undoStart o.2 m_inputLength m_position m_start m_token m_value m_letters m_code m_place m_outputLength m_s m_parsed m_tried m_remembered m_slots m_kept m_away m_input m_halfway m_output) := by
  refine mI_of hG (cc := cX12_realmOf) (maxL := 2) (ty := .int) (by decide) rfl (Nat.le_of_ble_eq_true rfl) ?_
  intro p e s m args below meth c A X
  have X : vX p s m args meth c cX12_realmOf 2 (some .int) RX12 wsX12_realmOf D (tyA c9) G A := X
  refine v_eq (lv2 := [(0, .ref (ad 0)), (1, .int v1)]) rfl rfl rfl rfl ?_
  rw [f_X12_realmOf] at hf
  refine v_aload_n X dX12_realmOf_0 0 rfl rfl 1 rfl ?_
  refine v_iload_n X dX12_realmOf_1 1 rfl rfl 2 rfl ?_
  refine v_iconst X dX12_realmOf_2 ic_3 3 rfl ?_
  obtain ⟨o1, ho1, hf⟩ := bnd hf
  refine v_callVi X (ci := 11) (T := TX12) (C := RX12) (As := [.int v1, .int 3]) (rest := []) (ws' := (wX12 ad c9 m_undoable m_undoStart o1.2 m_inputLength m_position m_start m_token m_value m_letters m_code m_place m_outputLength m_s m_parsed m_tried m_remembered m_slots m_kept m_away m_input m_halfway m_output)) (c_X12_ofIt l hG D c9 ad m_undoable m_undoStart m_thrown m_inputLength m_position m_start m_token m_value m_letters m_code m_place m_outputLength m_s m_parsed m_tried m_remembered m_slots m_kept m_away m_input m_halfway m_output v1 3 ho1) 2 gX12_realmOf_X12_ofIt rfl rfl rfl ⟨rfl, pd_X12_ofIt⟩ ⟨Nat.le_of_ble_eq_true rfl, Nat.le_of_ble_eq_true rfl⟩ 0 rfl rfl rfl rfl (Nat.le_of_ble_eq_true rfl) ⟨Nat.zero_le _, Nat.zero_le _⟩ [0, 1, 2, 3, 4, 5, 6, 7, 8, 9, 10] [] [0, 1, 2, 3, 4, 5, 6, 7, 8, 9, 10] rfl rfl rfl rfl dX12_realmOf_3 6 rfl ?_
  cases hf
  exact v_iret X (Nat.zero_le _) (Nat.zero_le _) dX12_realmOf_6
theorem pd_X12_realmOf : yX12_realmOf.cls ≠ "java/lang/invoke/MethodHandle" ∧ yX12_realmOf.cls ≠ "java/lang/invoke/VarHandle" ∧ (parseMethodDescriptor yX12_realmOf.desc).map (fun d => d.parameters.length) = some 1 := by decide +kernel
def f_X12_serviceOf (m_thrown : Int32) (m_s : Nat → Int32) (v1 : Int32) : Option (Int32 × Int32) :=
  (f_X12_ofIt m_thrown m_s v1 4).bind fun o1 =>
  some (o1.1, o1.2)
set_option maxRecDepth 100000 in
set_option maxHeartbeats 4000000 in
theorem c_X12_serviceOf (l : Launch) {G : (Nat → Prop) → State → Heap → Prop} (hG : vG G) (D : va_G) (c9 : Nat → ClassId) (ad : Nat → Nat) (m_undoable : Int32) (m_undoStart : Int32) (m_thrown : Int32) (m_inputLength : Int32) (m_position : Int32) (m_start : Int32) (m_token : Int32) (m_value : Int32) (m_letters : Int32) (m_code : Int32) (m_place : Int32) (m_outputLength : Int32) (m_s : Nat → Int32) (m_parsed : Nat → Int32) (m_tried : Nat → Int32) (m_remembered : Nat → Int32) (m_slots : Nat → Int32) (m_kept : Nat → Int32) (m_away : Nat → Int32) (m_input : Nat → Int32) (m_halfway : Nat → Int32) (m_output : Nat → Int32) (v1 : Int32) {o : Int32 × Int32} (hf : f_X12_serviceOf m_thrown m_s v1 = some o) : mI l yX12_serviceOf wsX12_serviceOf { frames := 4, cells := 0, slots := 0, locals := 85 } G D (tyA c9) [.ref (ad 0), .int v1] (wX12 ad c9 m_undoable m_undoStart m_thrown m_inputLength m_position m_start m_token m_value m_letters m_code m_place m_outputLength m_s m_parsed m_tried m_remembered m_slots m_kept m_away m_input m_halfway m_output) [] 0 0 o.1 (wX12 ad c9 m_undoable m_undoStart o.2 m_inputLength m_position m_start m_token m_value m_letters m_code m_place m_outputLength m_s m_parsed m_tried m_remembered m_slots m_kept m_away m_input m_halfway m_output) := by
  refine mI_of hG (cc := cX12_serviceOf) (maxL := 2) (ty := .int) (by decide) rfl (Nat.le_of_ble_eq_true rfl) ?_
  intro p e s m args below meth c A X
  have X : vX p s m args meth c cX12_serviceOf 2 (some .int) RX12 wsX12_serviceOf D (tyA c9) G A := X
  refine v_eq (lv2 := [(0, .ref (ad 0)), (1, .int v1)]) rfl rfl rfl rfl ?_
  rw [f_X12_serviceOf] at hf
  refine v_aload_n X dX12_serviceOf_0 0 rfl rfl 1 rfl ?_
  refine v_iload_n X dX12_serviceOf_1 1 rfl rfl 2 rfl ?_
  refine v_iconst X dX12_serviceOf_2 ic_4 3 rfl ?_
  obtain ⟨o1, ho1, hf⟩ := bnd hf
  refine v_callVi X (ci := 11) (T := TX12) (C := RX12) (As := [.int v1, .int 4]) (rest := []) (ws' := (wX12 ad c9 m_undoable m_undoStart o1.2 m_inputLength m_position m_start m_token m_value m_letters m_code m_place m_outputLength m_s m_parsed m_tried m_remembered m_slots m_kept m_away m_input m_halfway m_output)) (c_X12_ofIt l hG D c9 ad m_undoable m_undoStart m_thrown m_inputLength m_position m_start m_token m_value m_letters m_code m_place m_outputLength m_s m_parsed m_tried m_remembered m_slots m_kept m_away m_input m_halfway m_output v1 4 ho1) 2 gX12_serviceOf_X12_ofIt rfl rfl rfl ⟨rfl, pd_X12_ofIt⟩ ⟨Nat.le_of_ble_eq_true rfl, Nat.le_of_ble_eq_true rfl⟩ 0 rfl rfl rfl rfl (Nat.le_of_ble_eq_true rfl) ⟨Nat.zero_le _, Nat.zero_le _⟩ [0, 1, 2, 3, 4, 5, 6, 7, 8, 9, 10] [] [0, 1, 2, 3, 4, 5, 6, 7, 8, 9, 10] rfl rfl rfl rfl dX12_serviceOf_3 6 rfl ?_
  cases hf
  exact v_iret X (Nat.zero_le _) (Nat.zero_le _) dX12_serviceOf_6
theorem pd_X12_serviceOf : yX12_serviceOf.cls ≠ "java/lang/invoke/MethodHandle" ∧ yX12_serviceOf.cls ≠ "java/lang/invoke/VarHandle" ∧ (parseMethodDescriptor yX12_serviceOf.desc).map (fun d => d.parameters.length) = some 1 := by decide +kernel
