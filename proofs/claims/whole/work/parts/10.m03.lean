theorem k_X12_errorCode_w12 : ∀ w ∈ u_ws RX12 TX12 22, w ∈ wsX12_errorCode := in_r _ [3, 4, 5, 6, 7, 8, 9, 10, 11, 12, 13, 14, 15, 16, 17, 18, 19, 20, 21, 22, 23, 24] rfl
theorem k_X12_errorCode_1 : Cond.fieldLink RX12 72 "TicketGateModel" "thrown" "I" ∈ wsX12_errorCode := List.mem_of_getElem? (i := 1) rfl
theorem k_X12_errorCode_2 : Cond.fieldLink RX12 164 "TicketGateModel" "code" "I" ∈ wsX12_errorCode := List.mem_of_getElem? (i := 2) rfl
def f_X12_errorCode (m_thrown : Int32) (m_code : Int32) : Option (Int32 × Int32) :=
  some (m_code, 0)
set_option maxRecDepth 100000 in
set_option maxHeartbeats 4000000 in
theorem c_X12_errorCode (l : Launch) {G : (Nat → Prop) → State → Heap → Prop} (hG : vG G) (D : va_G) (c9 : Nat → ClassId) (ad : Nat → Nat) (m_undoable : Int32) (m_undoStart : Int32) (m_thrown : Int32) (m_inputLength : Int32) (m_position : Int32) (m_start : Int32) (m_token : Int32) (m_value : Int32) (m_letters : Int32) (m_code : Int32) (m_place : Int32) (m_outputLength : Int32) (m_s : Nat → Int32) (m_parsed : Nat → Int32) (m_tried : Nat → Int32) (m_remembered : Nat → Int32) (m_slots : Nat → Int32) (m_kept : Nat → Int32) (m_away : Nat → Int32) (m_input : Nat → Int32) (m_halfway : Nat → Int32) (m_output : Nat → Int32)  {o : Int32 × Int32} (hf : f_X12_errorCode m_thrown m_code = some o) : mI l yX12_errorCode wsX12_errorCode { frames := 0, cells := 0, slots := 0, locals := 0 } G D (tyA c9) [.ref (ad 0)] (wX12 ad c9 m_undoable m_undoStart m_thrown m_inputLength m_position m_start m_token m_value m_letters m_code m_place m_outputLength m_s m_parsed m_tried m_remembered m_slots m_kept m_away m_input m_halfway m_output) [] 0 0 o.1 (wX12 ad c9 m_undoable m_undoStart o.2 m_inputLength m_position m_start m_token m_value m_letters m_code m_place m_outputLength m_s m_parsed m_tried m_remembered m_slots m_kept m_away m_input m_halfway m_output) := by
  refine mI_of hG (cc := cX12_errorCode) (maxL := 1) (ty := .int) (by decide) rfl (Nat.le_of_ble_eq_true rfl) ?_
  intro p e s m args below meth c A X
  have X : vX p s m args meth c cX12_errorCode 1 (some .int) RX12 wsX12_errorCode D (tyA c9) G A := X
  refine v_eq (lv2 := [(0, .ref (ad 0))]) rfl rfl rfl rfl ?_
  rw [f_X12_errorCode] at hf
  refine v_aload_n X dX12_errorCode_0 0 rfl rfl 1 rfl ?_
  refine v_iconst X dX12_errorCode_1 ic_0 2 rfl ?_
  refine v_put X (C := RX12) (T := TX12) (N := 22) (ci := 11) (ty := tyX12 8) (ws' := (wX12 ad c9 m_undoable m_undoStart 0 m_inputLength m_position m_start m_token m_value m_letters m_code m_place m_outputLength m_s m_parsed m_tried m_remembered m_slots m_kept m_away m_input m_halfway m_output)) dX12_errorCode_2 k_X12_errorCode_w12 0 rfl rfl 8 (by decide) tyX12 tyX12_ok nmX12 k_X12_errorCode_1 rfl rfl (tyX12_ok 8 (by decide)) rfl rfl (by decide) rfl 5 rfl ?_
  refine v_aload_n X dX12_errorCode_5 0 rfl rfl 6 rfl ?_
  refine v_get X (C := RX12) (T := TX12) (N := 22) (ci := 11) (v := _) dX12_errorCode_6 k_X12_errorCode_w12 0 rfl rfl 17 (by decide) k_X12_errorCode_2 rfl rfl 9 rfl ?_
  cases hf
  exact v_iret X (Nat.zero_le _) (Nat.zero_le _) dX12_errorCode_9
theorem pd_X12_errorCode : yX12_errorCode.cls ≠ "java/lang/invoke/MethodHandle" ∧ yX12_errorCode.cls ≠ "java/lang/invoke/VarHandle" ∧ (parseMethodDescriptor yX12_errorCode.desc).map (fun d => d.parameters.length) = some 0 := by decide +kernel
theorem k_X12_errorPosition_w12 : ∀ w ∈ u_ws RX12 TX12 22, w ∈ wsX12_errorPosition := in_r _ [3, 4, 5, 6, 7, 8, 9, 10, 11, 12, 13, 14, 15, 16, 17, 18, 19, 20, 21, 22, 23, 24] rfl
theorem k_X12_errorPosition_1 : Cond.fieldLink RX12 72 "TicketGateModel" "thrown" "I" ∈ wsX12_errorPosition := List.mem_of_getElem? (i := 1) rfl
theorem k_X12_errorPosition_2 : Cond.fieldLink RX12 35 "TicketGateModel" "place" "I" ∈ wsX12_errorPosition := List.mem_of_getElem? (i := 2) rfl
def f_X12_errorPosition (m_thrown : Int32) (m_place : Int32) : Option (Int32 × Int32) :=
  some (m_place, 0)
set_option maxRecDepth 100000 in
set_option maxHeartbeats 4000000 in
theorem c_X12_errorPosition (l : Launch) {G : (Nat → Prop) → State → Heap → Prop} (hG : vG G) (D : va_G) (c9 : Nat → ClassId) (ad : Nat → Nat) (m_undoable : Int32) (m_undoStart : Int32) (m_thrown : Int32) (m_inputLength : Int32) (m_position : Int32) (m_start : Int32) (m_token : Int32) (m_value : Int32) (m_letters : Int32) (m_code : Int32) (m_place : Int32) (m_outputLength : Int32) (m_s : Nat → Int32) (m_parsed : Nat → Int32) (m_tried : Nat → Int32) (m_remembered : Nat → Int32) (m_slots : Nat → Int32) (m_kept : Nat → Int32) (m_away : Nat → Int32) (m_input : Nat → Int32) (m_halfway : Nat → Int32) (m_output : Nat → Int32)  {o : Int32 × Int32} (hf : f_X12_errorPosition m_thrown m_place = some o) : mI l yX12_errorPosition wsX12_errorPosition { frames := 0, cells := 0, slots := 0, locals := 0 } G D (tyA c9) [.ref (ad 0)] (wX12 ad c9 m_undoable m_undoStart m_thrown m_inputLength m_position m_start m_token m_value m_letters m_code m_place m_outputLength m_s m_parsed m_tried m_remembered m_slots m_kept m_away m_input m_halfway m_output) [] 0 0 o.1 (wX12 ad c9 m_undoable m_undoStart o.2 m_inputLength m_position m_start m_token m_value m_letters m_code m_place m_outputLength m_s m_parsed m_tried m_remembered m_slots m_kept m_away m_input m_halfway m_output) := by
  refine mI_of hG (cc := cX12_errorPosition) (maxL := 1) (ty := .int) (by decide) rfl (Nat.le_of_ble_eq_true rfl) ?_
  intro p e s m args below meth c A X
  have X : vX p s m args meth c cX12_errorPosition 1 (some .int) RX12 wsX12_errorPosition D (tyA c9) G A := X
  refine v_eq (lv2 := [(0, .ref (ad 0))]) rfl rfl rfl rfl ?_
  rw [f_X12_errorPosition] at hf
  refine v_aload_n X dX12_errorPosition_0 0 rfl rfl 1 rfl ?_
  refine v_iconst X dX12_errorPosition_1 ic_0 2 rfl ?_
  refine v_put X (C := RX12) (T := TX12) (N := 22) (ci := 11) (ty := tyX12 8) (ws' := (wX12 ad c9 m_undoable m_undoStart 0 m_inputLength m_position m_start m_token m_value m_letters m_code m_place m_outputLength m_s m_parsed m_tried m_remembered m_slots m_kept m_away m_input m_halfway m_output)) dX12_errorPosition_2 k_X12_errorPosition_w12 0 rfl rfl 8 (by decide) tyX12 tyX12_ok nmX12 k_X12_errorPosition_1 rfl rfl (tyX12_ok 8 (by decide)) rfl rfl (by decide) rfl 5 rfl ?_
  refine v_aload_n X dX12_errorPosition_5 0 rfl rfl 6 rfl ?_
  refine v_get X (C := RX12) (T := TX12) (N := 22) (ci := 11) (v := _) dX12_errorPosition_6 k_X12_errorPosition_w12 0 rfl rfl 18 (by decide) k_X12_errorPosition_2 rfl rfl 9 rfl ?_
  cases hf
  exact v_iret X (Nat.zero_le _) (Nat.zero_le _) dX12_errorPosition_9
theorem pd_X12_errorPosition : yX12_errorPosition.cls ≠ "java/lang/invoke/MethodHandle" ∧ yX12_errorPosition.cls ≠ "java/lang/invoke/VarHandle" ∧ (parseMethodDescriptor yX12_errorPosition.desc).map (fun d => d.parameters.length) = some 0 := by decide +kernel
theorem k_X12_byteAt_w12 : ∀ w ∈ u_ws RX12 TX12 22, w ∈ wsX12_byteAt := in_r _ [3, 4, 5, 6, 7, 8, 9, 10, 11, 12, 13, 14, 15, 16, 17, 18, 19, 20, 21, 22, 23, 24] rfl
theorem k_X12_byteAt_1 : Cond.fieldLink RX12 55 "TicketGateModel" "inputLength" "I" ∈ wsX12_byteAt := List.mem_of_getElem? (i := 1) rfl
theorem k_X12_byteAt_2 : Cond.fieldLink RX12 32 "TicketGateModel" "input" "[I" ∈ wsX12_byteAt := List.mem_of_getElem? (i := 2) rfl
def f_X12_byteAt (m_inputLength : Int32) (m_input : Nat → Int32) (v1 : Int32) : Option (Int32) :=
  if m_inputLength ≤ v1 then (
    some ((-1)))
  else (
    (rd m_input 600 v1).bind fun x1 =>
    some (x1))
set_option maxRecDepth 100000 in
set_option maxHeartbeats 4000000 in
theorem c_X12_byteAt (l : Launch) {G : (Nat → Prop) → State → Heap → Prop} (hG : vG G) (D : va_G) (c9 : Nat → ClassId) (ad : Nat → Nat) (m_undoable : Int32) (m_undoStart : Int32) (m_thrown : Int32) (m_inputLength : Int32) (m_position : Int32) (m_start : Int32) (m_token : Int32) (m_value : Int32) (m_letters : Int32) (m_code : Int32) (m_place : Int32) (m_outputLength : Int32) (m_s : Nat → Int32) (m_parsed : Nat → Int32) (m_tried : Nat → Int32) (m_remembered : Nat → Int32) (m_slots : Nat → Int32) (m_kept : Nat → Int32) (m_away : Nat → Int32) (m_input : Nat → Int32) (m_halfway : Nat → Int32) (m_output : Nat → Int32) (v1 : Int32) {o : Int32} (hf : f_X12_byteAt m_inputLength m_input v1 = some o) : mI l yX12_byteAt wsX12_byteAt { frames := 0, cells := 0, slots := 0, locals := 0 } G D (tyA c9) [.ref (ad 0), .int v1] (wX12 ad c9 m_undoable m_undoStart m_thrown m_inputLength m_position m_start m_token m_value m_letters m_code m_place m_outputLength m_s m_parsed m_tried m_remembered m_slots m_kept m_away m_input m_halfway m_output) [] 0 0 o (wX12 ad c9 m_undoable m_undoStart m_thrown m_inputLength m_position m_start m_token m_value m_letters m_code m_place m_outputLength m_s m_parsed m_tried m_remembered m_slots m_kept m_away m_input m_halfway m_output) := by
  refine mI_of hG (cc := cX12_byteAt) (maxL := 2) (ty := .int) (by decide) rfl (Nat.le_of_ble_eq_true rfl) ?_
  intro p e s m args below meth c A X
  have X : vX p s m args meth c cX12_byteAt 2 (some .int) RX12 wsX12_byteAt D (tyA c9) G A := X
  refine v_eq (lv2 := [(0, .ref (ad 0)), (1, .int v1)]) rfl rfl rfl rfl ?_
  rw [f_X12_byteAt] at hf
  refine v_iload_n X dX12_byteAt_0 1 rfl rfl 1 rfl ?_
  refine v_aload_n X dX12_byteAt_1 0 rfl rfl 2 rfl ?_
  refine v_get X (C := RX12) (T := TX12) (N := 22) (ci := 11) (v := _) dX12_byteAt_2 k_X12_byteAt_w12 0 rfl rfl 11 (by decide) k_X12_byteAt_1 rfl rfl 5 rfl ?_
  refine v_icmp_ge X (tgt := 17) dX12_byteAt_5 rfl 8 rfl hf (fun hf => ?_) (fun hf => ?_)
  · refine v_iconst X dX12_byteAt_17 ic_m1 18 rfl ?_
    cases hf
    exact v_iret X (Nat.zero_le _) (Nat.zero_le _) dX12_byteAt_18
  · refine v_aload_n X dX12_byteAt_8 0 rfl rfl 9 rfl ?_
    refine v_get X (C := RX12) (T := TX12) (N := 22) (ci := 11) (v := _) dX12_byteAt_9 k_X12_byteAt_w12 0 rfl rfl 10 (by decide) k_X12_byteAt_2 rfl rfl 12 rfl ?_
    refine v_iload_n X dX12_byteAt_12 1 rfl rfl 13 rfl ?_
    obtain ⟨x1, hx1, hf⟩ := bnd hf
    refine v_iald X dX12_byteAt_13 8 0 rfl rfl hx1 14 rfl ?_
    refine v_goto X (tgt := 18) dX12_byteAt_14 rfl ?_
    cases hf
    exact v_iret X (Nat.zero_le _) (Nat.zero_le _) dX12_byteAt_18
theorem pd_X12_byteAt : yX12_byteAt.cls ≠ "java/lang/invoke/MethodHandle" ∧ yX12_byteAt.cls ≠ "java/lang/invoke/VarHandle" ∧ (parseMethodDescriptor yX12_byteAt.desc).map (fun d => d.parameters.length) = some 1 := by decide +kernel
def f_X12_isLetter (v0 : Int32) : Option (Int32) :=
  (f_X12_isBetween v0 97 122).bind fun o1 =>
  (zr o1).bind fun z2 => some (z2)
set_option maxRecDepth 100000 in
set_option maxHeartbeats 4000000 in
theorem c_X12_isLetter (l : Launch) {G : (Nat → Prop) → State → Heap → Prop} (hG : vG G) (D : va_G) (c9 : Nat → ClassId)   (v0 : Int32) {o : Int32} (hf : f_X12_isLetter v0 = some o) : mI l yX12_isLetter wsX12_isLetter { frames := 1, cells := 0, slots := 0, locals := 22 } G D (tyA c9) [.int v0] [] [] 0 0 o [] := by
  refine mI_of hG (cc := cX12_isLetter) (maxL := 1) (ty := .boolean) (by decide) rfl (Nat.le_of_ble_eq_true rfl) ?_
  intro p e s m args below meth c A X
  have X : vX p s m args meth c cX12_isLetter 1 (some .boolean) RX12 wsX12_isLetter D (tyA c9) G A := X
  refine v_eq (lv2 := [(0, .int v0)]) rfl rfl rfl rfl ?_
  rw [f_X12_isLetter] at hf
  refine v_iload_n X dX12_isLetter_0 0 rfl rfl 1 rfl ?_
  refine v_bipush X dX12_isLetter_1 bp_97 3 rfl ?_
  refine v_bipush X dX12_isLetter_3 bp_122 5 rfl ?_
  obtain ⟨o1, ho1, hf⟩ := bnd hf
  refine v_callSi X (As := [.int v0, .int 97, .int 122]) (rest := []) (ws' := []) (c_X12_isBetween l hG D c9 v0 97 122 ho1) 3 gX12_isLetter_X12_isBetween rfl rfl rfl pd_X12_isBetween ⟨Nat.le_of_ble_eq_true rfl, Nat.le_of_ble_eq_true rfl⟩ rfl rfl (Nat.le_of_ble_eq_true rfl) ⟨Nat.zero_le _, Nat.zero_le _⟩ [] [] [] rfl rfl rfl rfl dX12_isLetter_5 8 rfl ?_
  obtain ⟨z2, hz2, hf⟩ := bnd hf
  cases hf
  exact v_zretq hz2 X (Nat.zero_le _) (Nat.zero_le _) dX12_isLetter_8
theorem pd_X12_isLetter : yX12_isLetter.cls ≠ "java/lang/invoke/MethodHandle" ∧ yX12_isLetter.cls ≠ "java/lang/invoke/VarHandle" ∧ (parseMethodDescriptor yX12_isLetter.desc).map (fun d => d.parameters.length) = some 1 := by decide +kernel
theorem k_X12_advance_w12 : ∀ w ∈ u_ws RX12 TX12 22, w ∈ wsX12_advance := in_r _ [20, 21, 22, 23, 24, 25, 26, 27, 28, 29, 30, 31, 32, 33, 34, 35, 36, 37, 38, 39, 40, 41] rfl
theorem k_X12_advance_1 : Cond.fieldLink RX12 170 "TicketGateModel" "position" "I" ∈ wsX12_advance := List.mem_of_getElem? (i := 1) rfl
theorem k_X12_advance_2 : Cond.fieldLink RX12 176 "TicketGateModel" "start" "I" ∈ wsX12_advance := List.mem_of_getElem? (i := 2) rfl
theorem k_X12_advance_3 : Cond.fieldLink RX12 179 "TicketGateModel" "letters" "I" ∈ wsX12_advance := List.mem_of_getElem? (i := 3) rfl
theorem k_X12_advance_4 : Cond.fieldLink RX12 182 "TicketGateModel" "value" "I" ∈ wsX12_advance := List.mem_of_getElem? (i := 4) rfl
theorem k_X12_advance_5 : Cond.fieldLink RX12 185 "TicketGateModel" "token" "I" ∈ wsX12_advance := List.mem_of_getElem? (i := 5) rfl
theorem k_X12_advance_6 : Cond.constant RX12 192 (99999999) ∈ wsX12_advance := List.mem_of_getElem? (i := 6) rfl
def f_X12_advance_L0 (m_inputLength : Int32) (m_input : Nat → Int32) : Nat → Int32 → Option (Int32)
  | 0, _ => none
  | n + 1, m_position =>
    (f_X12_byteAt m_inputLength m_input m_position).bind fun o1 =>
    if o1 = 32 then (
      f_X12_advance_L0 m_inputLength m_input n (m_position + 1))
    else (
      (f_X12_byteAt m_inputLength m_input m_position).bind fun o2 =>
      if o2 = 10 then (
        f_X12_advance_L0 m_inputLength m_input n (m_position + 1))
      else (
        some (m_position)))
def f_X12_advance_L144 (m_inputLength : Int32) (m_input : Nat → Int32) : Nat → Int32 → Int32 → Option (Int32 × Int32)
  | 0, _, _ => none
  | n + 1, m_position, m_value =>
    (f_X12_byteAt m_inputLength m_input m_position).bind fun o7 =>
    (f_X12_isBetween o7 48 57).bind fun o8 =>
    if o8 = 0 then (
      some (m_position, m_value))
    else (
      Option.bind (if m_value ≤ 99999999 then (
        (f_X12_byteAt m_inputLength m_input m_position).bind fun o10 =>
        some ((((10 * m_value) + o10) - 48)))
      else (
        some (m_value)) : Option (Int32)) fun j9 =>
      f_X12_advance_L144 m_inputLength m_input n (m_position + 1) j9)
def f_X12_advance_L91 (m_inputLength : Int32) (m_input : Nat → Int32) : Nat → Int32 → Int32 → Option (Int32 × Int32)
  | 0, _, _ => none
  | n + 1, m_position, m_letters =>
    (f_X12_byteAt m_inputLength m_input m_position).bind fun o12 =>
    (f_X12_isLetter o12).bind fun o13 =>
    if o13 = 0 then (
      some (m_position, m_letters))
    else (
      f_X12_advance_L91 m_inputLength m_input n (m_position + 1) (m_letters + 1))
def f_X12_advance (m_inputLength : Int32) (m_position : Int32) (m_start : Int32) (m_token : Int32) (m_value : Int32) (m_letters : Int32) (m_input : Nat → Int32) : Option (Int32 × Int32 × Int32 × Int32 × Int32) :=
  (f_X12_advance_L0 m_inputLength m_input 5000 m_position).bind fun o3 =>
  (f_X12_byteAt m_inputLength m_input o3).bind fun o4 =>
  if o4 = (-1) then (
    some (o3, o3, 0, 0, 0))
  else (
    (f_X12_isLetter o4).bind fun o5 =>
    if o5 = 0 then (
      (f_X12_isBetween o4 48 57).bind fun o6 =>
      if o6 = 0 then (
        some ((o3 + 1), o3, 1, 0, 0))
      else (
        (f_X12_advance_L144 m_inputLength m_input 5000 o3 0).bind fun o11 =>
        some (o11.1, o3, 2, o11.2, 0)))
    else (
      (f_X12_advance_L91 m_inputLength m_input 5000 o3 0).bind fun o14 =>
      some (o14.1, o3, 3, 0, o14.2)))
set_option maxRecDepth 100000 in
set_option maxHeartbeats 4000000 in
theorem l_X12_advance_L0 (l : Launch) {G : (Nat → Prop) → State → Heap → Prop} (hG : vG G) (D : va_G) (c9 : Nat → ClassId) (ad : Nat → Nat) (m_undoable : Int32) (m_undoStart : Int32) (m_thrown : Int32) (m_inputLength : Int32) (m_start : Int32) (m_token : Int32) (m_value : Int32) (m_letters : Int32) (m_code : Int32) (m_place : Int32) (m_outputLength : Int32) (m_s : Nat → Int32) (m_parsed : Nat → Int32) (m_tried : Nat → Int32) (m_remembered : Nat → Int32) (m_slots : Nat → Int32) (m_kept : Nat → Int32) (m_away : Nat → Int32) (m_input : Nat → Int32) (m_halfway : Nat → Int32) (m_output : Nat → Int32) {p : Program} {e : Env} {s : State} {m : MethodId} {args : Array Value} {below : List Frame} {meth : Method} {c : Code} {A : Nat → Prop} {F : va_W} (X : vX p s m args meth c cX12_advance 2 none RX12 wsX12_advance D (tyA c9) G A) {Q : State → Prop} (o : Int32) (K : vW p l e { frames := 2, cells := 0, slots := 0, locals := 42 } s m args below meth c 2 D A F 0 0 Q (wX12 ad c9 m_undoable m_undoStart m_thrown m_inputLength o m_start m_token m_value m_letters m_code m_place m_outputLength m_s m_parsed m_tried m_remembered m_slots m_kept m_away m_input m_halfway m_output) 39 [(0, .ref (ad 0))] []) :
    ∀ (n : Nat) (m_position : Int32), f_X12_advance_L0 m_inputLength m_input n m_position = some o → vW p l e { frames := 2, cells := 0, slots := 0, locals := 42 } s m args below meth c 2 D A F 0 0 Q (wX12 ad c9 m_undoable m_undoStart m_thrown m_inputLength m_position m_start m_token m_value m_letters m_code m_place m_outputLength m_s m_parsed m_tried m_remembered m_slots m_kept m_away m_input m_halfway m_output) 0 [(0, .ref (ad 0))] [] := by
  intro n
  induction n with
  | zero =>
    intro m_position hf
    rw [f_X12_advance_L0] at hf
    cases hf
  | succ n ih =>
    intro m_position hf
    rw [f_X12_advance_L0] at hf
    refine v_aload_n X dX12_advance_0 0 rfl rfl 1 rfl ?_
    refine v_aload_n X dX12_advance_1 0 rfl rfl 2 rfl ?_
    refine v_get X (C := RX12) (T := TX12) (N := 22) (ci := 11) (v := _) dX12_advance_2 k_X12_advance_w12 0 rfl rfl 12 (by decide) k_X12_advance_1 rfl rfl 5 rfl ?_
    obtain ⟨o1, ho1, hf⟩ := bnd hf
    refine v_callVi X (ci := 11) (T := TX12) (C := RX12) (As := [.int m_position]) (rest := []) (ws' := (wX12 ad c9 m_undoable m_undoStart m_thrown m_inputLength m_position m_start m_token m_value m_letters m_code m_place m_outputLength m_s m_parsed m_tried m_remembered m_slots m_kept m_away m_input m_halfway m_output)) (c_X12_byteAt l hG D c9 ad m_undoable m_undoStart m_thrown m_inputLength m_position m_start m_token m_value m_letters m_code m_place m_outputLength m_s m_parsed m_tried m_remembered m_slots m_kept m_away m_input m_halfway m_output m_position ho1) 1 gX12_advance_X12_byteAt rfl rfl rfl ⟨rfl, pd_X12_byteAt⟩ ⟨Nat.le_of_ble_eq_true rfl, Nat.le_of_ble_eq_true rfl⟩ 0 rfl rfl rfl rfl (Nat.le_of_ble_eq_true rfl) ⟨Nat.zero_le _, Nat.zero_le _⟩ [0, 1, 2, 3, 4, 5, 6, 7, 8, 9, 10] [] [0, 1, 2, 3, 4, 5, 6, 7, 8, 9, 10] rfl rfl rfl rfl dX12_advance_5 8 rfl ?_
    refine v_bipush X dX12_advance_8 bp_32 10 rfl ?_
    refine v_icmp_eq X (tgt := 26) dX12_advance_10 rfl 13 rfl hf (fun hf => ?_) (fun hf => ?_)
    · refine v_aload_n X dX12_advance_26 0 rfl rfl 27 rfl ?_
      refine v_dup X dX12_advance_27 rfl 28 rfl ?_
      refine v_get X (C := RX12) (T := TX12) (N := 22) (ci := 11) (v := _) dX12_advance_28 k_X12_advance_w12 0 rfl rfl 12 (by decide) k_X12_advance_1 rfl rfl 31 rfl ?_
      refine v_iconst X dX12_advance_31 ic_1 32 rfl ?_
      refine v_iadd X dX12_advance_32 33 rfl ?_
      refine v_put X (C := RX12) (T := TX12) (N := 22) (ci := 11) (ty := tyX12 12) (ws' := (wX12 ad c9 m_undoable m_undoStart m_thrown m_inputLength (m_position + 1) m_start m_token m_value m_letters m_code m_place m_outputLength m_s m_parsed m_tried m_remembered m_slots m_kept m_away m_input m_halfway m_output)) dX12_advance_33 k_X12_advance_w12 0 rfl rfl 12 (by decide) tyX12 tyX12_ok nmX12 k_X12_advance_1 rfl rfl (tyX12_ok 12 (by decide)) rfl rfl (by decide) rfl 36 rfl ?_
      refine v_goto X (tgt := 0) dX12_advance_36 rfl ?_
      exact ih (m_position + 1) hf
    · refine v_aload_n X dX12_advance_13 0 rfl rfl 14 rfl ?_
      refine v_aload_n X dX12_advance_14 0 rfl rfl 15 rfl ?_
      refine v_get X (C := RX12) (T := TX12) (N := 22) (ci := 11) (v := _) dX12_advance_15 k_X12_advance_w12 0 rfl rfl 12 (by decide) k_X12_advance_1 rfl rfl 18 rfl ?_
      obtain ⟨o2, ho2, hf⟩ := bnd hf
      refine v_callVi X (ci := 11) (T := TX12) (C := RX12) (As := [.int m_position]) (rest := []) (ws' := (wX12 ad c9 m_undoable m_undoStart m_thrown m_inputLength m_position m_start m_token m_value m_letters m_code m_place m_outputLength m_s m_parsed m_tried m_remembered m_slots m_kept m_away m_input m_halfway m_output)) (c_X12_byteAt l hG D c9 ad m_undoable m_undoStart m_thrown m_inputLength m_position m_start m_token m_value m_letters m_code m_place m_outputLength m_s m_parsed m_tried m_remembered m_slots m_kept m_away m_input m_halfway m_output m_position ho2) 1 gX12_advance_X12_byteAt rfl rfl rfl ⟨rfl, pd_X12_byteAt⟩ ⟨Nat.le_of_ble_eq_true rfl, Nat.le_of_ble_eq_true rfl⟩ 0 rfl rfl rfl rfl (Nat.le_of_ble_eq_true rfl) ⟨Nat.zero_le _, Nat.zero_le _⟩ [0, 1, 2, 3, 4, 5, 6, 7, 8, 9, 10] [] [0, 1, 2, 3, 4, 5, 6, 7, 8, 9, 10] rfl rfl rfl rfl dX12_advance_18 21 rfl ?_
      refine v_bipush X dX12_advance_21 bp_10 23 rfl ?_
      refine v_icmp_ne X (tgt := 39) dX12_advance_23 rfl 26 rfl hf (fun hf => ?_) (fun hf => ?_)
      · cases hf
        exact K
      · refine v_aload_n X dX12_advance_26 0 rfl rfl 27 rfl ?_
        refine v_dup X dX12_advance_27 rfl 28 rfl ?_
        refine v_get X (C := RX12) (T := TX12) (N := 22) (ci := 11) (v := _) dX12_advance_28 k_X12_advance_w12 0 rfl rfl 12 (by decide) k_X12_advance_1 rfl rfl 31 rfl ?_
        refine v_iconst X dX12_advance_31 ic_1 32 rfl ?_
        refine v_iadd X dX12_advance_32 33 rfl ?_
        refine v_put X (C := RX12) (T := TX12) (N := 22) (ci := 11) (ty := tyX12 12) (ws' := (wX12 ad c9 m_undoable m_undoStart m_thrown m_inputLength (m_position + 1) m_start m_token m_value m_letters m_code m_place m_outputLength m_s m_parsed m_tried m_remembered m_slots m_kept m_away m_input m_halfway m_output)) dX12_advance_33 k_X12_advance_w12 0 rfl rfl 12 (by decide) tyX12 tyX12_ok nmX12 k_X12_advance_1 rfl rfl (tyX12_ok 12 (by decide)) rfl rfl (by decide) rfl 36 rfl ?_
        refine v_goto X (tgt := 0) dX12_advance_36 rfl ?_
        exact ih (m_position + 1) hf
set_option maxRecDepth 100000 in
set_option maxHeartbeats 4000000 in
theorem l_X12_advance_L144 (l : Launch) {G : (Nat → Prop) → State → Heap → Prop} (hG : vG G) (D : va_G) (c9 : Nat → ClassId) (ad : Nat → Nat) (m_undoable : Int32) (m_undoStart : Int32) (m_thrown : Int32) (m_inputLength : Int32) (m_start : Int32) (m_token : Int32) (m_letters : Int32) (m_code : Int32) (m_place : Int32) (m_outputLength : Int32) (m_s : Nat → Int32) (m_parsed : Nat → Int32) (m_tried : Nat → Int32) (m_remembered : Nat → Int32) (m_slots : Nat → Int32) (m_kept : Nat → Int32) (m_away : Nat → Int32) (m_input : Nat → Int32) (m_halfway : Nat → Int32) (m_output : Nat → Int32) {p : Program} {e : Env} {s : State} {m : MethodId} {args : Array Value} {below : List Frame} {meth : Method} {c : Code} {A : Nat → Prop} {F : va_W} (X : vX p s m args meth c cX12_advance 2 none RX12 wsX12_advance D (tyA c9) G A) {Q : State → Prop} (o : Int32 × Int32) (K : vW p l e { frames := 2, cells := 0, slots := 0, locals := 42 } s m args below meth c 2 D A F 0 0 Q (wX12 ad c9 m_undoable m_undoStart m_thrown m_inputLength o.1 m_start m_token o.2 m_letters m_code m_place m_outputLength m_s m_parsed m_tried m_remembered m_slots m_kept m_away m_input m_halfway m_output) 229 [] []) :
    ∀ (n : Nat) (m_position : Int32) (m_value : Int32), f_X12_advance_L144 m_inputLength m_input n m_position m_value = some o → vW p l e { frames := 2, cells := 0, slots := 0, locals := 42 } s m args below meth c 2 D A F 0 0 Q (wX12 ad c9 m_undoable m_undoStart m_thrown m_inputLength m_position m_start m_token m_value m_letters m_code m_place m_outputLength m_s m_parsed m_tried m_remembered m_slots m_kept m_away m_input m_halfway m_output) 144 [(0, .ref (ad 0))] [] := by
  intro n
  induction n with
  | zero =>
    intro m_position m_value hf
    rw [f_X12_advance_L144] at hf
    cases hf
  | succ n ih =>
    intro m_position m_value hf
    rw [f_X12_advance_L144] at hf
    refine v_aload_n X dX12_advance_144 0 rfl rfl 145 rfl ?_
    refine v_aload_n X dX12_advance_145 0 rfl rfl 146 rfl ?_
    refine v_get X (C := RX12) (T := TX12) (N := 22) (ci := 11) (v := _) dX12_advance_146 k_X12_advance_w12 0 rfl rfl 12 (by decide) k_X12_advance_1 rfl rfl 149 rfl ?_
    obtain ⟨o7, ho7, hf⟩ := bnd hf
    refine v_callVi X (ci := 11) (T := TX12) (C := RX12) (As := [.int m_position]) (rest := []) (ws' := (wX12 ad c9 m_undoable m_undoStart m_thrown m_inputLength m_position m_start m_token m_value m_letters m_code m_place m_outputLength m_s m_parsed m_tried m_remembered m_slots m_kept m_away m_input m_halfway m_output)) (c_X12_byteAt l hG D c9 ad m_undoable m_undoStart m_thrown m_inputLength m_position m_start m_token m_value m_letters m_code m_place m_outputLength m_s m_parsed m_tried m_remembered m_slots m_kept m_away m_input m_halfway m_output m_position ho7) 1 gX12_advance_X12_byteAt rfl rfl rfl ⟨rfl, pd_X12_byteAt⟩ ⟨Nat.le_of_ble_eq_true rfl, Nat.le_of_ble_eq_true rfl⟩ 0 rfl rfl rfl rfl (Nat.le_of_ble_eq_true rfl) ⟨Nat.zero_le _, Nat.zero_le _⟩ [0, 1, 2, 3, 4, 5, 6, 7, 8, 9, 10] [] [0, 1, 2, 3, 4, 5, 6, 7, 8, 9, 10] rfl rfl rfl rfl dX12_advance_149 152 rfl ?_
    refine v_bipush X dX12_advance_152 bp_48 154 rfl ?_
    refine v_bipush X dX12_advance_154 bp_57 156 rfl ?_
    obtain ⟨o8, ho8, hf⟩ := bnd hf
    refine v_callSi X (As := [.int o7, .int 48, .int 57]) (rest := []) (ws' := (wX12 ad c9 m_undoable m_undoStart m_thrown m_inputLength m_position m_start m_token m_value m_letters m_code m_place m_outputLength m_s m_parsed m_tried m_remembered m_slots m_kept m_away m_input m_halfway m_output)) (c_X12_isBetween l hG D c9 o7 48 57 ho8) 3 gX12_advance_X12_isBetween rfl rfl rfl pd_X12_isBetween ⟨Nat.le_of_ble_eq_true rfl, Nat.le_of_ble_eq_true rfl⟩ rfl rfl (Nat.le_of_ble_eq_true rfl) ⟨Nat.zero_le _, Nat.zero_le _⟩ [] [0, 1, 2, 3, 4, 5, 6, 7, 8, 9, 10] [0, 1, 2, 3, 4, 5, 6, 7, 8, 9, 10] rfl rfl rfl rfl dX12_advance_156 159 rfl ?_
    refine v_if_eq X (tgt := 229) dX12_advance_159 rfl 162 rfl hf (fun hf => ?_) (fun hf => ?_)
    · cases hf
      refine v_sub (lv' := []) [] rfl ?_
      exact K
    · refine v_aload_n X dX12_advance_162 0 rfl rfl 163 rfl ?_
      refine v_aload_n X dX12_advance_163 0 rfl rfl 164 rfl ?_
      refine v_get X (C := RX12) (T := TX12) (N := 22) (ci := 11) (v := _) dX12_advance_164 k_X12_advance_w12 0 rfl rfl 15 (by decide) k_X12_advance_4 rfl rfl 167 rfl ?_
      refine v_ldc X dX12_advance_167 (X.2.2.2.2.2.1 _ k_X12_advance_6) 169 rfl ?_
      obtain ⟨j9, hj9, hf⟩ := bnd hf
      have Jj9 : vW p l e { frames := 2, cells := 0, slots := 0, locals := 42 } s m args below meth c 2 D A F 0 0 Q (wX12 ad c9 m_undoable m_undoStart m_thrown m_inputLength m_position m_start m_token m_value m_letters m_code m_place m_outputLength m_s m_parsed m_tried m_remembered m_slots m_kept m_away m_input m_halfway m_output) 198 [(0, .ref (ad 0))] [.int j9, .ref (ad 0)] := by
        refine v_put X (C := RX12) (T := TX12) (N := 22) (ci := 11) (ty := tyX12 15) (ws' := (wX12 ad c9 m_undoable m_undoStart m_thrown m_inputLength m_position m_start m_token j9 m_letters m_code m_place m_outputLength m_s m_parsed m_tried m_remembered m_slots m_kept m_away m_input m_halfway m_output)) dX12_advance_198 k_X12_advance_w12 0 rfl rfl 15 (by decide) tyX12 tyX12_ok nmX12 k_X12_advance_4 rfl rfl (tyX12_ok 15 (by decide)) rfl rfl (by decide) rfl 201 rfl ?_
        refine v_aload_n X dX12_advance_201 0 rfl rfl 202 rfl ?_
        refine v_dup X dX12_advance_202 rfl 203 rfl ?_
        refine v_get X (C := RX12) (T := TX12) (N := 22) (ci := 11) (v := _) dX12_advance_203 k_X12_advance_w12 0 rfl rfl 12 (by decide) k_X12_advance_1 rfl rfl 206 rfl ?_
        refine v_iconst X dX12_advance_206 ic_1 207 rfl ?_
        refine v_iadd X dX12_advance_207 208 rfl ?_
        refine v_put X (C := RX12) (T := TX12) (N := 22) (ci := 11) (ty := tyX12 12) (ws' := (wX12 ad c9 m_undoable m_undoStart m_thrown m_inputLength (m_position + 1) m_start m_token j9 m_letters m_code m_place m_outputLength m_s m_parsed m_tried m_remembered m_slots m_kept m_away m_input m_halfway m_output)) dX12_advance_208 k_X12_advance_w12 0 rfl rfl 12 (by decide) tyX12 tyX12_ok nmX12 k_X12_advance_1 rfl rfl (tyX12_ok 12 (by decide)) rfl rfl (by decide) rfl 211 rfl ?_
        refine v_goto X (tgt := 144) dX12_advance_211 rfl ?_
        exact ih (m_position + 1) j9 hf
      clear hf
      refine v_icmp_le X (tgt := 179) dX12_advance_169 rfl 172 rfl hj9 (fun hf => ?_) (fun hf => ?_)
      · refine v_bipush X dX12_advance_179 bp_10 181 rfl ?_
        refine v_aload_n X dX12_advance_181 0 rfl rfl 182 rfl ?_
        refine v_get X (C := RX12) (T := TX12) (N := 22) (ci := 11) (v := _) dX12_advance_182 k_X12_advance_w12 0 rfl rfl 15 (by decide) k_X12_advance_4 rfl rfl 185 rfl ?_
        refine v_imul X dX12_advance_185 186 rfl ?_
        refine v_aload_n X dX12_advance_186 0 rfl rfl 187 rfl ?_
        refine v_aload_n X dX12_advance_187 0 rfl rfl 188 rfl ?_
        refine v_get X (C := RX12) (T := TX12) (N := 22) (ci := 11) (v := _) dX12_advance_188 k_X12_advance_w12 0 rfl rfl 12 (by decide) k_X12_advance_1 rfl rfl 191 rfl ?_
        obtain ⟨o10, ho10, hf⟩ := bnd hf
        refine v_callVi X (ci := 11) (T := TX12) (C := RX12) (As := [.int m_position]) (rest := [.int (10 * m_value), .ref (ad 0)]) (ws' := (wX12 ad c9 m_undoable m_undoStart m_thrown m_inputLength m_position m_start m_token m_value m_letters m_code m_place m_outputLength m_s m_parsed m_tried m_remembered m_slots m_kept m_away m_input m_halfway m_output)) (c_X12_byteAt l hG D c9 ad m_undoable m_undoStart m_thrown m_inputLength m_position m_start m_token m_value m_letters m_code m_place m_outputLength m_s m_parsed m_tried m_remembered m_slots m_kept m_away m_input m_halfway m_output m_position ho10) 1 gX12_advance_X12_byteAt rfl rfl rfl ⟨rfl, pd_X12_byteAt⟩ ⟨Nat.le_of_ble_eq_true rfl, Nat.le_of_ble_eq_true rfl⟩ 0 rfl rfl rfl rfl (Nat.le_of_ble_eq_true rfl) ⟨Nat.zero_le _, Nat.zero_le _⟩ [0, 1, 2, 3, 4, 5, 6, 7, 8, 9, 10] [] [0, 1, 2, 3, 4, 5, 6, 7, 8, 9, 10] rfl rfl rfl rfl dX12_advance_191 194 rfl ?_
        refine v_iadd X dX12_advance_194 195 rfl ?_
        refine v_bipush X dX12_advance_195 bp_48 197 rfl ?_
        refine v_isub X dX12_advance_197 198 rfl ?_
        cases hf
        exact Jj9
      · refine v_aload_n X dX12_advance_172 0 rfl rfl 173 rfl ?_
        refine v_get X (C := RX12) (T := TX12) (N := 22) (ci := 11) (v := _) dX12_advance_173 k_X12_advance_w12 0 rfl rfl 15 (by decide) k_X12_advance_4 rfl rfl 176 rfl ?_
        refine v_goto X (tgt := 198) dX12_advance_176 rfl ?_
        cases hf
        exact Jj9
set_option maxRecDepth 100000 in
set_option maxHeartbeats 4000000 in
theorem l_X12_advance_L91 (l : Launch) {G : (Nat → Prop) → State → Heap → Prop} (hG : vG G) (D : va_G) (c9 : Nat → ClassId) (ad : Nat → Nat) (m_undoable : Int32) (m_undoStart : Int32) (m_thrown : Int32) (m_inputLength : Int32) (m_start : Int32) (m_token : Int32) (m_value : Int32) (m_code : Int32) (m_place : Int32) (m_outputLength : Int32) (m_s : Nat → Int32) (m_parsed : Nat → Int32) (m_tried : Nat → Int32) (m_remembered : Nat → Int32) (m_slots : Nat → Int32) (m_kept : Nat → Int32) (m_away : Nat → Int32) (m_input : Nat → Int32) (m_halfway : Nat → Int32) (m_output : Nat → Int32) {p : Program} {e : Env} {s : State} {m : MethodId} {args : Array Value} {below : List Frame} {meth : Method} {c : Code} {A : Nat → Prop} {F : va_W} (X : vX p s m args meth c cX12_advance 2 none RX12 wsX12_advance D (tyA c9) G A) {Q : State → Prop} (o : Int32 × Int32) (K : vW p l e { frames := 2, cells := 0, slots := 0, locals := 42 } s m args below meth c 2 D A F 0 0 Q (wX12 ad c9 m_undoable m_undoStart m_thrown m_inputLength o.1 m_start m_token m_value o.2 m_code m_place m_outputLength m_s m_parsed m_tried m_remembered m_slots m_kept m_away m_input m_halfway m_output) 229 [] []) :
    ∀ (n : Nat) (m_position : Int32) (m_letters : Int32), f_X12_advance_L91 m_inputLength m_input n m_position m_letters = some o → vW p l e { frames := 2, cells := 0, slots := 0, locals := 42 } s m args below meth c 2 D A F 0 0 Q (wX12 ad c9 m_undoable m_undoStart m_thrown m_inputLength m_position m_start m_token m_value m_letters m_code m_place m_outputLength m_s m_parsed m_tried m_remembered m_slots m_kept m_away m_input m_halfway m_output) 91 [(0, .ref (ad 0))] [] := by
  intro n
  induction n with
  | zero =>
    intro m_position m_letters hf
    rw [f_X12_advance_L91] at hf
    cases hf
  | succ n ih =>
    intro m_position m_letters hf
    rw [f_X12_advance_L91] at hf
    refine v_aload_n X dX12_advance_91 0 rfl rfl 92 rfl ?_
    refine v_aload_n X dX12_advance_92 0 rfl rfl 93 rfl ?_
    refine v_get X (C := RX12) (T := TX12) (N := 22) (ci := 11) (v := _) dX12_advance_93 k_X12_advance_w12 0 rfl rfl 12 (by decide) k_X12_advance_1 rfl rfl 96 rfl ?_
    obtain ⟨o12, ho12, hf⟩ := bnd hf
    refine v_callVi X (ci := 11) (T := TX12) (C := RX12) (As := [.int m_position]) (rest := []) (ws' := (wX12 ad c9 m_undoable m_undoStart m_thrown m_inputLength m_position m_start m_token m_value m_letters m_code m_place m_outputLength m_s m_parsed m_tried m_remembered m_slots m_kept m_away m_input m_halfway m_output)) (c_X12_byteAt l hG D c9 ad m_undoable m_undoStart m_thrown m_inputLength m_position m_start m_token m_value m_letters m_code m_place m_outputLength m_s m_parsed m_tried m_remembered m_slots m_kept m_away m_input m_halfway m_output m_position ho12) 1 gX12_advance_X12_byteAt rfl rfl rfl ⟨rfl, pd_X12_byteAt⟩ ⟨Nat.le_of_ble_eq_true rfl, Nat.le_of_ble_eq_true rfl⟩ 0 rfl rfl rfl rfl (Nat.le_of_ble_eq_true rfl) ⟨Nat.zero_le _, Nat.zero_le _⟩ [0, 1, 2, 3, 4, 5, 6, 7, 8, 9, 10] [] [0, 1, 2, 3, 4, 5, 6, 7, 8, 9, 10] rfl rfl rfl rfl dX12_advance_96 99 rfl ?_
    obtain ⟨o13, ho13, hf⟩ := bnd hf
    refine v_callSi X (As := [.int o12]) (rest := []) (ws' := (wX12 ad c9 m_undoable m_undoStart m_thrown m_inputLength m_position m_start m_token m_value m_letters m_code m_place m_outputLength m_s m_parsed m_tried m_remembered m_slots m_kept m_away m_input m_halfway m_output)) (c_X12_isLetter l hG D c9 o12 ho13) 1 gX12_advance_X12_isLetter rfl rfl rfl pd_X12_isLetter ⟨Nat.le_of_ble_eq_true rfl, Nat.le_of_ble_eq_true rfl⟩ rfl rfl (Nat.le_of_ble_eq_true rfl) ⟨Nat.zero_le _, Nat.zero_le _⟩ [] [0, 1, 2, 3, 4, 5, 6, 7, 8, 9, 10] [0, 1, 2, 3, 4, 5, 6, 7, 8, 9, 10] rfl rfl rfl rfl dX12_advance_99 102 rfl ?_
    refine v_if_eq X (tgt := 229) dX12_advance_102 rfl 105 rfl hf (fun hf => ?_) (fun hf => ?_)
    · cases hf
      refine v_sub (lv' := []) [] rfl ?_
      exact K
    · refine v_aload_n X dX12_advance_105 0 rfl rfl 106 rfl ?_
      refine v_dup X dX12_advance_106 rfl 107 rfl ?_
      refine v_get X (C := RX12) (T := TX12) (N := 22) (ci := 11) (v := _) dX12_advance_107 k_X12_advance_w12 0 rfl rfl 16 (by decide) k_X12_advance_3 rfl rfl 110 rfl ?_
      refine v_iconst X dX12_advance_110 ic_1 111 rfl ?_
      refine v_iadd X dX12_advance_111 112 rfl ?_
      refine v_put X (C := RX12) (T := TX12) (N := 22) (ci := 11) (ty := tyX12 16) (ws' := (wX12 ad c9 m_undoable m_undoStart m_thrown m_inputLength m_position m_start m_token m_value (m_letters + 1) m_code m_place m_outputLength m_s m_parsed m_tried m_remembered m_slots m_kept m_away m_input m_halfway m_output)) dX12_advance_112 k_X12_advance_w12 0 rfl rfl 16 (by decide) tyX12 tyX12_ok nmX12 k_X12_advance_3 rfl rfl (tyX12_ok 16 (by decide)) rfl rfl (by decide) rfl 115 rfl ?_
      refine v_aload_n X dX12_advance_115 0 rfl rfl 116 rfl ?_
      refine v_dup X dX12_advance_116 rfl 117 rfl ?_
      refine v_get X (C := RX12) (T := TX12) (N := 22) (ci := 11) (v := _) dX12_advance_117 k_X12_advance_w12 0 rfl rfl 12 (by decide) k_X12_advance_1 rfl rfl 120 rfl ?_
      refine v_iconst X dX12_advance_120 ic_1 121 rfl ?_
      refine v_iadd X dX12_advance_121 122 rfl ?_
      refine v_put X (C := RX12) (T := TX12) (N := 22) (ci := 11) (ty := tyX12 12) (ws' := (wX12 ad c9 m_undoable m_undoStart m_thrown m_inputLength (m_position + 1) m_start m_token m_value (m_letters + 1) m_code m_place m_outputLength m_s m_parsed m_tried m_remembered m_slots m_kept m_away m_input m_halfway m_output)) dX12_advance_122 k_X12_advance_w12 0 rfl rfl 12 (by decide) tyX12 tyX12_ok nmX12 k_X12_advance_1 rfl rfl (tyX12_ok 12 (by decide)) rfl rfl (by decide) rfl 125 rfl ?_
      refine v_goto X (tgt := 91) dX12_advance_125 rfl ?_
      exact ih (m_position + 1) (m_letters + 1) hf
set_option maxRecDepth 100000 in
set_option maxHeartbeats 4000000 in
theorem c_X12_advance (l : Launch) {G : (Nat → Prop) → State → Heap → Prop} (hG : vG G) (D : va_G) (c9 : Nat → ClassId) (ad : Nat → Nat) (m_undoable : Int32) (m_undoStart : Int32) (m_thrown : Int32) (m_inputLength : Int32) (m_position : Int32) (m_start : Int32) (m_token : Int32) (m_value : Int32) (m_letters : Int32) (m_code : Int32) (m_place : Int32) (m_outputLength : Int32) (m_s : Nat → Int32) (m_parsed : Nat → Int32) (m_tried : Nat → Int32) (m_remembered : Nat → Int32) (m_slots : Nat → Int32) (m_kept : Nat → Int32) (m_away : Nat → Int32) (m_input : Nat → Int32) (m_halfway : Nat → Int32) (m_output : Nat → Int32)  {o : Int32 × Int32 × Int32 × Int32 × Int32} (hf : f_X12_advance m_inputLength m_position m_start m_token m_value m_letters m_input = some o) : mV l yX12_advance wsX12_advance { frames := 2, cells := 0, slots := 0, locals := 42 } G D (tyA c9) [.ref (ad 0)] (wX12 ad c9 m_undoable m_undoStart m_thrown m_inputLength m_position m_start m_token m_value m_letters m_code m_place m_outputLength m_s m_parsed m_tried m_remembered m_slots m_kept m_away m_input m_halfway m_output) [] 0 0 (wX12 ad c9 m_undoable m_undoStart m_thrown m_inputLength o.1 o.2.1 o.2.2.1 o.2.2.2.1 o.2.2.2.2 m_code m_place m_outputLength m_s m_parsed m_tried m_remembered m_slots m_kept m_away m_input m_halfway m_output) := by
  refine mV_of hG (cc := cX12_advance) (maxL := 2) (by decide) rfl (Nat.le_of_ble_eq_true rfl) ?_
  intro p e s m args below meth c A hnm X
  have X : vX p s m args meth c cX12_advance 2 none RX12 wsX12_advance D (tyA c9) G A := X
  refine v_eq (lv2 := [(0, .ref (ad 0))]) rfl rfl rfl rfl ?_
  rw [f_X12_advance] at hf
  obtain ⟨o3, ho3, hf⟩ := bnd hf
  refine l_X12_advance_L0 l hG D c9 ad m_undoable m_undoStart m_thrown m_inputLength m_start m_token m_value m_letters m_code m_place m_outputLength m_s m_parsed m_tried m_remembered m_slots m_kept m_away m_input m_halfway m_output X o3 ?_ 5000 m_position ho3
  refine v_aload_n X dX12_advance_39 0 rfl rfl 40 rfl ?_
  refine v_aload_n X dX12_advance_40 0 rfl rfl 41 rfl ?_
  refine v_get X (C := RX12) (T := TX12) (N := 22) (ci := 11) (v := _) dX12_advance_41 k_X12_advance_w12 0 rfl rfl 12 (by decide) k_X12_advance_1 rfl rfl 44 rfl ?_
  refine v_put X (C := RX12) (T := TX12) (N := 22) (ci := 11) (ty := tyX12 13) (ws' := (wX12 ad c9 m_undoable m_undoStart m_thrown m_inputLength o3 o3 m_token m_value m_letters m_code m_place m_outputLength m_s m_parsed m_tried m_remembered m_slots m_kept m_away m_input m_halfway m_output)) dX12_advance_44 k_X12_advance_w12 0 rfl rfl 13 (by decide) tyX12 tyX12_ok nmX12 k_X12_advance_2 rfl rfl (tyX12_ok 13 (by decide)) rfl rfl (by decide) rfl 47 rfl ?_
  refine v_aload_n X dX12_advance_47 0 rfl rfl 48 rfl ?_
  refine v_iconst X dX12_advance_48 ic_0 49 rfl ?_
  refine v_put X (C := RX12) (T := TX12) (N := 22) (ci := 11) (ty := tyX12 16) (ws' := (wX12 ad c9 m_undoable m_undoStart m_thrown m_inputLength o3 o3 m_token m_value 0 m_code m_place m_outputLength m_s m_parsed m_tried m_remembered m_slots m_kept m_away m_input m_halfway m_output)) dX12_advance_49 k_X12_advance_w12 0 rfl rfl 16 (by decide) tyX12 tyX12_ok nmX12 k_X12_advance_3 rfl rfl (tyX12_ok 16 (by decide)) rfl rfl (by decide) rfl 52 rfl ?_
  refine v_aload_n X dX12_advance_52 0 rfl rfl 53 rfl ?_
  refine v_iconst X dX12_advance_53 ic_0 54 rfl ?_
  refine v_put X (C := RX12) (T := TX12) (N := 22) (ci := 11) (ty := tyX12 15) (ws' := (wX12 ad c9 m_undoable m_undoStart m_thrown m_inputLength o3 o3 m_token 0 0 m_code m_place m_outputLength m_s m_parsed m_tried m_remembered m_slots m_kept m_away m_input m_halfway m_output)) dX12_advance_54 k_X12_advance_w12 0 rfl rfl 15 (by decide) tyX12 tyX12_ok nmX12 k_X12_advance_4 rfl rfl (tyX12_ok 15 (by decide)) rfl rfl (by decide) rfl 57 rfl ?_
  refine v_aload_n X dX12_advance_57 0 rfl rfl 58 rfl ?_
  refine v_aload_n X dX12_advance_58 0 rfl rfl 59 rfl ?_
  refine v_get X (C := RX12) (T := TX12) (N := 22) (ci := 11) (v := _) dX12_advance_59 k_X12_advance_w12 0 rfl rfl 12 (by decide) k_X12_advance_1 rfl rfl 62 rfl ?_
  obtain ⟨o4, ho4, hf⟩ := bnd hf
  refine v_callVi X (ci := 11) (T := TX12) (C := RX12) (As := [.int o3]) (rest := []) (ws' := (wX12 ad c9 m_undoable m_undoStart m_thrown m_inputLength o3 o3 m_token 0 0 m_code m_place m_outputLength m_s m_parsed m_tried m_remembered m_slots m_kept m_away m_input m_halfway m_output)) (c_X12_byteAt l hG D c9 ad m_undoable m_undoStart m_thrown m_inputLength o3 o3 m_token 0 0 m_code m_place m_outputLength m_s m_parsed m_tried m_remembered m_slots m_kept m_away m_input m_halfway m_output o3 ho4) 1 gX12_advance_X12_byteAt rfl rfl rfl ⟨rfl, pd_X12_byteAt⟩ ⟨Nat.le_of_ble_eq_true rfl, Nat.le_of_ble_eq_true rfl⟩ 0 rfl rfl rfl rfl (Nat.le_of_ble_eq_true rfl) ⟨Nat.zero_le _, Nat.zero_le _⟩ [0, 1, 2, 3, 4, 5, 6, 7, 8, 9, 10] [] [0, 1, 2, 3, 4, 5, 6, 7, 8, 9, 10] rfl rfl rfl rfl dX12_advance_62 65 rfl ?_
  refine v_istore_n X (lv' := [(1, .int o4), (0, .ref (ad 0))]) dX12_advance_65 rfl (by decide) rfl 66 rfl ?_
  refine v_iload_n X dX12_advance_66 0 rfl rfl 67 rfl ?_
  refine v_iconst X dX12_advance_67 ic_m1 68 rfl ?_
  refine v_icmp_ne X (tgt := 79) dX12_advance_68 rfl 71 rfl hf (fun hf => ?_) (fun hf => ?_)
  · refine v_iload_n X dX12_advance_79 0 rfl rfl 80 rfl ?_
    obtain ⟨o5, ho5, hf⟩ := bnd hf
    refine v_callSi X (As := [.int o4]) (rest := []) (ws' := (wX12 ad c9 m_undoable m_undoStart m_thrown m_inputLength o3 o3 m_token 0 0 m_code m_place m_outputLength m_s m_parsed m_tried m_remembered m_slots m_kept m_away m_input m_halfway m_output)) (c_X12_isLetter l hG D c9 o4 ho5) 1 gX12_advance_X12_isLetter rfl rfl rfl pd_X12_isLetter ⟨Nat.le_of_ble_eq_true rfl, Nat.le_of_ble_eq_true rfl⟩ rfl rfl (Nat.le_of_ble_eq_true rfl) ⟨Nat.zero_le _, Nat.zero_le _⟩ [] [0, 1, 2, 3, 4, 5, 6, 7, 8, 9, 10] [0, 1, 2, 3, 4, 5, 6, 7, 8, 9, 10] rfl rfl rfl rfl dX12_advance_80 83 rfl ?_
    refine v_if_eq X (tgt := 128) dX12_advance_83 rfl 86 rfl hf (fun hf => ?_) (fun hf => ?_)
    · refine v_iload_n X dX12_advance_128 0 rfl rfl 129 rfl ?_
      refine v_bipush X dX12_advance_129 bp_48 131 rfl ?_
      refine v_bipush X dX12_advance_131 bp_57 133 rfl ?_
      obtain ⟨o6, ho6, hf⟩ := bnd hf
      refine v_callSi X (As := [.int o4, .int 48, .int 57]) (rest := []) (ws' := (wX12 ad c9 m_undoable m_undoStart m_thrown m_inputLength o3 o3 m_token 0 0 m_code m_place m_outputLength m_s m_parsed m_tried m_remembered m_slots m_kept m_away m_input m_halfway m_output)) (c_X12_isBetween l hG D c9 o4 48 57 ho6) 3 gX12_advance_X12_isBetween rfl rfl rfl pd_X12_isBetween ⟨Nat.le_of_ble_eq_true rfl, Nat.le_of_ble_eq_true rfl⟩ rfl rfl (Nat.le_of_ble_eq_true rfl) ⟨Nat.zero_le _, Nat.zero_le _⟩ [] [0, 1, 2, 3, 4, 5, 6, 7, 8, 9, 10] [0, 1, 2, 3, 4, 5, 6, 7, 8, 9, 10] rfl rfl rfl rfl dX12_advance_133 136 rfl ?_
      refine v_if_eq X (tgt := 214) dX12_advance_136 rfl 139 rfl hf (fun hf => ?_) (fun hf => ?_)
      · refine v_aload_n X dX12_advance_214 1 rfl rfl 215 rfl ?_
        refine v_iconst X dX12_advance_215 ic_1 216 rfl ?_
        refine v_put X (C := RX12) (T := TX12) (N := 22) (ci := 11) (ty := tyX12 14) (ws' := (wX12 ad c9 m_undoable m_undoStart m_thrown m_inputLength o3 o3 1 0 0 m_code m_place m_outputLength m_s m_parsed m_tried m_remembered m_slots m_kept m_away m_input m_halfway m_output)) dX12_advance_216 k_X12_advance_w12 0 rfl rfl 14 (by decide) tyX12 tyX12_ok nmX12 k_X12_advance_5 rfl rfl (tyX12_ok 14 (by decide)) rfl rfl (by decide) rfl 219 rfl ?_
        refine v_aload_n X dX12_advance_219 1 rfl rfl 220 rfl ?_
        refine v_dup X dX12_advance_220 rfl 221 rfl ?_
        refine v_get X (C := RX12) (T := TX12) (N := 22) (ci := 11) (v := _) dX12_advance_221 k_X12_advance_w12 0 rfl rfl 12 (by decide) k_X12_advance_1 rfl rfl 224 rfl ?_
        refine v_iconst X dX12_advance_224 ic_1 225 rfl ?_
        refine v_iadd X dX12_advance_225 226 rfl ?_
        refine v_put X (C := RX12) (T := TX12) (N := 22) (ci := 11) (ty := tyX12 12) (ws' := (wX12 ad c9 m_undoable m_undoStart m_thrown m_inputLength (o3 + 1) o3 1 0 0 m_code m_place m_outputLength m_s m_parsed m_tried m_remembered m_slots m_kept m_away m_input m_halfway m_output)) dX12_advance_226 k_X12_advance_w12 0 rfl rfl 12 (by decide) tyX12 tyX12_ok nmX12 k_X12_advance_1 rfl rfl (tyX12_ok 12 (by decide)) rfl rfl (by decide) rfl 229 rfl ?_
        cases hf
        exact v_vret X (Nat.zero_le _) (Nat.zero_le _) dX12_advance_229
      · refine v_aload_n X dX12_advance_139 1 rfl rfl 140 rfl ?_
        refine v_iconst X dX12_advance_140 ic_2 141 rfl ?_
        refine v_put X (C := RX12) (T := TX12) (N := 22) (ci := 11) (ty := tyX12 14) (ws' := (wX12 ad c9 m_undoable m_undoStart m_thrown m_inputLength o3 o3 2 0 0 m_code m_place m_outputLength m_s m_parsed m_tried m_remembered m_slots m_kept m_away m_input m_halfway m_output)) dX12_advance_141 k_X12_advance_w12 0 rfl rfl 14 (by decide) tyX12 tyX12_ok nmX12 k_X12_advance_5 rfl rfl (tyX12_ok 14 (by decide)) rfl rfl (by decide) rfl 144 rfl ?_
        obtain ⟨o11, ho11, hf⟩ := bnd hf
        refine v_sub (lv' := [(0, .ref (ad 0))]) [1] rfl ?_
        refine l_X12_advance_L144 l hG D c9 ad m_undoable m_undoStart m_thrown m_inputLength o3 2 0 m_code m_place m_outputLength m_s m_parsed m_tried m_remembered m_slots m_kept m_away m_input m_halfway m_output X o11 ?_ 5000 o3 0 ho11
        cases hf
        exact v_vret X (Nat.zero_le _) (Nat.zero_le _) dX12_advance_229
    · refine v_aload_n X dX12_advance_86 1 rfl rfl 87 rfl ?_
      refine v_iconst X dX12_advance_87 ic_3 88 rfl ?_
      refine v_put X (C := RX12) (T := TX12) (N := 22) (ci := 11) (ty := tyX12 14) (ws' := (wX12 ad c9 m_undoable m_undoStart m_thrown m_inputLength o3 o3 3 0 0 m_code m_place m_outputLength m_s m_parsed m_tried m_remembered m_slots m_kept m_away m_input m_halfway m_output)) dX12_advance_88 k_X12_advance_w12 0 rfl rfl 14 (by decide) tyX12 tyX12_ok nmX12 k_X12_advance_5 rfl rfl (tyX12_ok 14 (by decide)) rfl rfl (by decide) rfl 91 rfl ?_
      obtain ⟨o14, ho14, hf⟩ := bnd hf
      refine v_sub (lv' := [(0, .ref (ad 0))]) [1] rfl ?_
      refine l_X12_advance_L91 l hG D c9 ad m_undoable m_undoStart m_thrown m_inputLength o3 3 0 m_code m_place m_outputLength m_s m_parsed m_tried m_remembered m_slots m_kept m_away m_input m_halfway m_output X o14 ?_ 5000 o3 0 ho14
      cases hf
      exact v_vret X (Nat.zero_le _) (Nat.zero_le _) dX12_advance_229
  · refine v_aload_n X dX12_advance_71 1 rfl rfl 72 rfl ?_
    refine v_iconst X dX12_advance_72 ic_0 73 rfl ?_
    refine v_put X (C := RX12) (T := TX12) (N := 22) (ci := 11) (ty := tyX12 14) (ws' := (wX12 ad c9 m_undoable m_undoStart m_thrown m_inputLength o3 o3 0 0 0 m_code m_place m_outputLength m_s m_parsed m_tried m_remembered m_slots m_kept m_away m_input m_halfway m_output)) dX12_advance_73 k_X12_advance_w12 0 rfl rfl 14 (by decide) tyX12 tyX12_ok nmX12 k_X12_advance_5 rfl rfl (tyX12_ok 14 (by decide)) rfl rfl (by decide) rfl 76 rfl ?_
    refine v_goto X (tgt := 229) dX12_advance_76 rfl ?_
    cases hf
    exact v_vret X (Nat.zero_le _) (Nat.zero_le _) dX12_advance_229
theorem pd_X12_advance : yX12_advance.cls ≠ "java/lang/invoke/MethodHandle" ∧ yX12_advance.cls ≠ "java/lang/invoke/VarHandle" ∧ (parseMethodDescriptor yX12_advance.desc).map (fun d => d.parameters.length) = some 0 := by decide +kernel
theorem k_X12_check_w12 : ∀ w ∈ u_ws RX12 TX12 22, w ∈ wsX12_check := in_r _ [4, 5, 6, 7, 8, 9, 10, 11, 12, 13, 14, 15, 16, 17, 18, 19, 20, 21, 22, 23, 24, 25] rfl
theorem k_X12_check_1 : Cond.fieldLink RX12 164 "TicketGateModel" "code" "I" ∈ wsX12_check := List.mem_of_getElem? (i := 1) rfl
theorem k_X12_check_2 : Cond.fieldLink RX12 176 "TicketGateModel" "start" "I" ∈ wsX12_check := List.mem_of_getElem? (i := 2) rfl
theorem k_X12_check_3 : Cond.fieldLink RX12 35 "TicketGateModel" "place" "I" ∈ wsX12_check := List.mem_of_getElem? (i := 3) rfl
def f_X12_check (m_start : Int32) (m_code : Int32) (m_place : Int32) (v1 : Int32) (v2 : Int32) : Option (Int32 × Int32 × Int32) :=
  Option.bind (if m_code = 0 then (
    if v1 = 0 then (
      some (v2, m_start))
    else (
      some (m_code, m_place)))
  else (
    some (m_code, m_place)) : Option (Int32 × Int32)) fun j1 =>
  if j1.1 = 0 then (
    some (1, j1.1, j1.2))
  else (
    some (0, j1.1, j1.2))
set_option maxRecDepth 100000 in
set_option maxHeartbeats 4000000 in
theorem c_X12_check (l : Launch) {G : (Nat → Prop) → State → Heap → Prop} (hG : vG G) (D : va_G) (c9 : Nat → ClassId) (ad : Nat → Nat) (m_undoable : Int32) (m_undoStart : Int32) (m_thrown : Int32) (m_inputLength : Int32) (m_position : Int32) (m_start : Int32) (m_token : Int32) (m_value : Int32) (m_letters : Int32) (m_code : Int32) (m_place : Int32) (m_outputLength : Int32) (m_s : Nat → Int32) (m_parsed : Nat → Int32) (m_tried : Nat → Int32) (m_remembered : Nat → Int32) (m_slots : Nat → Int32) (m_kept : Nat → Int32) (m_away : Nat → Int32) (m_input : Nat → Int32) (m_halfway : Nat → Int32) (m_output : Nat → Int32) (v1 : Int32) (v2 : Int32) {o : Int32 × Int32 × Int32} (hf : f_X12_check m_start m_code m_place v1 v2 = some o) : mI l yX12_check wsX12_check { frames := 0, cells := 0, slots := 0, locals := 0 } G D (tyA c9) [.ref (ad 0), .int v1, .int v2] (wX12 ad c9 m_undoable m_undoStart m_thrown m_inputLength m_position m_start m_token m_value m_letters m_code m_place m_outputLength m_s m_parsed m_tried m_remembered m_slots m_kept m_away m_input m_halfway m_output) [] 0 0 o.1 (wX12 ad c9 m_undoable m_undoStart m_thrown m_inputLength m_position m_start m_token m_value m_letters o.2.1 o.2.2 m_outputLength m_s m_parsed m_tried m_remembered m_slots m_kept m_away m_input m_halfway m_output) := by
  refine mI_of hG (cc := cX12_check) (maxL := 3) (ty := .boolean) (by decide) rfl (Nat.le_of_ble_eq_true rfl) ?_
  intro p e s m args below meth c A X
  have X : vX p s m args meth c cX12_check 3 (some .boolean) RX12 wsX12_check D (tyA c9) G A := X
  refine v_eq (lv2 := [(0, .ref (ad 0)), (1, .int v1), (2, .int v2)]) rfl rfl rfl rfl ?_
  rw [f_X12_check] at hf
  refine v_aload_n X dX12_check_0 0 rfl rfl 1 rfl ?_
  refine v_get X (C := RX12) (T := TX12) (N := 22) (ci := 11) (v := _) dX12_check_1 k_X12_check_w12 0 rfl rfl 17 (by decide) k_X12_check_1 rfl rfl 4 rfl ?_
  obtain ⟨j1, hj1, hf⟩ := bnd hf
  have Jj1 : vW p l e { frames := 0, cells := 0, slots := 0, locals := 0 } s m args below meth c 3 D A [] 0 0 (MQ below (eI D (tyA c9) A o.1 ((wX12 ad c9 m_undoable m_undoStart m_thrown m_inputLength m_position m_start m_token m_value m_letters o.2.1 o.2.2 m_outputLength m_s m_parsed m_tried m_remembered m_slots m_kept m_away m_input m_halfway m_output) ++ [])) args s 0 0 A) (wX12 ad c9 m_undoable m_undoStart m_thrown m_inputLength m_position m_start m_token m_value m_letters j1.1 j1.2 m_outputLength m_s m_parsed m_tried m_remembered m_slots m_kept m_away m_input m_halfway m_output) 24 [(0, .ref (ad 0))] [] := by
    refine v_aload_n X dX12_check_24 0 rfl rfl 25 rfl ?_
    refine v_get X (C := RX12) (T := TX12) (N := 22) (ci := 11) (v := _) dX12_check_25 k_X12_check_w12 0 rfl rfl 17 (by decide) k_X12_check_1 rfl rfl 28 rfl ?_
    refine v_if_ne X (tgt := 35) dX12_check_28 rfl 31 rfl hf (fun hf => ?_) (fun hf => ?_)
    · refine v_iconst X dX12_check_35 ic_0 36 rfl ?_
      cases hf
      exact v_zret X (Nat.zero_le _) (Nat.zero_le _) rfl dX12_check_36
    · refine v_iconst X dX12_check_31 ic_1 32 rfl ?_
      refine v_goto X (tgt := 36) dX12_check_32 rfl ?_
      cases hf
      exact v_zret X (Nat.zero_le _) (Nat.zero_le _) rfl dX12_check_36
  clear hf
  refine v_if_ne X (tgt := 24) dX12_check_4 rfl 7 rfl hj1 (fun hf => ?_) (fun hf => ?_)
  · cases hf
    refine v_sub (lv' := [(0, .ref (ad 0))]) [0] rfl ?_
    exact Jj1
  · refine v_iload_n X dX12_check_7 1 rfl rfl 8 rfl ?_
    refine v_if_ne X (tgt := 24) dX12_check_8 rfl 11 rfl hf (fun hf => ?_) (fun hf => ?_)
    · cases hf
      refine v_sub (lv' := [(0, .ref (ad 0))]) [0] rfl ?_
      exact Jj1
    · refine v_aload_n X dX12_check_11 0 rfl rfl 12 rfl ?_
      refine v_iload_n X dX12_check_12 2 rfl rfl 13 rfl ?_
      refine v_put X (C := RX12) (T := TX12) (N := 22) (ci := 11) (ty := tyX12 17) (ws' := (wX12 ad c9 m_undoable m_undoStart m_thrown m_inputLength m_position m_start m_token m_value m_letters v2 m_place m_outputLength m_s m_parsed m_tried m_remembered m_slots m_kept m_away m_input m_halfway m_output)) dX12_check_13 k_X12_check_w12 0 rfl rfl 17 (by decide) tyX12 tyX12_ok nmX12 k_X12_check_1 rfl rfl (tyX12_ok 17 (by decide)) rfl rfl (by decide) rfl 16 rfl ?_
      refine v_aload_n X dX12_check_16 0 rfl rfl 17 rfl ?_
      refine v_aload_n X dX12_check_17 0 rfl rfl 18 rfl ?_
      refine v_get X (C := RX12) (T := TX12) (N := 22) (ci := 11) (v := _) dX12_check_18 k_X12_check_w12 0 rfl rfl 13 (by decide) k_X12_check_2 rfl rfl 21 rfl ?_
      refine v_put X (C := RX12) (T := TX12) (N := 22) (ci := 11) (ty := tyX12 18) (ws' := (wX12 ad c9 m_undoable m_undoStart m_thrown m_inputLength m_position m_start m_token m_value m_letters v2 m_start m_outputLength m_s m_parsed m_tried m_remembered m_slots m_kept m_away m_input m_halfway m_output)) dX12_check_21 k_X12_check_w12 0 rfl rfl 18 (by decide) tyX12 tyX12_ok nmX12 k_X12_check_3 rfl rfl (tyX12_ok 18 (by decide)) rfl rfl (by decide) rfl 24 rfl ?_
      cases hf
      refine v_sub (lv' := [(0, .ref (ad 0))]) [0] rfl ?_
      exact Jj1
theorem pd_X12_check : yX12_check.cls ≠ "java/lang/invoke/MethodHandle" ∧ yX12_check.cls ≠ "java/lang/invoke/VarHandle" ∧ (parseMethodDescriptor yX12_check.desc).map (fun d => d.parameters.length) = some 2 := by decide +kernel
theorem k_X12_next_w12 : ∀ w ∈ u_ws RX12 TX12 22, w ∈ wsX12_next := in_r _ [25, 26, 27, 28, 29, 30, 31, 32, 33, 34, 35, 36, 37, 38, 39, 40, 41, 42, 43, 44, 45, 46] rfl
theorem k_X12_next_1 : Cond.fieldLink RX12 164 "TicketGateModel" "code" "I" ∈ wsX12_next := List.mem_of_getElem? (i := 1) rfl
def f_X12_next (m_inputLength : Int32) (m_position : Int32) (m_start : Int32) (m_token : Int32) (m_value : Int32) (m_letters : Int32) (m_code : Int32) (m_input : Nat → Int32) : Option (Int32 × Int32 × Int32 × Int32 × Int32) :=
  if m_code = 0 then (
    (f_X12_advance m_inputLength m_position m_start m_token m_value m_letters m_input).bind fun o1 =>
    some (o1.1, o1.2.1, o1.2.2.1, o1.2.2.2.1, o1.2.2.2.2))
  else (
    some (m_position, m_start, m_token, m_value, m_letters))
set_option maxRecDepth 100000 in
set_option maxHeartbeats 4000000 in
theorem c_X12_next (l : Launch) {G : (Nat → Prop) → State → Heap → Prop} (hG : vG G) (D : va_G) (c9 : Nat → ClassId) (ad : Nat → Nat) (m_undoable : Int32) (m_undoStart : Int32) (m_thrown : Int32) (m_inputLength : Int32) (m_position : Int32) (m_start : Int32) (m_token : Int32) (m_value : Int32) (m_letters : Int32) (m_code : Int32) (m_place : Int32) (m_outputLength : Int32) (m_s : Nat → Int32) (m_parsed : Nat → Int32) (m_tried : Nat → Int32) (m_remembered : Nat → Int32) (m_slots : Nat → Int32) (m_kept : Nat → Int32) (m_away : Nat → Int32) (m_input : Nat → Int32) (m_halfway : Nat → Int32) (m_output : Nat → Int32)  {o : Int32 × Int32 × Int32 × Int32 × Int32} (hf : f_X12_next m_inputLength m_position m_start m_token m_value m_letters m_code m_input = some o) : mV l yX12_next wsX12_next { frames := 3, cells := 0, slots := 0, locals := 63 } G D (tyA c9) [.ref (ad 0)] (wX12 ad c9 m_undoable m_undoStart m_thrown m_inputLength m_position m_start m_token m_value m_letters m_code m_place m_outputLength m_s m_parsed m_tried m_remembered m_slots m_kept m_away m_input m_halfway m_output) [] 0 0 (wX12 ad c9 m_undoable m_undoStart m_thrown m_inputLength o.1 o.2.1 o.2.2.1 o.2.2.2.1 o.2.2.2.2 m_code m_place m_outputLength m_s m_parsed m_tried m_remembered m_slots m_kept m_away m_input m_halfway m_output) := by
  refine mV_of hG (cc := cX12_next) (maxL := 1) (by decide) rfl (Nat.le_of_ble_eq_true rfl) ?_
  intro p e s m args below meth c A hnm X
  have X : vX p s m args meth c cX12_next 1 none RX12 wsX12_next D (tyA c9) G A := X
  refine v_eq (lv2 := [(0, .ref (ad 0))]) rfl rfl rfl rfl ?_
  rw [f_X12_next] at hf
  refine v_aload_n X dX12_next_0 0 rfl rfl 1 rfl ?_
  refine v_get X (C := RX12) (T := TX12) (N := 22) (ci := 11) (v := _) dX12_next_1 k_X12_next_w12 0 rfl rfl 17 (by decide) k_X12_next_1 rfl rfl 4 rfl ?_
  refine v_if_ne X (tgt := 11) dX12_next_4 rfl 7 rfl hf (fun hf => ?_) (fun hf => ?_)
  · cases hf
    exact v_vret X (Nat.zero_le _) (Nat.zero_le _) dX12_next_11
  · refine v_aload_n X dX12_next_7 0 rfl rfl 8 rfl ?_
    obtain ⟨o1, ho1, hf⟩ := bnd hf
    refine v_callVv X (ci := 11) (T := TX12) (C := RX12) (As := []) (rest := []) (ws' := (wX12 ad c9 m_undoable m_undoStart m_thrown m_inputLength o1.1 o1.2.1 o1.2.2.1 o1.2.2.2.1 o1.2.2.2.2 m_code m_place m_outputLength m_s m_parsed m_tried m_remembered m_slots m_kept m_away m_input m_halfway m_output)) (c_X12_advance l hG D c9 ad m_undoable m_undoStart m_thrown m_inputLength m_position m_start m_token m_value m_letters m_code m_place m_outputLength m_s m_parsed m_tried m_remembered m_slots m_kept m_away m_input m_halfway m_output ho1) 0 gX12_next_X12_advance rfl rfl rfl ⟨rfl, pd_X12_advance⟩ ⟨Nat.le_of_ble_eq_true rfl, Nat.le_of_ble_eq_true rfl⟩ 0 rfl rfl rfl rfl (Nat.le_of_ble_eq_true rfl) ⟨Nat.zero_le _, Nat.zero_le _⟩ [0, 1, 2, 3, 4, 5, 6, 7, 8, 9, 10] [] [0, 1, 2, 3, 4, 5, 6, 7, 8, 9, 10] rfl rfl rfl rfl dX12_next_8 11 rfl ?_
    cases hf
    exact v_vret X (Nat.zero_le _) (Nat.zero_le _) dX12_next_11
theorem pd_X12_next : yX12_next.cls ≠ "java/lang/invoke/MethodHandle" ∧ yX12_next.cls ≠ "java/lang/invoke/VarHandle" ∧ (parseMethodDescriptor yX12_next.desc).map (fun d => d.parameters.length) = some 0 := by decide +kernel
theorem k_X12_number_w12 : ∀ w ∈ u_ws RX12 TX12 22, w ∈ wsX12_number := in_r _ [34, 35, 36, 37, 38, 39, 40, 41, 42, 43, 44, 45, 46, 47, 48, 49, 50, 51, 52, 53, 54, 55] rfl
theorem k_X12_number_1 : Cond.fieldLink RX12 185 "TicketGateModel" "token" "I" ∈ wsX12_number := List.mem_of_getElem? (i := 1) rfl
theorem k_X12_number_2 : Cond.fieldLink RX12 182 "TicketGateModel" "value" "I" ∈ wsX12_number := List.mem_of_getElem? (i := 2) rfl
theorem k_X12_number_3 : Cond.fieldLink RX12 164 "TicketGateModel" "code" "I" ∈ wsX12_number := List.mem_of_getElem? (i := 3) rfl
def f_X12_number (m_inputLength : Int32) (m_position : Int32) (m_start : Int32) (m_token : Int32) (m_value : Int32) (m_letters : Int32) (m_code : Int32) (m_place : Int32) (m_input : Nat → Int32) (v1 : Int32) (v2 : Int32) : Option (Int32 × Int32 × Int32 × Int32 × Int32 × Int32 × Int32 × Int32) :=
  Option.bind (if m_token = 2 then (
    some (1))
  else (
    some (0)) : Option (Int32)) fun j1 =>
  (f_X12_check m_start m_code m_place j1 1).bind fun o2 =>
  (f_X12_isBetween m_value v1 v2).bind fun o3 =>
  (f_X12_check m_start o2.2.1 o2.2.2 o3 2).bind fun o4 =>
  Option.bind (if o4.2.1 = 0 then (
    some (m_value))
  else (
    some (v1)) : Option (Int32)) fun j5 =>
  (f_X12_next m_inputLength m_position m_start m_token m_value m_letters o4.2.1 m_input).bind fun o6 =>
  some (j5, o6.1, o6.2.1, o6.2.2.1, o6.2.2.2.1, o6.2.2.2.2, o4.2.1, o4.2.2)
set_option maxRecDepth 100000 in
set_option maxHeartbeats 4000000 in
theorem c_X12_number (l : Launch) {G : (Nat → Prop) → State → Heap → Prop} (hG : vG G) (D : va_G) (c9 : Nat → ClassId) (ad : Nat → Nat) (m_undoable : Int32) (m_undoStart : Int32) (m_thrown : Int32) (m_inputLength : Int32) (m_position : Int32) (m_start : Int32) (m_token : Int32) (m_value : Int32) (m_letters : Int32) (m_code : Int32) (m_place : Int32) (m_outputLength : Int32) (m_s : Nat → Int32) (m_parsed : Nat → Int32) (m_tried : Nat → Int32) (m_remembered : Nat → Int32) (m_slots : Nat → Int32) (m_kept : Nat → Int32) (m_away : Nat → Int32) (m_input : Nat → Int32) (m_halfway : Nat → Int32) (m_output : Nat → Int32) (v1 : Int32) (v2 : Int32) {o : Int32 × Int32 × Int32 × Int32 × Int32 × Int32 × Int32 × Int32} (hf : f_X12_number m_inputLength m_position m_start m_token m_value m_letters m_code m_place m_input v1 v2 = some o) : mI l yX12_number wsX12_number { frames := 4, cells := 0, slots := 0, locals := 83 } G D (tyA c9) [.ref (ad 0), .int v1, .int v2] (wX12 ad c9 m_undoable m_undoStart m_thrown m_inputLength m_position m_start m_token m_value m_letters m_code m_place m_outputLength m_s m_parsed m_tried m_remembered m_slots m_kept m_away m_input m_halfway m_output) [] 0 0 o.1 (wX12 ad c9 m_undoable m_undoStart m_thrown m_inputLength o.2.1 o.2.2.1 o.2.2.2.1 o.2.2.2.2.1 o.2.2.2.2.2.1 o.2.2.2.2.2.2.1 o.2.2.2.2.2.2.2 m_outputLength m_s m_parsed m_tried m_remembered m_slots m_kept m_away m_input m_halfway m_output) := by
  refine mI_of hG (cc := cX12_number) (maxL := 4) (ty := .int) (by decide) rfl (Nat.le_of_ble_eq_true rfl) ?_
  intro p e s m args below meth c A X
  have X : vX p s m args meth c cX12_number 4 (some .int) RX12 wsX12_number D (tyA c9) G A := X
  refine v_eq (lv2 := [(0, .ref (ad 0)), (1, .int v1), (2, .int v2)]) rfl rfl rfl rfl ?_
  rw [f_X12_number] at hf
  refine v_aload_n X dX12_number_0 0 rfl rfl 1 rfl ?_
  refine v_aload_n X dX12_number_1 0 rfl rfl 2 rfl ?_
  refine v_get X (C := RX12) (T := TX12) (N := 22) (ci := 11) (v := _) dX12_number_2 k_X12_number_w12 0 rfl rfl 14 (by decide) k_X12_number_1 rfl rfl 5 rfl ?_
  refine v_iconst X dX12_number_5 ic_2 6 rfl ?_
  obtain ⟨j1, hj1, hf⟩ := bnd hf
  have Jj1 : vW p l e { frames := 4, cells := 0, slots := 0, locals := 83 } s m args below meth c 4 D A [] 0 0 (MQ below (eI D (tyA c9) A o.1 ((wX12 ad c9 m_undoable m_undoStart m_thrown m_inputLength o.2.1 o.2.2.1 o.2.2.2.1 o.2.2.2.2.1 o.2.2.2.2.2.1 o.2.2.2.2.2.2.1 o.2.2.2.2.2.2.2 m_outputLength m_s m_parsed m_tried m_remembered m_slots m_kept m_away m_input m_halfway m_output) ++ [])) args s 0 0 A) (wX12 ad c9 m_undoable m_undoStart m_thrown m_inputLength m_position m_start m_token m_value m_letters m_code m_place m_outputLength m_s m_parsed m_tried m_remembered m_slots m_kept m_away m_input m_halfway m_output) 14 [(0, .ref (ad 0)), (1, .int v1), (2, .int v2)] [.int j1, .ref (ad 0)] := by
    refine v_iconst X dX12_number_14 ic_1 15 rfl ?_
    obtain ⟨o2, ho2, hf⟩ := bnd hf
    refine v_callVi X (ci := 11) (T := TX12) (C := RX12) (As := [.int j1, .int 1]) (rest := []) (ws' := (wX12 ad c9 m_undoable m_undoStart m_thrown m_inputLength m_position m_start m_token m_value m_letters o2.2.1 o2.2.2 m_outputLength m_s m_parsed m_tried m_remembered m_slots m_kept m_away m_input m_halfway m_output)) (c_X12_check l hG D c9 ad m_undoable m_undoStart m_thrown m_inputLength m_position m_start m_token m_value m_letters m_code m_place m_outputLength m_s m_parsed m_tried m_remembered m_slots m_kept m_away m_input m_halfway m_output j1 1 ho2) 2 gX12_number_X12_check rfl rfl rfl ⟨rfl, pd_X12_check⟩ ⟨Nat.le_of_ble_eq_true rfl, Nat.le_of_ble_eq_true rfl⟩ 0 rfl rfl rfl rfl (Nat.le_of_ble_eq_true rfl) ⟨Nat.zero_le _, Nat.zero_le _⟩ [0, 1, 2, 3, 4, 5, 6, 7, 8, 9, 10] [] [0, 1, 2, 3, 4, 5, 6, 7, 8, 9, 10] rfl rfl rfl rfl dX12_number_15 18 rfl ?_
    refine v_pop X dX12_number_18 rfl 19 rfl ?_
    refine v_aload_n X dX12_number_19 0 rfl rfl 20 rfl ?_
    refine v_aload_n X dX12_number_20 0 rfl rfl 21 rfl ?_
    refine v_get X (C := RX12) (T := TX12) (N := 22) (ci := 11) (v := _) dX12_number_21 k_X12_number_w12 0 rfl rfl 15 (by decide) k_X12_number_2 rfl rfl 24 rfl ?_
    refine v_iload_n X dX12_number_24 1 rfl rfl 25 rfl ?_
    refine v_iload_n X dX12_number_25 2 rfl rfl 26 rfl ?_
    obtain ⟨o3, ho3, hf⟩ := bnd hf
    refine v_callSi X (As := [.int m_value, .int v1, .int v2]) (rest := [.ref (ad 0)]) (ws' := (wX12 ad c9 m_undoable m_undoStart m_thrown m_inputLength m_position m_start m_token m_value m_letters o2.2.1 o2.2.2 m_outputLength m_s m_parsed m_tried m_remembered m_slots m_kept m_away m_input m_halfway m_output)) (c_X12_isBetween l hG D c9 m_value v1 v2 ho3) 3 gX12_number_X12_isBetween rfl rfl rfl pd_X12_isBetween ⟨Nat.le_of_ble_eq_true rfl, Nat.le_of_ble_eq_true rfl⟩ rfl rfl (Nat.le_of_ble_eq_true rfl) ⟨Nat.zero_le _, Nat.zero_le _⟩ [] [0, 1, 2, 3, 4, 5, 6, 7, 8, 9, 10] [0, 1, 2, 3, 4, 5, 6, 7, 8, 9, 10] rfl rfl rfl rfl dX12_number_26 29 rfl ?_
    refine v_iconst X dX12_number_29 ic_2 30 rfl ?_
    obtain ⟨o4, ho4, hf⟩ := bnd hf
    refine v_callVi X (ci := 11) (T := TX12) (C := RX12) (As := [.int o3, .int 2]) (rest := []) (ws' := (wX12 ad c9 m_undoable m_undoStart m_thrown m_inputLength m_position m_start m_token m_value m_letters o4.2.1 o4.2.2 m_outputLength m_s m_parsed m_tried m_remembered m_slots m_kept m_away m_input m_halfway m_output)) (c_X12_check l hG D c9 ad m_undoable m_undoStart m_thrown m_inputLength m_position m_start m_token m_value m_letters o2.2.1 o2.2.2 m_outputLength m_s m_parsed m_tried m_remembered m_slots m_kept m_away m_input m_halfway m_output o3 2 ho4) 2 gX12_number_X12_check rfl rfl rfl ⟨rfl, pd_X12_check⟩ ⟨Nat.le_of_ble_eq_true rfl, Nat.le_of_ble_eq_true rfl⟩ 0 rfl rfl rfl rfl (Nat.le_of_ble_eq_true rfl) ⟨Nat.zero_le _, Nat.zero_le _⟩ [0, 1, 2, 3, 4, 5, 6, 7, 8, 9, 10] [] [0, 1, 2, 3, 4, 5, 6, 7, 8, 9, 10] rfl rfl rfl rfl dX12_number_30 33 rfl ?_
    refine v_pop X dX12_number_33 rfl 34 rfl ?_
    refine v_aload_n X dX12_number_34 0 rfl rfl 35 rfl ?_
    refine v_get X (C := RX12) (T := TX12) (N := 22) (ci := 11) (v := _) dX12_number_35 k_X12_number_w12 0 rfl rfl 17 (by decide) k_X12_number_3 rfl rfl 38 rfl ?_
    obtain ⟨j5, hj5, hf⟩ := bnd hf
    have Jj5 : vW p l e { frames := 4, cells := 0, slots := 0, locals := 83 } s m args below meth c 4 D A [] 0 0 (MQ below (eI D (tyA c9) A o.1 ((wX12 ad c9 m_undoable m_undoStart m_thrown m_inputLength o.2.1 o.2.2.1 o.2.2.2.1 o.2.2.2.2.1 o.2.2.2.2.2.1 o.2.2.2.2.2.2.1 o.2.2.2.2.2.2.2 m_outputLength m_s m_parsed m_tried m_remembered m_slots m_kept m_away m_input m_halfway m_output) ++ [])) args s 0 0 A) (wX12 ad c9 m_undoable m_undoStart m_thrown m_inputLength m_position m_start m_token m_value m_letters o4.2.1 o4.2.2 m_outputLength m_s m_parsed m_tried m_remembered m_slots m_kept m_away m_input m_halfway m_output) 49 [(0, .ref (ad 0))] [.int j5] := by
      refine v_istore_n X (lv' := [(3, .int j5), (0, .ref (ad 0))]) dX12_number_49 rfl (by decide) rfl 50 rfl ?_
      refine v_aload_n X dX12_number_50 1 rfl rfl 51 rfl ?_
      obtain ⟨o6, ho6, hf⟩ := bnd hf
      refine v_callVv X (ci := 11) (T := TX12) (C := RX12) (As := []) (rest := []) (ws' := (wX12 ad c9 m_undoable m_undoStart m_thrown m_inputLength o6.1 o6.2.1 o6.2.2.1 o6.2.2.2.1 o6.2.2.2.2 o4.2.1 o4.2.2 m_outputLength m_s m_parsed m_tried m_remembered m_slots m_kept m_away m_input m_halfway m_output)) (c_X12_next l hG D c9 ad m_undoable m_undoStart m_thrown m_inputLength m_position m_start m_token m_value m_letters o4.2.1 o4.2.2 m_outputLength m_s m_parsed m_tried m_remembered m_slots m_kept m_away m_input m_halfway m_output ho6) 0 gX12_number_X12_next rfl rfl rfl ⟨rfl, pd_X12_next⟩ ⟨Nat.le_of_ble_eq_true rfl, Nat.le_of_ble_eq_true rfl⟩ 0 rfl rfl rfl rfl (Nat.le_of_ble_eq_true rfl) ⟨Nat.zero_le _, Nat.zero_le _⟩ [0, 1, 2, 3, 4, 5, 6, 7, 8, 9, 10] [] [0, 1, 2, 3, 4, 5, 6, 7, 8, 9, 10] rfl rfl rfl rfl dX12_number_51 54 rfl ?_
      refine v_iload_n X dX12_number_54 0 rfl rfl 55 rfl ?_
      cases hf
      exact v_iret X (Nat.zero_le _) (Nat.zero_le _) dX12_number_55
    clear hf
    refine v_if_ne X (tgt := 48) dX12_number_38 rfl 41 rfl hj5 (fun hf => ?_) (fun hf => ?_)
    · refine v_iload_n X dX12_number_48 1 rfl rfl 49 rfl ?_
      cases hf
      refine v_sub (lv' := [(0, .ref (ad 0))]) [0] rfl ?_
      exact Jj5
    · refine v_aload_n X dX12_number_41 0 rfl rfl 42 rfl ?_
      refine v_get X (C := RX12) (T := TX12) (N := 22) (ci := 11) (v := _) dX12_number_42 k_X12_number_w12 0 rfl rfl 15 (by decide) k_X12_number_2 rfl rfl 45 rfl ?_
      refine v_goto X (tgt := 49) dX12_number_45 rfl ?_
      cases hf
      refine v_sub (lv' := [(0, .ref (ad 0))]) [0] rfl ?_
      exact Jj5
  clear hf
  refine v_icmp_ne X (tgt := 13) dX12_number_6 rfl 9 rfl hj1 (fun hf => ?_) (fun hf => ?_)
  · refine v_iconst X dX12_number_13 ic_0 14 rfl ?_
    cases hf
    exact Jj1
  · refine v_iconst X dX12_number_9 ic_1 10 rfl ?_
    refine v_goto X (tgt := 14) dX12_number_10 rfl ?_
    cases hf
    exact Jj1
theorem pd_X12_number : yX12_number.cls ≠ "java/lang/invoke/MethodHandle" ∧ yX12_number.cls ≠ "java/lang/invoke/VarHandle" ∧ (parseMethodDescriptor yX12_number.desc).map (fun d => d.parameters.length) = some 2 := by decide +kernel
theorem k_X12_semicolon_w12 : ∀ w ∈ u_ws RX12 TX12 22, w ∈ wsX12_semicolon := in_r _ [11, 12, 13, 14, 15, 16, 17, 18, 19, 20, 21, 22, 23, 24, 25, 26, 27, 28, 29, 30, 31, 32] rfl
theorem k_X12_semicolon_1 : Cond.fieldLink RX12 185 "TicketGateModel" "token" "I" ∈ wsX12_semicolon := List.mem_of_getElem? (i := 1) rfl
theorem k_X12_semicolon_2 : Cond.fieldLink RX12 32 "TicketGateModel" "input" "[I" ∈ wsX12_semicolon := List.mem_of_getElem? (i := 2) rfl
theorem k_X12_semicolon_3 : Cond.fieldLink RX12 176 "TicketGateModel" "start" "I" ∈ wsX12_semicolon := List.mem_of_getElem? (i := 3) rfl
def f_X12_semicolon (m_start : Int32) (m_token : Int32) (m_code : Int32) (m_place : Int32) (m_input : Nat → Int32) : Option (Int32 × Int32) :=
  Option.bind (if m_token = 1 then (
    (rd m_input 600 m_start).bind fun x2 =>
    if x2 = 59 then (
      some (1))
    else (
      some (0)))
  else (
    some (0)) : Option (Int32)) fun j1 =>
  (f_X12_check m_start m_code m_place j1 1).bind fun o3 =>
  some (o3.2.1, o3.2.2)
set_option maxRecDepth 100000 in
set_option maxHeartbeats 4000000 in
theorem c_X12_semicolon (l : Launch) {G : (Nat → Prop) → State → Heap → Prop} (hG : vG G) (D : va_G) (c9 : Nat → ClassId) (ad : Nat → Nat) (m_undoable : Int32) (m_undoStart : Int32) (m_thrown : Int32) (m_inputLength : Int32) (m_position : Int32) (m_start : Int32) (m_token : Int32) (m_value : Int32) (m_letters : Int32) (m_code : Int32) (m_place : Int32) (m_outputLength : Int32) (m_s : Nat → Int32) (m_parsed : Nat → Int32) (m_tried : Nat → Int32) (m_remembered : Nat → Int32) (m_slots : Nat → Int32) (m_kept : Nat → Int32) (m_away : Nat → Int32) (m_input : Nat → Int32) (m_halfway : Nat → Int32) (m_output : Nat → Int32)  {o : Int32 × Int32} (hf : f_X12_semicolon m_start m_token m_code m_place m_input = some o) : mV l yX12_semicolon wsX12_semicolon { frames := 1, cells := 0, slots := 0, locals := 22 } G D (tyA c9) [.ref (ad 0)] (wX12 ad c9 m_undoable m_undoStart m_thrown m_inputLength m_position m_start m_token m_value m_letters m_code m_place m_outputLength m_s m_parsed m_tried m_remembered m_slots m_kept m_away m_input m_halfway m_output) [] 0 0 (wX12 ad c9 m_undoable m_undoStart m_thrown m_inputLength m_position m_start m_token m_value m_letters o.1 o.2 m_outputLength m_s m_parsed m_tried m_remembered m_slots m_kept m_away m_input m_halfway m_output) := by
  refine mV_of hG (cc := cX12_semicolon) (maxL := 1) (by decide) rfl (Nat.le_of_ble_eq_true rfl) ?_
  intro p e s m args below meth c A hnm X
  have X : vX p s m args meth c cX12_semicolon 1 none RX12 wsX12_semicolon D (tyA c9) G A := X
  refine v_eq (lv2 := [(0, .ref (ad 0))]) rfl rfl rfl rfl ?_
  rw [f_X12_semicolon] at hf
  refine v_aload_n X dX12_semicolon_0 0 rfl rfl 1 rfl ?_
  refine v_aload_n X dX12_semicolon_1 0 rfl rfl 2 rfl ?_
  refine v_get X (C := RX12) (T := TX12) (N := 22) (ci := 11) (v := _) dX12_semicolon_2 k_X12_semicolon_w12 0 rfl rfl 14 (by decide) k_X12_semicolon_1 rfl rfl 5 rfl ?_
  refine v_iconst X dX12_semicolon_5 ic_1 6 rfl ?_
  obtain ⟨j1, hj1, hf⟩ := bnd hf
  have Jj1 : vW p l e { frames := 1, cells := 0, slots := 0, locals := 22 } s m args below meth c 1 D A [] 0 0 (MQ below (eV D (tyA c9) A ((wX12 ad c9 m_undoable m_undoStart m_thrown m_inputLength m_position m_start m_token m_value m_letters o.1 o.2 m_outputLength m_s m_parsed m_tried m_remembered m_slots m_kept m_away m_input m_halfway m_output) ++ [])) args s 0 0 A) (wX12 ad c9 m_undoable m_undoStart m_thrown m_inputLength m_position m_start m_token m_value m_letters m_code m_place m_outputLength m_s m_parsed m_tried m_remembered m_slots m_kept m_away m_input m_halfway m_output) 28 [] [.int j1, .ref (ad 0)] := by
    refine v_iconst X dX12_semicolon_28 ic_1 29 rfl ?_
    obtain ⟨o3, ho3, hf⟩ := bnd hf
    refine v_callVi X (ci := 11) (T := TX12) (C := RX12) (As := [.int j1, .int 1]) (rest := []) (ws' := (wX12 ad c9 m_undoable m_undoStart m_thrown m_inputLength m_position m_start m_token m_value m_letters o3.2.1 o3.2.2 m_outputLength m_s m_parsed m_tried m_remembered m_slots m_kept m_away m_input m_halfway m_output)) (c_X12_check l hG D c9 ad m_undoable m_undoStart m_thrown m_inputLength m_position m_start m_token m_value m_letters m_code m_place m_outputLength m_s m_parsed m_tried m_remembered m_slots m_kept m_away m_input m_halfway m_output j1 1 ho3) 2 gX12_semicolon_X12_check rfl rfl rfl ⟨rfl, pd_X12_check⟩ ⟨Nat.le_of_ble_eq_true rfl, Nat.le_of_ble_eq_true rfl⟩ 0 rfl rfl rfl rfl (Nat.le_of_ble_eq_true rfl) ⟨Nat.zero_le _, Nat.zero_le _⟩ [0, 1, 2, 3, 4, 5, 6, 7, 8, 9, 10] [] [0, 1, 2, 3, 4, 5, 6, 7, 8, 9, 10] rfl rfl rfl rfl dX12_semicolon_29 32 rfl ?_
    refine v_pop X dX12_semicolon_32 rfl 33 rfl ?_
    cases hf
    exact v_vret X (Nat.zero_le _) (Nat.zero_le _) dX12_semicolon_33
  clear hf
  refine v_icmp_ne X (tgt := 27) dX12_semicolon_6 rfl 9 rfl hj1 (fun hf => ?_) (fun hf => ?_)
  · refine v_iconst X dX12_semicolon_27 ic_0 28 rfl ?_
    cases hf
    refine v_sub (lv' := []) [] rfl ?_
    exact Jj1
  · refine v_aload_n X dX12_semicolon_9 0 rfl rfl 10 rfl ?_
    refine v_get X (C := RX12) (T := TX12) (N := 22) (ci := 11) (v := _) dX12_semicolon_10 k_X12_semicolon_w12 0 rfl rfl 10 (by decide) k_X12_semicolon_2 rfl rfl 13 rfl ?_
    refine v_aload_n X dX12_semicolon_13 0 rfl rfl 14 rfl ?_
    refine v_get X (C := RX12) (T := TX12) (N := 22) (ci := 11) (v := _) dX12_semicolon_14 k_X12_semicolon_w12 0 rfl rfl 13 (by decide) k_X12_semicolon_3 rfl rfl 17 rfl ?_
    obtain ⟨x2, hx2, hf⟩ := bnd hf
    refine v_iald X dX12_semicolon_17 8 0 rfl rfl hx2 18 rfl ?_
    refine v_bipush X dX12_semicolon_18 bp_59 20 rfl ?_
    refine v_icmp_ne X (tgt := 27) dX12_semicolon_20 rfl 23 rfl hf (fun hf => ?_) (fun hf => ?_)
    · refine v_iconst X dX12_semicolon_27 ic_0 28 rfl ?_
      cases hf
      refine v_sub (lv' := []) [] rfl ?_
      exact Jj1
    · refine v_iconst X dX12_semicolon_23 ic_1 24 rfl ?_
      refine v_goto X (tgt := 28) dX12_semicolon_24 rfl ?_
      cases hf
      refine v_sub (lv' := []) [] rfl ?_
      exact Jj1
theorem pd_X12_semicolon : yX12_semicolon.cls ≠ "java/lang/invoke/MethodHandle" ∧ yX12_semicolon.cls ≠ "java/lang/invoke/VarHandle" ∧ (parseMethodDescriptor yX12_semicolon.desc).map (fun d => d.parameters.length) = some 0 := by decide +kernel
def f_X12_finish (m_inputLength : Int32) (m_position : Int32) (m_start : Int32) (m_token : Int32) (m_value : Int32) (m_letters : Int32) (m_code : Int32) (m_place : Int32) (m_input : Nat → Int32) : Option (Int32 × Int32 × Int32 × Int32 × Int32 × Int32 × Int32) :=
  (f_X12_semicolon m_start m_token m_code m_place m_input).bind fun o1 =>
  (f_X12_next m_inputLength m_position m_start m_token m_value m_letters o1.1 m_input).bind fun o2 =>
  some (o2.1, o2.2.1, o2.2.2.1, o2.2.2.2.1, o2.2.2.2.2, o1.1, o1.2)
set_option maxRecDepth 100000 in
set_option maxHeartbeats 4000000 in
theorem c_X12_finish (l : Launch) {G : (Nat → Prop) → State → Heap → Prop} (hG : vG G) (D : va_G) (c9 : Nat → ClassId) (ad : Nat → Nat) (m_undoable : Int32) (m_undoStart : Int32) (m_thrown : Int32) (m_inputLength : Int32) (m_position : Int32) (m_start : Int32) (m_token : Int32) (m_value : Int32) (m_letters : Int32) (m_code : Int32) (m_place : Int32) (m_outputLength : Int32) (m_s : Nat → Int32) (m_parsed : Nat → Int32) (m_tried : Nat → Int32) (m_remembered : Nat → Int32) (m_slots : Nat → Int32) (m_kept : Nat → Int32) (m_away : Nat → Int32) (m_input : Nat → Int32) (m_halfway : Nat → Int32) (m_output : Nat → Int32)  {o : Int32 × Int32 × Int32 × Int32 × Int32 × Int32 × Int32} (hf : f_X12_finish m_inputLength m_position m_start m_token m_value m_letters m_code m_place m_input = some o) : mV l yX12_finish wsX12_finish { frames := 4, cells := 0, slots := 0, locals := 83 } G D (tyA c9) [.ref (ad 0)] (wX12 ad c9 m_undoable m_undoStart m_thrown m_inputLength m_position m_start m_token m_value m_letters m_code m_place m_outputLength m_s m_parsed m_tried m_remembered m_slots m_kept m_away m_input m_halfway m_output) [] 0 0 (wX12 ad c9 m_undoable m_undoStart m_thrown m_inputLength o.1 o.2.1 o.2.2.1 o.2.2.2.1 o.2.2.2.2.1 o.2.2.2.2.2.1 o.2.2.2.2.2.2 m_outputLength m_s m_parsed m_tried m_remembered m_slots m_kept m_away m_input m_halfway m_output) := by
  refine mV_of hG (cc := cX12_finish) (maxL := 1) (by decide) rfl (Nat.le_of_ble_eq_true rfl) ?_
  intro p e s m args below meth c A hnm X
  have X : vX p s m args meth c cX12_finish 1 none RX12 wsX12_finish D (tyA c9) G A := X
  refine v_eq (lv2 := [(0, .ref (ad 0))]) rfl rfl rfl rfl ?_
  rw [f_X12_finish] at hf
  refine v_aload_n X dX12_finish_0 0 rfl rfl 1 rfl ?_
  obtain ⟨o1, ho1, hf⟩ := bnd hf
  refine v_callVv X (ci := 11) (T := TX12) (C := RX12) (As := []) (rest := []) (ws' := (wX12 ad c9 m_undoable m_undoStart m_thrown m_inputLength m_position m_start m_token m_value m_letters o1.1 o1.2 m_outputLength m_s m_parsed m_tried m_remembered m_slots m_kept m_away m_input m_halfway m_output)) (c_X12_semicolon l hG D c9 ad m_undoable m_undoStart m_thrown m_inputLength m_position m_start m_token m_value m_letters m_code m_place m_outputLength m_s m_parsed m_tried m_remembered m_slots m_kept m_away m_input m_halfway m_output ho1) 0 gX12_finish_X12_semicolon rfl rfl rfl ⟨rfl, pd_X12_semicolon⟩ ⟨Nat.le_of_ble_eq_true rfl, Nat.le_of_ble_eq_true rfl⟩ 0 rfl rfl rfl rfl (Nat.le_of_ble_eq_true rfl) ⟨Nat.zero_le _, Nat.zero_le _⟩ [0, 1, 2, 3, 4, 5, 6, 7, 8, 9, 10] [] [0, 1, 2, 3, 4, 5, 6, 7, 8, 9, 10] rfl rfl rfl rfl dX12_finish_1 4 rfl ?_
  refine v_aload_n X dX12_finish_4 0 rfl rfl 5 rfl ?_
  obtain ⟨o2, ho2, hf⟩ := bnd hf
  refine v_callVv X (ci := 11) (T := TX12) (C := RX12) (As := []) (rest := []) (ws' := (wX12 ad c9 m_undoable m_undoStart m_thrown m_inputLength o2.1 o2.2.1 o2.2.2.1 o2.2.2.2.1 o2.2.2.2.2 o1.1 o1.2 m_outputLength m_s m_parsed m_tried m_remembered m_slots m_kept m_away m_input m_halfway m_output)) (c_X12_next l hG D c9 ad m_undoable m_undoStart m_thrown m_inputLength m_position m_start m_token m_value m_letters o1.1 o1.2 m_outputLength m_s m_parsed m_tried m_remembered m_slots m_kept m_away m_input m_halfway m_output ho2) 0 gX12_finish_X12_next rfl rfl rfl ⟨rfl, pd_X12_next⟩ ⟨Nat.le_of_ble_eq_true rfl, Nat.le_of_ble_eq_true rfl⟩ 0 rfl rfl rfl rfl (Nat.le_of_ble_eq_true rfl) ⟨Nat.zero_le _, Nat.zero_le _⟩ [0, 1, 2, 3, 4, 5, 6, 7, 8, 9, 10] [] [0, 1, 2, 3, 4, 5, 6, 7, 8, 9, 10] rfl rfl rfl rfl dX12_finish_5 8 rfl ?_
  cases hf
  exact v_vret X (Nat.zero_le _) (Nat.zero_le _) dX12_finish_8
theorem pd_X12_finish : yX12_finish.cls ≠ "java/lang/invoke/MethodHandle" ∧ yX12_finish.cls ≠ "java/lang/invoke/VarHandle" ∧ (parseMethodDescriptor yX12_finish.desc).map (fun d => d.parameters.length) = some 0 := by decide +kernel
theorem k_X12_mayDo_w12 : ∀ w ∈ u_ws RX12 TX12 22, w ∈ wsX12_mayDo := in_r _ [15, 16, 17, 18, 19, 20, 21, 22, 23, 24, 25, 26, 27, 28, 29, 30, 31, 32, 33, 34, 35, 36] rfl
theorem k_X12_mayDo_1 : Cond.fieldLink RX12 164 "TicketGateModel" "code" "I" ∈ wsX12_mayDo := List.mem_of_getElem? (i := 1) rfl
def f_X12_mayDo (m_start : Int32) (m_token : Int32) (m_code : Int32) (m_place : Int32) (m_input : Nat → Int32) (v1 : Int32) : Option (Int32 × Int32 × Int32) :=
  (f_X12_semicolon m_start m_token m_code m_place m_input).bind fun o1 =>
  Option.bind (if o1.1 = 0 then (
    if v1 = 0 then (
      some (1))
    else (
      some (0)))
  else (
    some (1)) : Option (Int32)) fun j2 =>
  (f_X12_check m_start o1.1 o1.2 j2 6).bind fun o3 =>
  if o3.2.1 = 0 then (
    some (1, o3.2.1, o3.2.2))
  else (
    some (0, o3.2.1, o3.2.2))
set_option maxRecDepth 100000 in
set_option maxHeartbeats 4000000 in
theorem c_X12_mayDo (l : Launch) {G : (Nat → Prop) → State → Heap → Prop} (hG : vG G) (D : va_G) (c9 : Nat → ClassId) (ad : Nat → Nat) (m_undoable : Int32) (m_undoStart : Int32) (m_thrown : Int32) (m_inputLength : Int32) (m_position : Int32) (m_start : Int32) (m_token : Int32) (m_value : Int32) (m_letters : Int32) (m_code : Int32) (m_place : Int32) (m_outputLength : Int32) (m_s : Nat → Int32) (m_parsed : Nat → Int32) (m_tried : Nat → Int32) (m_remembered : Nat → Int32) (m_slots : Nat → Int32) (m_kept : Nat → Int32) (m_away : Nat → Int32) (m_input : Nat → Int32) (m_halfway : Nat → Int32) (m_output : Nat → Int32) (v1 : Int32) {o : Int32 × Int32 × Int32} (hf : f_X12_mayDo m_start m_token m_code m_place m_input v1 = some o) : mI l yX12_mayDo wsX12_mayDo { frames := 2, cells := 0, slots := 0, locals := 42 } G D (tyA c9) [.ref (ad 0), .int v1] (wX12 ad c9 m_undoable m_undoStart m_thrown m_inputLength m_position m_start m_token m_value m_letters m_code m_place m_outputLength m_s m_parsed m_tried m_remembered m_slots m_kept m_away m_input m_halfway m_output) [] 0 0 o.1 (wX12 ad c9 m_undoable m_undoStart m_thrown m_inputLength m_position m_start m_token m_value m_letters o.2.1 o.2.2 m_outputLength m_s m_parsed m_tried m_remembered m_slots m_kept m_away m_input m_halfway m_output) := by
  refine mI_of hG (cc := cX12_mayDo) (maxL := 2) (ty := .boolean) (by decide) rfl (Nat.le_of_ble_eq_true rfl) ?_
  intro p e s m args below meth c A X
  have X : vX p s m args meth c cX12_mayDo 2 (some .boolean) RX12 wsX12_mayDo D (tyA c9) G A := X
  refine v_eq (lv2 := [(0, .ref (ad 0)), (1, .int v1)]) rfl rfl rfl rfl ?_
  rw [f_X12_mayDo] at hf
  refine v_aload_n X dX12_mayDo_0 0 rfl rfl 1 rfl ?_
  obtain ⟨o1, ho1, hf⟩ := bnd hf
  refine v_callVv X (ci := 11) (T := TX12) (C := RX12) (As := []) (rest := []) (ws' := (wX12 ad c9 m_undoable m_undoStart m_thrown m_inputLength m_position m_start m_token m_value m_letters o1.1 o1.2 m_outputLength m_s m_parsed m_tried m_remembered m_slots m_kept m_away m_input m_halfway m_output)) (c_X12_semicolon l hG D c9 ad m_undoable m_undoStart m_thrown m_inputLength m_position m_start m_token m_value m_letters m_code m_place m_outputLength m_s m_parsed m_tried m_remembered m_slots m_kept m_away m_input m_halfway m_output ho1) 0 gX12_mayDo_X12_semicolon rfl rfl rfl ⟨rfl, pd_X12_semicolon⟩ ⟨Nat.le_of_ble_eq_true rfl, Nat.le_of_ble_eq_true rfl⟩ 0 rfl rfl rfl rfl (Nat.le_of_ble_eq_true rfl) ⟨Nat.zero_le _, Nat.zero_le _⟩ [0, 1, 2, 3, 4, 5, 6, 7, 8, 9, 10] [] [0, 1, 2, 3, 4, 5, 6, 7, 8, 9, 10] rfl rfl rfl rfl dX12_mayDo_1 4 rfl ?_
  refine v_aload_n X dX12_mayDo_4 0 rfl rfl 5 rfl ?_
  refine v_aload_n X dX12_mayDo_5 0 rfl rfl 6 rfl ?_
  refine v_get X (C := RX12) (T := TX12) (N := 22) (ci := 11) (v := _) dX12_mayDo_6 k_X12_mayDo_w12 0 rfl rfl 17 (by decide) k_X12_mayDo_1 rfl rfl 9 rfl ?_
  obtain ⟨j2, hj2, hf⟩ := bnd hf
  have Jj2 : vW p l e { frames := 2, cells := 0, slots := 0, locals := 42 } s m args below meth c 2 D A [] 0 0 (MQ below (eI D (tyA c9) A o.1 ((wX12 ad c9 m_undoable m_undoStart m_thrown m_inputLength m_position m_start m_token m_value m_letters o.2.1 o.2.2 m_outputLength m_s m_parsed m_tried m_remembered m_slots m_kept m_away m_input m_halfway m_output) ++ [])) args s 0 0 A) (wX12 ad c9 m_undoable m_undoStart m_thrown m_inputLength m_position m_start m_token m_value m_letters o1.1 o1.2 m_outputLength m_s m_parsed m_tried m_remembered m_slots m_kept m_away m_input m_halfway m_output) 21 [(0, .ref (ad 0))] [.int j2, .ref (ad 0)] := by
    refine v_bipush X dX12_mayDo_21 bp_6 23 rfl ?_
    obtain ⟨o3, ho3, hf⟩ := bnd hf
    refine v_callVi X (ci := 11) (T := TX12) (C := RX12) (As := [.int j2, .int 6]) (rest := []) (ws' := (wX12 ad c9 m_undoable m_undoStart m_thrown m_inputLength m_position m_start m_token m_value m_letters o3.2.1 o3.2.2 m_outputLength m_s m_parsed m_tried m_remembered m_slots m_kept m_away m_input m_halfway m_output)) (c_X12_check l hG D c9 ad m_undoable m_undoStart m_thrown m_inputLength m_position m_start m_token m_value m_letters o1.1 o1.2 m_outputLength m_s m_parsed m_tried m_remembered m_slots m_kept m_away m_input m_halfway m_output j2 6 ho3) 2 gX12_mayDo_X12_check rfl rfl rfl ⟨rfl, pd_X12_check⟩ ⟨Nat.le_of_ble_eq_true rfl, Nat.le_of_ble_eq_true rfl⟩ 0 rfl rfl rfl rfl (Nat.le_of_ble_eq_true rfl) ⟨Nat.zero_le _, Nat.zero_le _⟩ [0, 1, 2, 3, 4, 5, 6, 7, 8, 9, 10] [] [0, 1, 2, 3, 4, 5, 6, 7, 8, 9, 10] rfl rfl rfl rfl dX12_mayDo_23 26 rfl ?_
    refine v_pop X dX12_mayDo_26 rfl 27 rfl ?_
    refine v_aload_n X dX12_mayDo_27 0 rfl rfl 28 rfl ?_
    refine v_get X (C := RX12) (T := TX12) (N := 22) (ci := 11) (v := _) dX12_mayDo_28 k_X12_mayDo_w12 0 rfl rfl 17 (by decide) k_X12_mayDo_1 rfl rfl 31 rfl ?_
    refine v_if_ne X (tgt := 38) dX12_mayDo_31 rfl 34 rfl hf (fun hf => ?_) (fun hf => ?_)
    · refine v_iconst X dX12_mayDo_38 ic_0 39 rfl ?_
      cases hf
      exact v_zret X (Nat.zero_le _) (Nat.zero_le _) rfl dX12_mayDo_39
    · refine v_iconst X dX12_mayDo_34 ic_1 35 rfl ?_
      refine v_goto X (tgt := 39) dX12_mayDo_35 rfl ?_
      cases hf
      exact v_zret X (Nat.zero_le _) (Nat.zero_le _) rfl dX12_mayDo_39
  clear hf
  refine v_if_ne X (tgt := 16) dX12_mayDo_9 rfl 12 rfl hj2 (fun hf => ?_) (fun hf => ?_)
  · refine v_iconst X dX12_mayDo_16 ic_1 17 rfl ?_
    refine v_goto X (tgt := 21) dX12_mayDo_17 rfl ?_
    cases hf
    refine v_sub (lv' := [(0, .ref (ad 0))]) [0] rfl ?_
    exact Jj2
  · refine v_iload_n X dX12_mayDo_12 1 rfl rfl 13 rfl ?_
    refine v_if_ne X (tgt := 20) dX12_mayDo_13 rfl 16 rfl hf (fun hf => ?_) (fun hf => ?_)
    · refine v_iconst X dX12_mayDo_20 ic_0 21 rfl ?_
      cases hf
      refine v_sub (lv' := [(0, .ref (ad 0))]) [0] rfl ?_
      exact Jj2
    · refine v_iconst X dX12_mayDo_16 ic_1 17 rfl ?_
      refine v_goto X (tgt := 21) dX12_mayDo_17 rfl ?_
      cases hf
      refine v_sub (lv' := [(0, .ref (ad 0))]) [0] rfl ?_
      exact Jj2
theorem pd_X12_mayDo : yX12_mayDo.cls ≠ "java/lang/invoke/MethodHandle" ∧ yX12_mayDo.cls ≠ "java/lang/invoke/VarHandle" ∧ (parseMethodDescriptor yX12_mayDo.desc).map (fun d => d.parameters.length) = some 1 := by decide +kernel
theorem k_X12_nameFrom_w12 : ∀ w ∈ u_ws RX12 TX12 22, w ∈ wsX12_nameFrom := in_r _ [9, 10, 11, 12, 13, 14, 15, 16, 17, 18, 19, 20, 21, 22, 23, 24, 25, 26, 27, 28, 29, 30] rfl
theorem k_X12_nameFrom_1 : Cond.fieldLink RX12 32 "TicketGateModel" "input" "[I" ∈ wsX12_nameFrom := List.mem_of_getElem? (i := 1) rfl
def f_X12_nameFrom_L16 (m_input : Nat → Int32) (v1 : Int32) (v2 : Int32) : Nat → Int32 → Int32 → Option (Int32)
  | 0, _, _ => none
  | n + 1, v3, v4 =>
    if 4 ≤ v4 then (
      some (v3))
    else (
      if v2 ≤ v4 then (
        Option.bind (if v2 ≤ v4 then (
          some (0))
        else (
          (rd m_input 600 (v1 + v4)).bind fun x3 =>
          some ((x3 - 96))) : Option (Int32)) fun j2 =>
        f_X12_nameFrom_L16 m_input v1 v2 n  ((v3 * 27) + j2) (v4 + 1))
      else (
        (rd m_input 600 (v1 + v4)).bind fun x4 =>
        (f_X12_isLetter x4).bind fun o5 =>
        if o5 = 0 then (
          some ((-1)))
        else (
          Option.bind (if v2 ≤ v4 then (
            some (0))
          else (
            (rd m_input 600 (v1 + v4)).bind fun x7 =>
            some ((x7 - 96))) : Option (Int32)) fun j6 =>
          f_X12_nameFrom_L16 m_input v1 v2 n  ((v3 * 27) + j6) (v4 + 1))))
def f_X12_nameFrom (m_input : Nat → Int32) (v1 : Int32) (v2 : Int32) : Option (Int32) :=
  (f_X12_isBetween v2 1 4).bind fun o1 =>
  if o1 = 0 then (
    some ((-1)))
  else (
    f_X12_nameFrom_L16 m_input v1 v2 5000 0 0)
set_option maxRecDepth 100000 in
set_option maxHeartbeats 4000000 in
theorem l_X12_nameFrom_L16 (l : Launch) {G : (Nat → Prop) → State → Heap → Prop} (hG : vG G) (D : va_G) (c9 : Nat → ClassId) (ad : Nat → Nat) (m_undoable : Int32) (m_undoStart : Int32) (m_thrown : Int32) (m_inputLength : Int32) (m_position : Int32) (m_start : Int32) (m_token : Int32) (m_value : Int32) (m_letters : Int32) (m_code : Int32) (m_place : Int32) (m_outputLength : Int32) (m_s : Nat → Int32) (m_parsed : Nat → Int32) (m_tried : Nat → Int32) (m_remembered : Nat → Int32) (m_slots : Nat → Int32) (m_kept : Nat → Int32) (m_away : Nat → Int32) (m_input : Nat → Int32) (m_halfway : Nat → Int32) (m_output : Nat → Int32) (v1 : Int32) (v2 : Int32) {p : Program} {e : Env} {s : State} {m : MethodId} {args : Array Value} {below : List Frame} {meth : Method} {c : Code} {A : Nat → Prop} {F : va_W} (X : vX p s m args meth c cX12_nameFrom 5 (some .int) RX12 wsX12_nameFrom D (tyA c9) G A) (o : Int32) :
    ∀ (n : Nat) (v3 : Int32) (v4 : Int32), f_X12_nameFrom_L16 m_input v1 v2 n v3 v4 = some o → vW p l e { frames := 2, cells := 0, slots := 0, locals := 42 } s m args below meth c 5 D A F 0 0 (MQ below (eI D (tyA c9) A o ((wX12 ad c9 m_undoable m_undoStart m_thrown m_inputLength m_position m_start m_token m_value m_letters m_code m_place m_outputLength m_s m_parsed m_tried m_remembered m_slots m_kept m_away m_input m_halfway m_output) ++ F)) args s 0 0 A) (wX12 ad c9 m_undoable m_undoStart m_thrown m_inputLength m_position m_start m_token m_value m_letters m_code m_place m_outputLength m_s m_parsed m_tried m_remembered m_slots m_kept m_away m_input m_halfway m_output) 16 [(0, .ref (ad 0)), (1, .int v1), (2, .int v2), (3, .int v3), (4, .int v4)] [] := by
  intro n
  induction n with
  | zero =>
    intro v3 v4 hf
    rw [f_X12_nameFrom_L16] at hf
    cases hf
  | succ n ih =>
    intro v3 v4 hf
    rw [f_X12_nameFrom_L16] at hf
    refine v_iload X dX12_nameFrom_16 4 rfl 18 rfl ?_
    refine v_iconst X dX12_nameFrom_18 ic_4 19 rfl ?_
    refine v_icmp_ge X (tgt := 79) dX12_nameFrom_19 rfl 22 rfl hf (fun hf => ?_) (fun hf => ?_)
    · refine v_iload_n X dX12_nameFrom_79 3 rfl rfl 80 rfl ?_
      cases hf
      exact v_iret X (Nat.zero_le _) (Nat.zero_le _) dX12_nameFrom_80
    · refine v_iload X dX12_nameFrom_22 4 rfl 24 rfl ?_
      refine v_iload_n X dX12_nameFrom_24 2 rfl rfl 25 rfl ?_
      refine v_icmp_ge X (tgt := 45) dX12_nameFrom_25 rfl 28 rfl hf (fun hf => ?_) (fun hf => ?_)
      · refine v_iload_n X dX12_nameFrom_45 3 rfl rfl 46 rfl ?_
        refine v_bipush X dX12_nameFrom_46 bp_27 48 rfl ?_
        refine v_imul X dX12_nameFrom_48 49 rfl ?_
        refine v_iload X dX12_nameFrom_49 4 rfl 51 rfl ?_
        refine v_iload_n X dX12_nameFrom_51 2 rfl rfl 52 rfl ?_
        obtain ⟨j2, hj2, hf⟩ := bnd hf
        have Jj2 : vW p l e { frames := 2, cells := 0, slots := 0, locals := 42 } s m args below meth c 5 D A F 0 0 (MQ below (eI D (tyA c9) A o ((wX12 ad c9 m_undoable m_undoStart m_thrown m_inputLength m_position m_start m_token m_value m_letters m_code m_place m_outputLength m_s m_parsed m_tried m_remembered m_slots m_kept m_away m_input m_halfway m_output) ++ F)) args s 0 0 A) (wX12 ad c9 m_undoable m_undoStart m_thrown m_inputLength m_position m_start m_token m_value m_letters m_code m_place m_outputLength m_s m_parsed m_tried m_remembered m_slots m_kept m_away m_input m_halfway m_output) 71 [(0, .ref (ad 0)), (1, .int v1), (2, .int v2), (4, .int v4)] [.int j2, .int (v3 * 27)] := by
          refine v_iadd X dX12_nameFrom_71 72 rfl ?_
          refine v_istore_n X (lv' := [(3, .int ((v3 * 27) + j2)), (0, .ref (ad 0)), (1, .int v1), (2, .int v2), (4, .int v4)]) dX12_nameFrom_72 rfl (by decide) rfl 73 rfl ?_
          refine v_iinc X (lv' := [(4, .int (v4 + 1)), (3, .int ((v3 * 27) + j2)), (0, .ref (ad 0)), (1, .int v1), (2, .int v2)]) dX12_nameFrom_73 4 rfl ic_1 (by decide) rfl 76 rfl ?_
          refine v_goto X (tgt := 16) dX12_nameFrom_76 rfl ?_
          refine v_sub (lv' := [(0, .ref (ad 0)), (1, .int v1), (2, .int v2), (3, .int ((v3 * 27) + j2)), (4, .int (v4 + 1))]) [2, 3, 4, 1, 0] rfl ?_
          exact ih ((v3 * 27) + j2) (v4 + 1) hf
        clear hf
        refine v_icmp_ge X (tgt := 70) dX12_nameFrom_52 rfl 55 rfl hj2 (fun hf => ?_) (fun hf => ?_)
        · refine v_iconst X dX12_nameFrom_70 ic_0 71 rfl ?_
          cases hf
          refine v_sub (lv' := [(0, .ref (ad 0)), (1, .int v1), (2, .int v2), (4, .int v4)]) [0, 1, 2, 4] rfl ?_
          exact Jj2
        · refine v_aload_n X dX12_nameFrom_55 0 rfl rfl 56 rfl ?_
          refine v_get X (C := RX12) (T := TX12) (N := 22) (ci := 11) (v := _) dX12_nameFrom_56 k_X12_nameFrom_w12 0 rfl rfl 10 (by decide) k_X12_nameFrom_1 rfl rfl 59 rfl ?_
          refine v_iload_n X dX12_nameFrom_59 1 rfl rfl 60 rfl ?_
          refine v_iload X dX12_nameFrom_60 4 rfl 62 rfl ?_
          refine v_iadd X dX12_nameFrom_62 63 rfl ?_
          obtain ⟨x3, hx3, hf⟩ := bnd hf
          refine v_iald X dX12_nameFrom_63 8 0 rfl rfl hx3 64 rfl ?_
          refine v_bipush X dX12_nameFrom_64 bp_96 66 rfl ?_
          refine v_isub X dX12_nameFrom_66 67 rfl ?_
          refine v_goto X (tgt := 71) dX12_nameFrom_67 rfl ?_
          cases hf
          refine v_sub (lv' := [(0, .ref (ad 0)), (1, .int v1), (2, .int v2), (4, .int v4)]) [0, 1, 2, 4] rfl ?_
          exact Jj2
      · refine v_aload_n X dX12_nameFrom_28 0 rfl rfl 29 rfl ?_
        refine v_get X (C := RX12) (T := TX12) (N := 22) (ci := 11) (v := _) dX12_nameFrom_29 k_X12_nameFrom_w12 0 rfl rfl 10 (by decide) k_X12_nameFrom_1 rfl rfl 32 rfl ?_
        refine v_iload_n X dX12_nameFrom_32 1 rfl rfl 33 rfl ?_
        refine v_iload X dX12_nameFrom_33 4 rfl 35 rfl ?_
        refine v_iadd X dX12_nameFrom_35 36 rfl ?_
        obtain ⟨x4, hx4, hf⟩ := bnd hf
        refine v_iald X dX12_nameFrom_36 8 0 rfl rfl hx4 37 rfl ?_
        obtain ⟨o5, ho5, hf⟩ := bnd hf
        refine v_callSi X (As := [.int x4]) (rest := []) (ws' := (wX12 ad c9 m_undoable m_undoStart m_thrown m_inputLength m_position m_start m_token m_value m_letters m_code m_place m_outputLength m_s m_parsed m_tried m_remembered m_slots m_kept m_away m_input m_halfway m_output)) (c_X12_isLetter l hG D c9 x4 ho5) 1 gX12_nameFrom_X12_isLetter rfl rfl rfl pd_X12_isLetter ⟨Nat.le_of_ble_eq_true rfl, Nat.le_of_ble_eq_true rfl⟩ rfl rfl (Nat.le_of_ble_eq_true rfl) ⟨Nat.zero_le _, Nat.zero_le _⟩ [] [0, 1, 2, 3, 4, 5, 6, 7, 8, 9, 10] [0, 1, 2, 3, 4, 5, 6, 7, 8, 9, 10] rfl rfl rfl rfl dX12_nameFrom_37 40 rfl ?_
        refine v_if_ne X (tgt := 45) dX12_nameFrom_40 rfl 43 rfl hf (fun hf => ?_) (fun hf => ?_)
        · refine v_iload_n X dX12_nameFrom_45 3 rfl rfl 46 rfl ?_
          refine v_bipush X dX12_nameFrom_46 bp_27 48 rfl ?_
          refine v_imul X dX12_nameFrom_48 49 rfl ?_
          refine v_iload X dX12_nameFrom_49 4 rfl 51 rfl ?_
          refine v_iload_n X dX12_nameFrom_51 2 rfl rfl 52 rfl ?_
          obtain ⟨j6, hj6, hf⟩ := bnd hf
          have Jj6 : vW p l e { frames := 2, cells := 0, slots := 0, locals := 42 } s m args below meth c 5 D A F 0 0 (MQ below (eI D (tyA c9) A o ((wX12 ad c9 m_undoable m_undoStart m_thrown m_inputLength m_position m_start m_token m_value m_letters m_code m_place m_outputLength m_s m_parsed m_tried m_remembered m_slots m_kept m_away m_input m_halfway m_output) ++ F)) args s 0 0 A) (wX12 ad c9 m_undoable m_undoStart m_thrown m_inputLength m_position m_start m_token m_value m_letters m_code m_place m_outputLength m_s m_parsed m_tried m_remembered m_slots m_kept m_away m_input m_halfway m_output) 71 [(0, .ref (ad 0)), (1, .int v1), (2, .int v2), (4, .int v4)] [.int j6, .int (v3 * 27)] := by
            refine v_iadd X dX12_nameFrom_71 72 rfl ?_
            refine v_istore_n X (lv' := [(3, .int ((v3 * 27) + j6)), (0, .ref (ad 0)), (1, .int v1), (2, .int v2), (4, .int v4)]) dX12_nameFrom_72 rfl (by decide) rfl 73 rfl ?_
            refine v_iinc X (lv' := [(4, .int (v4 + 1)), (3, .int ((v3 * 27) + j6)), (0, .ref (ad 0)), (1, .int v1), (2, .int v2)]) dX12_nameFrom_73 4 rfl ic_1 (by decide) rfl 76 rfl ?_
            refine v_goto X (tgt := 16) dX12_nameFrom_76 rfl ?_
            refine v_sub (lv' := [(0, .ref (ad 0)), (1, .int v1), (2, .int v2), (3, .int ((v3 * 27) + j6)), (4, .int (v4 + 1))]) [2, 3, 4, 1, 0] rfl ?_
            exact ih ((v3 * 27) + j6) (v4 + 1) hf
          clear hf
          refine v_icmp_ge X (tgt := 70) dX12_nameFrom_52 rfl 55 rfl hj6 (fun hf => ?_) (fun hf => ?_)
          · refine v_iconst X dX12_nameFrom_70 ic_0 71 rfl ?_
            cases hf
            refine v_sub (lv' := [(0, .ref (ad 0)), (1, .int v1), (2, .int v2), (4, .int v4)]) [0, 1, 2, 4] rfl ?_
            exact Jj6
          · refine v_aload_n X dX12_nameFrom_55 0 rfl rfl 56 rfl ?_
            refine v_get X (C := RX12) (T := TX12) (N := 22) (ci := 11) (v := _) dX12_nameFrom_56 k_X12_nameFrom_w12 0 rfl rfl 10 (by decide) k_X12_nameFrom_1 rfl rfl 59 rfl ?_
            refine v_iload_n X dX12_nameFrom_59 1 rfl rfl 60 rfl ?_
            refine v_iload X dX12_nameFrom_60 4 rfl 62 rfl ?_
            refine v_iadd X dX12_nameFrom_62 63 rfl ?_
            obtain ⟨x7, hx7, hf⟩ := bnd hf
            refine v_iald X dX12_nameFrom_63 8 0 rfl rfl hx7 64 rfl ?_
            refine v_bipush X dX12_nameFrom_64 bp_96 66 rfl ?_
            refine v_isub X dX12_nameFrom_66 67 rfl ?_
            refine v_goto X (tgt := 71) dX12_nameFrom_67 rfl ?_
            cases hf
            refine v_sub (lv' := [(0, .ref (ad 0)), (1, .int v1), (2, .int v2), (4, .int v4)]) [0, 1, 2, 4] rfl ?_
            exact Jj6
        · refine v_iconst X dX12_nameFrom_43 ic_m1 44 rfl ?_
          cases hf
          exact v_iret X (Nat.zero_le _) (Nat.zero_le _) dX12_nameFrom_44
set_option maxRecDepth 100000 in
set_option maxHeartbeats 4000000 in
theorem c_X12_nameFrom (l : Launch) {G : (Nat → Prop) → State → Heap → Prop} (hG : vG G) (D : va_G) (c9 : Nat → ClassId) (ad : Nat → Nat) (m_undoable : Int32) (m_undoStart : Int32) (m_thrown : Int32) (m_inputLength : Int32) (m_position : Int32) (m_start : Int32) (m_token : Int32) (m_value : Int32) (m_letters : Int32) (m_code : Int32) (m_place : Int32) (m_outputLength : Int32) (m_s : Nat → Int32) (m_parsed : Nat → Int32) (m_tried : Nat → Int32) (m_remembered : Nat → Int32) (m_slots : Nat → Int32) (m_kept : Nat → Int32) (m_away : Nat → Int32) (m_input : Nat → Int32) (m_halfway : Nat → Int32) (m_output : Nat → Int32) (v1 : Int32) (v2 : Int32) {o : Int32} (hf : f_X12_nameFrom m_input v1 v2 = some o) : mI l yX12_nameFrom wsX12_nameFrom { frames := 2, cells := 0, slots := 0, locals := 42 } G D (tyA c9) [.ref (ad 0), .int v1, .int v2] (wX12 ad c9 m_undoable m_undoStart m_thrown m_inputLength m_position m_start m_token m_value m_letters m_code m_place m_outputLength m_s m_parsed m_tried m_remembered m_slots m_kept m_away m_input m_halfway m_output) [] 0 0 o (wX12 ad c9 m_undoable m_undoStart m_thrown m_inputLength m_position m_start m_token m_value m_letters m_code m_place m_outputLength m_s m_parsed m_tried m_remembered m_slots m_kept m_away m_input m_halfway m_output) := by
  refine mI_of hG (cc := cX12_nameFrom) (maxL := 5) (ty := .int) (by decide) rfl (Nat.le_of_ble_eq_true rfl) ?_
  intro p e s m args below meth c A X
  have X : vX p s m args meth c cX12_nameFrom 5 (some .int) RX12 wsX12_nameFrom D (tyA c9) G A := X
  refine v_eq (lv2 := [(0, .ref (ad 0)), (1, .int v1), (2, .int v2)]) rfl rfl rfl rfl ?_
  rw [f_X12_nameFrom] at hf
  refine v_iload_n X dX12_nameFrom_0 2 rfl rfl 1 rfl ?_
  refine v_iconst X dX12_nameFrom_1 ic_1 2 rfl ?_
  refine v_iconst X dX12_nameFrom_2 ic_4 3 rfl ?_
  obtain ⟨o1, ho1, hf⟩ := bnd hf
  refine v_callSi X (As := [.int v2, .int 1, .int 4]) (rest := []) (ws' := (wX12 ad c9 m_undoable m_undoStart m_thrown m_inputLength m_position m_start m_token m_value m_letters m_code m_place m_outputLength m_s m_parsed m_tried m_remembered m_slots m_kept m_away m_input m_halfway m_output)) (c_X12_isBetween l hG D c9 v2 1 4 ho1) 3 gX12_nameFrom_X12_isBetween rfl rfl rfl pd_X12_isBetween ⟨Nat.le_of_ble_eq_true rfl, Nat.le_of_ble_eq_true rfl⟩ rfl rfl (Nat.le_of_ble_eq_true rfl) ⟨Nat.zero_le _, Nat.zero_le _⟩ [] [0, 1, 2, 3, 4, 5, 6, 7, 8, 9, 10] [0, 1, 2, 3, 4, 5, 6, 7, 8, 9, 10] rfl rfl rfl rfl dX12_nameFrom_3 6 rfl ?_
  refine v_if_ne X (tgt := 11) dX12_nameFrom_6 rfl 9 rfl hf (fun hf => ?_) (fun hf => ?_)
  · refine v_iconst X dX12_nameFrom_11 ic_0 12 rfl ?_
    refine v_istore_n X (lv' := [(3, .int 0), (0, .ref (ad 0)), (1, .int v1), (2, .int v2)]) dX12_nameFrom_12 rfl (by decide) rfl 13 rfl ?_
    refine v_iconst X dX12_nameFrom_13 ic_0 14 rfl ?_
    refine v_istore X (lv' := [(4, .int 0), (3, .int 0), (0, .ref (ad 0)), (1, .int v1), (2, .int v2)]) dX12_nameFrom_14 (by decide) rfl 16 rfl ?_
    refine v_sub (lv' := [(0, .ref (ad 0)), (1, .int v1), (2, .int v2), (3, .int 0), (4, .int 0)]) [2, 3, 4, 1, 0] rfl ?_
    exact l_X12_nameFrom_L16 l hG D c9 ad m_undoable m_undoStart m_thrown m_inputLength m_position m_start m_token m_value m_letters m_code m_place m_outputLength m_s m_parsed m_tried m_remembered m_slots m_kept m_away m_input m_halfway m_output v1 v2 X _ 5000 0 0 hf
  · refine v_iconst X dX12_nameFrom_9 ic_m1 10 rfl ?_
    cases hf
    exact v_iret X (Nat.zero_le _) (Nat.zero_le _) dX12_nameFrom_10
theorem pd_X12_nameFrom : yX12_nameFrom.cls ≠ "java/lang/invoke/MethodHandle" ∧ yX12_nameFrom.cls ≠ "java/lang/invoke/VarHandle" ∧ (parseMethodDescriptor yX12_nameFrom.desc).map (fun d => d.parameters.length) = some 2 := by decide +kernel
def f_X12_realmNamed_L2 (ga : Nat → Int32) (v1 : Int32) : Nat → Int32 → Option (Int32)
  | 0, _ => none
  | n + 1, v2 =>
    (rd ga 463 3).bind fun x1 =>
    if x1 ≤ v2 then (
      some ((-1)))
    else (
      (f_X12_ofRealm v2).bind fun o2 =>
      (rd ga 463 (o2 + 0)).bind fun x3 =>
      if x3 = v1 then (
        some (v2))
      else (
        f_X12_realmNamed_L2 ga v1 n  (v2 + 1)))
def f_X12_realmNamed (ga : Nat → Int32) (v1 : Int32) : Option (Int32) :=
  f_X12_realmNamed_L2 ga v1 5000 0
set_option maxRecDepth 100000 in
set_option maxHeartbeats 4000000 in
theorem l_X12_realmNamed_L2 (l : Launch) {G : (Nat → Prop) → State → Heap → Prop} (hG : vG G) (D : va_G) (c9 : Nat → ClassId) (a_ga : Nat) (ga : Nat → Int32) (v1 : Int32) {p : Program} {e : Env} {s : State} {m : MethodId} {args : Array Value} {below : List Frame} {meth : Method} {c : Code} {A : Nat → Prop} {F : va_W} (X : vX p s m args meth c cX12_realmNamed 3 (some .int) RX12 wsX12_realmNamed D (tyA c9) G A) (o : Int32) :
    ∀ (n : Nat) (v2 : Int32), f_X12_realmNamed_L2 ga v1 n v2 = some o → vW p l e { frames := 1, cells := 0, slots := 0, locals := 20 } s m args below meth c 3 D A F 0 0 (MQ below (eI D (tyA c9) A o (([(a_ga, .inl (c9 0, 463, .inl ga))]) ++ F)) args s 0 0 A) ([(a_ga, .inl (c9 0, 463, .inl ga))]) 2 [(0, .ref a_ga), (1, .int v1), (2, .int v2)] [] := by
  intro n
  induction n with
  | zero =>
    intro v2 hf
    rw [f_X12_realmNamed_L2] at hf
    cases hf
  | succ n ih =>
    intro v2 hf
    rw [f_X12_realmNamed_L2] at hf
    refine v_iload_n X dX12_realmNamed_2 2 rfl rfl 3 rfl ?_
    refine v_aload_n X dX12_realmNamed_3 0 rfl rfl 4 rfl ?_
    refine v_iconst X dX12_realmNamed_4 ic_3 5 rfl ?_
    obtain ⟨x1, hx1, hf⟩ := bnd hf
    refine v_iald X dX12_realmNamed_5 0 0 rfl rfl hx1 6 rfl ?_
    refine v_icmp_ge X (tgt := 29) dX12_realmNamed_6 rfl 9 rfl hf (fun hf => ?_) (fun hf => ?_)
    · refine v_iconst X dX12_realmNamed_29 ic_m1 30 rfl ?_
      cases hf
      exact v_iret X (Nat.zero_le _) (Nat.zero_le _) dX12_realmNamed_30
    · refine v_aload_n X dX12_realmNamed_9 0 rfl rfl 10 rfl ?_
      refine v_iload_n X dX12_realmNamed_10 2 rfl rfl 11 rfl ?_
      obtain ⟨o2, ho2, hf⟩ := bnd hf
      refine v_callSi X (As := [.int v2]) (rest := [.ref a_ga]) (ws' := ([(a_ga, .inl (c9 0, 463, .inl ga))])) (c_X12_ofRealm l hG D c9 v2 ho2) 1 gX12_realmNamed_X12_ofRealm rfl rfl rfl pd_X12_ofRealm ⟨Nat.le_of_ble_eq_true rfl, Nat.le_of_ble_eq_true rfl⟩ rfl rfl (Nat.le_of_ble_eq_true rfl) ⟨Nat.zero_le _, Nat.zero_le _⟩ [] [0] [0] rfl rfl rfl rfl dX12_realmNamed_11 14 rfl ?_
      refine v_iconst X dX12_realmNamed_14 ic_0 15 rfl ?_
      refine v_iadd X dX12_realmNamed_15 16 rfl ?_
      obtain ⟨x3, hx3, hf⟩ := bnd hf
      refine v_iald X dX12_realmNamed_16 0 0 rfl rfl hx3 17 rfl ?_
      refine v_iload_n X dX12_realmNamed_17 1 rfl rfl 18 rfl ?_
      refine v_icmp_ne X (tgt := 23) dX12_realmNamed_18 rfl 21 rfl hf (fun hf => ?_) (fun hf => ?_)
      · refine v_iinc X (lv' := [(2, .int (v2 + 1)), (0, .ref a_ga), (1, .int v1)]) dX12_realmNamed_23 2 rfl ic_1 (by decide) rfl 26 rfl ?_
        refine v_goto X (tgt := 2) dX12_realmNamed_26 rfl ?_
        refine v_sub (lv' := [(0, .ref a_ga), (1, .int v1), (2, .int (v2 + 1))]) [1, 2, 0] rfl ?_
        exact ih (v2 + 1) hf
      · refine v_iload_n X dX12_realmNamed_21 2 rfl rfl 22 rfl ?_
        cases hf
        exact v_iret X (Nat.zero_le _) (Nat.zero_le _) dX12_realmNamed_22
set_option maxRecDepth 100000 in
set_option maxHeartbeats 4000000 in
theorem c_X12_realmNamed (l : Launch) {G : (Nat → Prop) → State → Heap → Prop} (hG : vG G) (D : va_G) (c9 : Nat → ClassId) (a_ga : Nat) (ga : Nat → Int32) (v1 : Int32) {o : Int32} (hf : f_X12_realmNamed ga v1 = some o) : mI l yX12_realmNamed wsX12_realmNamed { frames := 1, cells := 0, slots := 0, locals := 20 } G D (tyA c9) [.ref a_ga, .int v1] ([(a_ga, .inl (c9 0, 463, .inl ga))]) [] 0 0 o ([(a_ga, .inl (c9 0, 463, .inl ga))]) := by
  refine mI_of hG (cc := cX12_realmNamed) (maxL := 3) (ty := .int) (by decide) rfl (Nat.le_of_ble_eq_true rfl) ?_
  intro p e s m args below meth c A X
  have X : vX p s m args meth c cX12_realmNamed 3 (some .int) RX12 wsX12_realmNamed D (tyA c9) G A := X
  refine v_eq (lv2 := [(0, .ref a_ga), (1, .int v1)]) rfl rfl rfl rfl ?_
  rw [f_X12_realmNamed] at hf
  refine v_iconst X dX12_realmNamed_0 ic_0 1 rfl ?_
  refine v_istore_n X (lv' := [(2, .int 0), (0, .ref a_ga), (1, .int v1)]) dX12_realmNamed_1 rfl (by decide) rfl 2 rfl ?_
  refine v_sub (lv' := [(0, .ref a_ga), (1, .int v1), (2, .int 0)]) [1, 2, 0] rfl ?_
  exact l_X12_realmNamed_L2 l hG D c9 a_ga ga v1 X _ 5000 0 hf
theorem pd_X12_realmNamed : yX12_realmNamed.cls ≠ "java/lang/invoke/MethodHandle" ∧ yX12_realmNamed.cls ≠ "java/lang/invoke/VarHandle" ∧ (parseMethodDescriptor yX12_realmNamed.desc).map (fun d => d.parameters.length) = some 2 := by decide +kernel
def f_X12_userNamed_L2 (ga : Nat → Int32) (v1 : Int32) : Nat → Int32 → Option (Int32)
  | 0, _ => none
  | n + 1, v2 =>
    (rd ga 463 4).bind fun x1 =>
    if x1 ≤ v2 then (
      some ((-1)))
    else (
      (f_X12_ofUser v2).bind fun o2 =>
      (rd ga 463 (o2 + 0)).bind fun x3 =>
      if x3 = v1 then (
        some (v2))
      else (
        f_X12_userNamed_L2 ga v1 n  (v2 + 1)))
def f_X12_userNamed (ga : Nat → Int32) (v1 : Int32) : Option (Int32) :=
  f_X12_userNamed_L2 ga v1 5000 0
set_option maxRecDepth 100000 in
set_option maxHeartbeats 4000000 in
theorem l_X12_userNamed_L2 (l : Launch) {G : (Nat → Prop) → State → Heap → Prop} (hG : vG G) (D : va_G) (c9 : Nat → ClassId) (a_ga : Nat) (ga : Nat → Int32) (v1 : Int32) {p : Program} {e : Env} {s : State} {m : MethodId} {args : Array Value} {below : List Frame} {meth : Method} {c : Code} {A : Nat → Prop} {F : va_W} (X : vX p s m args meth c cX12_userNamed 3 (some .int) RX12 wsX12_userNamed D (tyA c9) G A) (o : Int32) :
    ∀ (n : Nat) (v2 : Int32), f_X12_userNamed_L2 ga v1 n v2 = some o → vW p l e { frames := 1, cells := 0, slots := 0, locals := 20 } s m args below meth c 3 D A F 0 0 (MQ below (eI D (tyA c9) A o (([(a_ga, .inl (c9 0, 463, .inl ga))]) ++ F)) args s 0 0 A) ([(a_ga, .inl (c9 0, 463, .inl ga))]) 2 [(0, .ref a_ga), (1, .int v1), (2, .int v2)] [] := by
  intro n
  induction n with
  | zero =>
    intro v2 hf
    rw [f_X12_userNamed_L2] at hf
    cases hf
  | succ n ih =>
    intro v2 hf
    rw [f_X12_userNamed_L2] at hf
    refine v_iload_n X dX12_userNamed_2 2 rfl rfl 3 rfl ?_
    refine v_aload_n X dX12_userNamed_3 0 rfl rfl 4 rfl ?_
    refine v_iconst X dX12_userNamed_4 ic_4 5 rfl ?_
    obtain ⟨x1, hx1, hf⟩ := bnd hf
    refine v_iald X dX12_userNamed_5 0 0 rfl rfl hx1 6 rfl ?_
    refine v_icmp_ge X (tgt := 29) dX12_userNamed_6 rfl 9 rfl hf (fun hf => ?_) (fun hf => ?_)
    · refine v_iconst X dX12_userNamed_29 ic_m1 30 rfl ?_
      cases hf
      exact v_iret X (Nat.zero_le _) (Nat.zero_le _) dX12_userNamed_30
    · refine v_aload_n X dX12_userNamed_9 0 rfl rfl 10 rfl ?_
      refine v_iload_n X dX12_userNamed_10 2 rfl rfl 11 rfl ?_
      obtain ⟨o2, ho2, hf⟩ := bnd hf
      refine v_callSi X (As := [.int v2]) (rest := [.ref a_ga]) (ws' := ([(a_ga, .inl (c9 0, 463, .inl ga))])) (c_X12_ofUser l hG D c9 v2 ho2) 1 gX12_userNamed_X12_ofUser rfl rfl rfl pd_X12_ofUser ⟨Nat.le_of_ble_eq_true rfl, Nat.le_of_ble_eq_true rfl⟩ rfl rfl (Nat.le_of_ble_eq_true rfl) ⟨Nat.zero_le _, Nat.zero_le _⟩ [] [0] [0] rfl rfl rfl rfl dX12_userNamed_11 14 rfl ?_
      refine v_iconst X dX12_userNamed_14 ic_0 15 rfl ?_
      refine v_iadd X dX12_userNamed_15 16 rfl ?_
      obtain ⟨x3, hx3, hf⟩ := bnd hf
      refine v_iald X dX12_userNamed_16 0 0 rfl rfl hx3 17 rfl ?_
      refine v_iload_n X dX12_userNamed_17 1 rfl rfl 18 rfl ?_
      refine v_icmp_ne X (tgt := 23) dX12_userNamed_18 rfl 21 rfl hf (fun hf => ?_) (fun hf => ?_)
      · refine v_iinc X (lv' := [(2, .int (v2 + 1)), (0, .ref a_ga), (1, .int v1)]) dX12_userNamed_23 2 rfl ic_1 (by decide) rfl 26 rfl ?_
        refine v_goto X (tgt := 2) dX12_userNamed_26 rfl ?_
        refine v_sub (lv' := [(0, .ref a_ga), (1, .int v1), (2, .int (v2 + 1))]) [1, 2, 0] rfl ?_
        exact ih (v2 + 1) hf
      · refine v_iload_n X dX12_userNamed_21 2 rfl rfl 22 rfl ?_
        cases hf
        exact v_iret X (Nat.zero_le _) (Nat.zero_le _) dX12_userNamed_22
set_option maxRecDepth 100000 in
set_option maxHeartbeats 4000000 in
theorem c_X12_userNamed (l : Launch) {G : (Nat → Prop) → State → Heap → Prop} (hG : vG G) (D : va_G) (c9 : Nat → ClassId) (a_ga : Nat) (ga : Nat → Int32) (v1 : Int32) {o : Int32} (hf : f_X12_userNamed ga v1 = some o) : mI l yX12_userNamed wsX12_userNamed { frames := 1, cells := 0, slots := 0, locals := 20 } G D (tyA c9) [.ref a_ga, .int v1] ([(a_ga, .inl (c9 0, 463, .inl ga))]) [] 0 0 o ([(a_ga, .inl (c9 0, 463, .inl ga))]) := by
  refine mI_of hG (cc := cX12_userNamed) (maxL := 3) (ty := .int) (by decide) rfl (Nat.le_of_ble_eq_true rfl) ?_
  intro p e s m args below meth c A X
  have X : vX p s m args meth c cX12_userNamed 3 (some .int) RX12 wsX12_userNamed D (tyA c9) G A := X
  refine v_eq (lv2 := [(0, .ref a_ga), (1, .int v1)]) rfl rfl rfl rfl ?_
  rw [f_X12_userNamed] at hf
  refine v_iconst X dX12_userNamed_0 ic_0 1 rfl ?_
  refine v_istore_n X (lv' := [(2, .int 0), (0, .ref a_ga), (1, .int v1)]) dX12_userNamed_1 rfl (by decide) rfl 2 rfl ?_
  refine v_sub (lv' := [(0, .ref a_ga), (1, .int v1), (2, .int 0)]) [1, 2, 0] rfl ?_
  exact l_X12_userNamed_L2 l hG D c9 a_ga ga v1 X _ 5000 0 hf
theorem pd_X12_userNamed : yX12_userNamed.cls ≠ "java/lang/invoke/MethodHandle" ∧ yX12_userNamed.cls ≠ "java/lang/invoke/VarHandle" ∧ (parseMethodDescriptor yX12_userNamed.desc).map (fun d => d.parameters.length) = some 2 := by decide +kernel
def f_X12_serviceNamed_L2 (ga : Nat → Int32) (v1 : Int32) : Nat → Int32 → Option (Int32)
  | 0, _ => none
  | n + 1, v2 =>
    (rd ga 463 5).bind fun x1 =>
    if x1 ≤ v2 then (
      some ((-1)))
    else (
      (f_X12_ofService v2).bind fun o2 =>
      (rd ga 463 (o2 + 0)).bind fun x3 =>
      if x3 = v1 then (
        some (v2))
      else (
        f_X12_serviceNamed_L2 ga v1 n  (v2 + 1)))
def f_X12_serviceNamed (ga : Nat → Int32) (v1 : Int32) : Option (Int32) :=
  f_X12_serviceNamed_L2 ga v1 5000 0
set_option maxRecDepth 100000 in
set_option maxHeartbeats 4000000 in
theorem l_X12_serviceNamed_L2 (l : Launch) {G : (Nat → Prop) → State → Heap → Prop} (hG : vG G) (D : va_G) (c9 : Nat → ClassId) (a_ga : Nat) (ga : Nat → Int32) (v1 : Int32) {p : Program} {e : Env} {s : State} {m : MethodId} {args : Array Value} {below : List Frame} {meth : Method} {c : Code} {A : Nat → Prop} {F : va_W} (X : vX p s m args meth c cX12_serviceNamed 3 (some .int) RX12 wsX12_serviceNamed D (tyA c9) G A) (o : Int32) :
    ∀ (n : Nat) (v2 : Int32), f_X12_serviceNamed_L2 ga v1 n v2 = some o → vW p l e { frames := 1, cells := 0, slots := 0, locals := 20 } s m args below meth c 3 D A F 0 0 (MQ below (eI D (tyA c9) A o (([(a_ga, .inl (c9 0, 463, .inl ga))]) ++ F)) args s 0 0 A) ([(a_ga, .inl (c9 0, 463, .inl ga))]) 2 [(0, .ref a_ga), (1, .int v1), (2, .int v2)] [] := by
  intro n
  induction n with
  | zero =>
    intro v2 hf
    rw [f_X12_serviceNamed_L2] at hf
    cases hf
  | succ n ih =>
    intro v2 hf
    rw [f_X12_serviceNamed_L2] at hf
    refine v_iload_n X dX12_serviceNamed_2 2 rfl rfl 3 rfl ?_
    refine v_aload_n X dX12_serviceNamed_3 0 rfl rfl 4 rfl ?_
    refine v_iconst X dX12_serviceNamed_4 ic_5 5 rfl ?_
    obtain ⟨x1, hx1, hf⟩ := bnd hf
    refine v_iald X dX12_serviceNamed_5 0 0 rfl rfl hx1 6 rfl ?_
    refine v_icmp_ge X (tgt := 29) dX12_serviceNamed_6 rfl 9 rfl hf (fun hf => ?_) (fun hf => ?_)
    · refine v_iconst X dX12_serviceNamed_29 ic_m1 30 rfl ?_
      cases hf
      exact v_iret X (Nat.zero_le _) (Nat.zero_le _) dX12_serviceNamed_30
    · refine v_aload_n X dX12_serviceNamed_9 0 rfl rfl 10 rfl ?_
      refine v_iload_n X dX12_serviceNamed_10 2 rfl rfl 11 rfl ?_
      obtain ⟨o2, ho2, hf⟩ := bnd hf
      refine v_callSi X (As := [.int v2]) (rest := [.ref a_ga]) (ws' := ([(a_ga, .inl (c9 0, 463, .inl ga))])) (c_X12_ofService l hG D c9 v2 ho2) 1 gX12_serviceNamed_X12_ofService rfl rfl rfl pd_X12_ofService ⟨Nat.le_of_ble_eq_true rfl, Nat.le_of_ble_eq_true rfl⟩ rfl rfl (Nat.le_of_ble_eq_true rfl) ⟨Nat.zero_le _, Nat.zero_le _⟩ [] [0] [0] rfl rfl rfl rfl dX12_serviceNamed_11 14 rfl ?_
      refine v_iconst X dX12_serviceNamed_14 ic_0 15 rfl ?_
      refine v_iadd X dX12_serviceNamed_15 16 rfl ?_
      obtain ⟨x3, hx3, hf⟩ := bnd hf
      refine v_iald X dX12_serviceNamed_16 0 0 rfl rfl hx3 17 rfl ?_
      refine v_iload_n X dX12_serviceNamed_17 1 rfl rfl 18 rfl ?_
      refine v_icmp_ne X (tgt := 23) dX12_serviceNamed_18 rfl 21 rfl hf (fun hf => ?_) (fun hf => ?_)
      · refine v_iinc X (lv' := [(2, .int (v2 + 1)), (0, .ref a_ga), (1, .int v1)]) dX12_serviceNamed_23 2 rfl ic_1 (by decide) rfl 26 rfl ?_
        refine v_goto X (tgt := 2) dX12_serviceNamed_26 rfl ?_
        refine v_sub (lv' := [(0, .ref a_ga), (1, .int v1), (2, .int (v2 + 1))]) [1, 2, 0] rfl ?_
        exact ih (v2 + 1) hf
      · refine v_iload_n X dX12_serviceNamed_21 2 rfl rfl 22 rfl ?_
        cases hf
        exact v_iret X (Nat.zero_le _) (Nat.zero_le _) dX12_serviceNamed_22
set_option maxRecDepth 100000 in
set_option maxHeartbeats 4000000 in
theorem c_X12_serviceNamed (l : Launch) {G : (Nat → Prop) → State → Heap → Prop} (hG : vG G) (D : va_G) (c9 : Nat → ClassId) (a_ga : Nat) (ga : Nat → Int32) (v1 : Int32) {o : Int32} (hf : f_X12_serviceNamed ga v1 = some o) : mI l yX12_serviceNamed wsX12_serviceNamed { frames := 1, cells := 0, slots := 0, locals := 20 } G D (tyA c9) [.ref a_ga, .int v1] ([(a_ga, .inl (c9 0, 463, .inl ga))]) [] 0 0 o ([(a_ga, .inl (c9 0, 463, .inl ga))]) := by
  refine mI_of hG (cc := cX12_serviceNamed) (maxL := 3) (ty := .int) (by decide) rfl (Nat.le_of_ble_eq_true rfl) ?_
  intro p e s m args below meth c A X
  have X : vX p s m args meth c cX12_serviceNamed 3 (some .int) RX12 wsX12_serviceNamed D (tyA c9) G A := X
  refine v_eq (lv2 := [(0, .ref a_ga), (1, .int v1)]) rfl rfl rfl rfl ?_
  rw [f_X12_serviceNamed] at hf
  refine v_iconst X dX12_serviceNamed_0 ic_0 1 rfl ?_
  refine v_istore_n X (lv' := [(2, .int 0), (0, .ref a_ga), (1, .int v1)]) dX12_serviceNamed_1 rfl (by decide) rfl 2 rfl ?_
  refine v_sub (lv' := [(0, .ref a_ga), (1, .int v1), (2, .int 0)]) [1, 2, 0] rfl ?_
  exact l_X12_serviceNamed_L2 l hG D c9 a_ga ga v1 X _ 5000 0 hf
theorem pd_X12_serviceNamed : yX12_serviceNamed.cls ≠ "java/lang/invoke/MethodHandle" ∧ yX12_serviceNamed.cls ≠ "java/lang/invoke/VarHandle" ∧ (parseMethodDescriptor yX12_serviceNamed.desc).map (fun d => d.parameters.length) = some 2 := by decide +kernel
