theorem k_X12_cheeseDifference_w12 : ∀ w ∈ u_ws RX12 TX12 22, w ∈ wsX12_cheeseDifference := in_r _ [10, 11, 12, 13, 14, 15, 16, 17, 18, 19, 20, 21, 22, 23, 24, 25, 26, 27, 28, 29, 30, 31] rfl
theorem k_X12_cheeseDifference_1 : Cond.fieldLink RX12 72 "TicketGateModel" "thrown" "I" ∈ wsX12_cheeseDifference := List.mem_of_getElem? (i := 1) rfl
theorem k_X12_cheeseDifference_2 : Cond.fieldLink RX12 7 "TicketGateModel" "s" "[I" ∈ wsX12_cheeseDifference := List.mem_of_getElem? (i := 2) rfl
def f_X12_cheeseDifference_L15 (m_s : Nat → Int32) : Nat → Int32 → Int32 → Option (Int32)
  | 0, _, _ => none
  | n + 1, v1, v2 =>
    (rd m_s 463 5).bind fun x2 =>
    if x2 ≤ v2 then (
      some (v1))
    else (
      (f_X12_ofService v2).bind fun o3 =>
      (rd m_s 463 (o3 + 2)).bind fun x4 =>
      f_X12_cheeseDifference_L15 m_s n  (v1 - x4) (v2 + 1))
def f_X12_cheeseDifference_L47 (m_s : Nat → Int32) : Nat → Int32 → Int32 → Option (Int32)
  | 0, _, _ => none
  | n + 1, v1, v2 =>
    (rd m_s 463 4).bind fun x6 =>
    if x6 ≤ v2 then (
      some (v1))
    else (
      (f_X12_ofUser v2).bind fun o7 =>
      (rd m_s 463 (o7 + 4)).bind fun x8 =>
      f_X12_cheeseDifference_L47 m_s n  (v1 - x8) (v2 + 1))
def f_X12_cheeseDifference (m_thrown : Int32) (m_s : Nat → Int32) : Option (Int32 × Int32) :=
  (rd m_s 463 9).bind fun x1 =>
  (f_X12_cheeseDifference_L15 m_s 5000 x1 0).bind fun o5 =>
  (f_X12_cheeseDifference_L47 m_s 5000 o5 0).bind fun o9 =>
  some (o9, 0)
set_option maxRecDepth 100000 in
set_option maxHeartbeats 4000000 in
theorem l_X12_cheeseDifference_L15 (l : Launch) {G : (Nat → Prop) → State → Heap → Prop} (hG : vG G) (D : va_G) (c9 : Nat → ClassId) (ad : Nat → Nat) (m_undoable : Int32) (m_undoStart : Int32) (m_thrown : Int32) (m_inputLength : Int32) (m_position : Int32) (m_start : Int32) (m_token : Int32) (m_value : Int32) (m_letters : Int32) (m_code : Int32) (m_place : Int32) (m_outputLength : Int32) (m_s : Nat → Int32) (m_parsed : Nat → Int32) (m_tried : Nat → Int32) (m_remembered : Nat → Int32) (m_slots : Nat → Int32) (m_kept : Nat → Int32) (m_away : Nat → Int32) (m_input : Nat → Int32) (m_halfway : Nat → Int32) (m_output : Nat → Int32) {p : Program} {e : Env} {s : State} {m : MethodId} {args : Array Value} {below : List Frame} {meth : Method} {c : Code} {A : Nat → Prop} {F : va_W} (X : vX p s m args meth c cX12_cheeseDifference 3 (some .int) RX12 wsX12_cheeseDifference D (tyA c9) G A) {Q : State → Prop} (o : Int32) (K : vW p l e { frames := 1, cells := 0, slots := 0, locals := 20 } s m args below meth c 3 D A F 0 0 Q (wX12 ad c9 m_undoable m_undoStart m_thrown m_inputLength m_position m_start m_token m_value m_letters m_code m_place m_outputLength m_s m_parsed m_tried m_remembered m_slots m_kept m_away m_input m_halfway m_output) 45 [(0, .ref (ad 0)), (1, .int o)] []) :
    ∀ (n : Nat) (v1 : Int32) (v2 : Int32), f_X12_cheeseDifference_L15 m_s n v1 v2 = some o → vW p l e { frames := 1, cells := 0, slots := 0, locals := 20 } s m args below meth c 3 D A F 0 0 Q (wX12 ad c9 m_undoable m_undoStart m_thrown m_inputLength m_position m_start m_token m_value m_letters m_code m_place m_outputLength m_s m_parsed m_tried m_remembered m_slots m_kept m_away m_input m_halfway m_output) 15 [(0, .ref (ad 0)), (1, .int v1), (2, .int v2)] [] := by
  intro n
  induction n with
  | zero =>
    intro v1 v2 hf
    rw [f_X12_cheeseDifference_L15] at hf
    cases hf
  | succ n ih =>
    intro v1 v2 hf
    rw [f_X12_cheeseDifference_L15] at hf
    refine v_iload_n X dX12_cheeseDifference_15 2 rfl rfl 16 rfl ?_
    refine v_aload_n X dX12_cheeseDifference_16 0 rfl rfl 17 rfl ?_
    refine v_get X (C := RX12) (T := TX12) (N := 22) (ci := 11) (v := _) dX12_cheeseDifference_17 k_X12_cheeseDifference_w12 0 rfl rfl 0 (by decide) k_X12_cheeseDifference_2 rfl rfl 20 rfl ?_
    refine v_iconst X dX12_cheeseDifference_20 ic_5 21 rfl ?_
    obtain ⟨x2, hx2, hf⟩ := bnd hf
    refine v_iald X dX12_cheeseDifference_21 1 0 rfl rfl hx2 22 rfl ?_
    refine v_icmp_ge X (tgt := 45) dX12_cheeseDifference_22 rfl 25 rfl hf (fun hf => ?_) (fun hf => ?_)
    · cases hf
      refine v_sub (lv' := [(0, .ref (ad 0)), (1, .int v1)]) [0, 1] rfl ?_
      exact K
    · refine v_iload_n X dX12_cheeseDifference_25 1 rfl rfl 26 rfl ?_
      refine v_aload_n X dX12_cheeseDifference_26 0 rfl rfl 27 rfl ?_
      refine v_get X (C := RX12) (T := TX12) (N := 22) (ci := 11) (v := _) dX12_cheeseDifference_27 k_X12_cheeseDifference_w12 0 rfl rfl 0 (by decide) k_X12_cheeseDifference_2 rfl rfl 30 rfl ?_
      refine v_iload_n X dX12_cheeseDifference_30 2 rfl rfl 31 rfl ?_
      obtain ⟨o3, ho3, hf⟩ := bnd hf
      refine v_callSi X (As := [.int v2]) (rest := [.ref (ad 1), .int v1]) (ws' := (wX12 ad c9 m_undoable m_undoStart m_thrown m_inputLength m_position m_start m_token m_value m_letters m_code m_place m_outputLength m_s m_parsed m_tried m_remembered m_slots m_kept m_away m_input m_halfway m_output)) (c_X12_ofService l hG D c9 v2 ho3) 1 gX12_cheeseDifference_X12_ofService rfl rfl rfl pd_X12_ofService ⟨Nat.le_of_ble_eq_true rfl, Nat.le_of_ble_eq_true rfl⟩ rfl rfl (Nat.le_of_ble_eq_true rfl) ⟨Nat.zero_le _, Nat.zero_le _⟩ [] [0, 1, 2, 3, 4, 5, 6, 7, 8, 9, 10] [0, 1, 2, 3, 4, 5, 6, 7, 8, 9, 10] rfl rfl rfl rfl dX12_cheeseDifference_31 34 rfl ?_
      refine v_iconst X dX12_cheeseDifference_34 ic_2 35 rfl ?_
      refine v_iadd X dX12_cheeseDifference_35 36 rfl ?_
      obtain ⟨x4, hx4, hf⟩ := bnd hf
      refine v_iald X dX12_cheeseDifference_36 1 0 rfl rfl hx4 37 rfl ?_
      refine v_isub X dX12_cheeseDifference_37 38 rfl ?_
      refine v_istore_n X (lv' := [(1, .int (v1 - x4)), (0, .ref (ad 0)), (2, .int v2)]) dX12_cheeseDifference_38 rfl (by decide) rfl 39 rfl ?_
      refine v_iinc X (lv' := [(2, .int (v2 + 1)), (1, .int (v1 - x4)), (0, .ref (ad 0))]) dX12_cheeseDifference_39 2 rfl ic_1 (by decide) rfl 42 rfl ?_
      refine v_goto X (tgt := 15) dX12_cheeseDifference_42 rfl ?_
      refine v_sub (lv' := [(0, .ref (ad 0)), (1, .int (v1 - x4)), (2, .int (v2 + 1))]) [2, 1, 0] rfl ?_
      exact ih (v1 - x4) (v2 + 1) hf
set_option maxRecDepth 100000 in
set_option maxHeartbeats 4000000 in
theorem l_X12_cheeseDifference_L47 (l : Launch) {G : (Nat → Prop) → State → Heap → Prop} (hG : vG G) (D : va_G) (c9 : Nat → ClassId) (ad : Nat → Nat) (m_undoable : Int32) (m_undoStart : Int32) (m_thrown : Int32) (m_inputLength : Int32) (m_position : Int32) (m_start : Int32) (m_token : Int32) (m_value : Int32) (m_letters : Int32) (m_code : Int32) (m_place : Int32) (m_outputLength : Int32) (m_s : Nat → Int32) (m_parsed : Nat → Int32) (m_tried : Nat → Int32) (m_remembered : Nat → Int32) (m_slots : Nat → Int32) (m_kept : Nat → Int32) (m_away : Nat → Int32) (m_input : Nat → Int32) (m_halfway : Nat → Int32) (m_output : Nat → Int32) {p : Program} {e : Env} {s : State} {m : MethodId} {args : Array Value} {below : List Frame} {meth : Method} {c : Code} {A : Nat → Prop} {F : va_W} (X : vX p s m args meth c cX12_cheeseDifference 3 (some .int) RX12 wsX12_cheeseDifference D (tyA c9) G A) {Q : State → Prop} (o : Int32) (K : vW p l e { frames := 1, cells := 0, slots := 0, locals := 20 } s m args below meth c 3 D A F 0 0 Q (wX12 ad c9 m_undoable m_undoStart m_thrown m_inputLength m_position m_start m_token m_value m_letters m_code m_place m_outputLength m_s m_parsed m_tried m_remembered m_slots m_kept m_away m_input m_halfway m_output) 77 [(1, .int o)] []) :
    ∀ (n : Nat) (v1 : Int32) (v2 : Int32), f_X12_cheeseDifference_L47 m_s n v1 v2 = some o → vW p l e { frames := 1, cells := 0, slots := 0, locals := 20 } s m args below meth c 3 D A F 0 0 Q (wX12 ad c9 m_undoable m_undoStart m_thrown m_inputLength m_position m_start m_token m_value m_letters m_code m_place m_outputLength m_s m_parsed m_tried m_remembered m_slots m_kept m_away m_input m_halfway m_output) 47 [(0, .ref (ad 0)), (1, .int v1), (2, .int v2)] [] := by
  intro n
  induction n with
  | zero =>
    intro v1 v2 hf
    rw [f_X12_cheeseDifference_L47] at hf
    cases hf
  | succ n ih =>
    intro v1 v2 hf
    rw [f_X12_cheeseDifference_L47] at hf
    refine v_iload_n X dX12_cheeseDifference_47 2 rfl rfl 48 rfl ?_
    refine v_aload_n X dX12_cheeseDifference_48 0 rfl rfl 49 rfl ?_
    refine v_get X (C := RX12) (T := TX12) (N := 22) (ci := 11) (v := _) dX12_cheeseDifference_49 k_X12_cheeseDifference_w12 0 rfl rfl 0 (by decide) k_X12_cheeseDifference_2 rfl rfl 52 rfl ?_
    refine v_iconst X dX12_cheeseDifference_52 ic_4 53 rfl ?_
    obtain ⟨x6, hx6, hf⟩ := bnd hf
    refine v_iald X dX12_cheeseDifference_53 1 0 rfl rfl hx6 54 rfl ?_
    refine v_icmp_ge X (tgt := 77) dX12_cheeseDifference_54 rfl 57 rfl hf (fun hf => ?_) (fun hf => ?_)
    · cases hf
      refine v_sub (lv' := [(1, .int v1)]) [1] rfl ?_
      exact K
    · refine v_iload_n X dX12_cheeseDifference_57 1 rfl rfl 58 rfl ?_
      refine v_aload_n X dX12_cheeseDifference_58 0 rfl rfl 59 rfl ?_
      refine v_get X (C := RX12) (T := TX12) (N := 22) (ci := 11) (v := _) dX12_cheeseDifference_59 k_X12_cheeseDifference_w12 0 rfl rfl 0 (by decide) k_X12_cheeseDifference_2 rfl rfl 62 rfl ?_
      refine v_iload_n X dX12_cheeseDifference_62 2 rfl rfl 63 rfl ?_
      obtain ⟨o7, ho7, hf⟩ := bnd hf
      refine v_callSi X (As := [.int v2]) (rest := [.ref (ad 1), .int v1]) (ws' := (wX12 ad c9 m_undoable m_undoStart m_thrown m_inputLength m_position m_start m_token m_value m_letters m_code m_place m_outputLength m_s m_parsed m_tried m_remembered m_slots m_kept m_away m_input m_halfway m_output)) (c_X12_ofUser l hG D c9 v2 ho7) 1 gX12_cheeseDifference_X12_ofUser rfl rfl rfl pd_X12_ofUser ⟨Nat.le_of_ble_eq_true rfl, Nat.le_of_ble_eq_true rfl⟩ rfl rfl (Nat.le_of_ble_eq_true rfl) ⟨Nat.zero_le _, Nat.zero_le _⟩ [] [0, 1, 2, 3, 4, 5, 6, 7, 8, 9, 10] [0, 1, 2, 3, 4, 5, 6, 7, 8, 9, 10] rfl rfl rfl rfl dX12_cheeseDifference_63 66 rfl ?_
      refine v_iconst X dX12_cheeseDifference_66 ic_4 67 rfl ?_
      refine v_iadd X dX12_cheeseDifference_67 68 rfl ?_
      obtain ⟨x8, hx8, hf⟩ := bnd hf
      refine v_iald X dX12_cheeseDifference_68 1 0 rfl rfl hx8 69 rfl ?_
      refine v_isub X dX12_cheeseDifference_69 70 rfl ?_
      refine v_istore_n X (lv' := [(1, .int (v1 - x8)), (0, .ref (ad 0)), (2, .int v2)]) dX12_cheeseDifference_70 rfl (by decide) rfl 71 rfl ?_
      refine v_iinc X (lv' := [(2, .int (v2 + 1)), (1, .int (v1 - x8)), (0, .ref (ad 0))]) dX12_cheeseDifference_71 2 rfl ic_1 (by decide) rfl 74 rfl ?_
      refine v_goto X (tgt := 47) dX12_cheeseDifference_74 rfl ?_
      refine v_sub (lv' := [(0, .ref (ad 0)), (1, .int (v1 - x8)), (2, .int (v2 + 1))]) [2, 1, 0] rfl ?_
      exact ih (v1 - x8) (v2 + 1) hf
set_option maxRecDepth 100000 in
set_option maxHeartbeats 4000000 in
theorem c_X12_cheeseDifference (l : Launch) {G : (Nat → Prop) → State → Heap → Prop} (hG : vG G) (D : va_G) (c9 : Nat → ClassId) (ad : Nat → Nat) (m_undoable : Int32) (m_undoStart : Int32) (m_thrown : Int32) (m_inputLength : Int32) (m_position : Int32) (m_start : Int32) (m_token : Int32) (m_value : Int32) (m_letters : Int32) (m_code : Int32) (m_place : Int32) (m_outputLength : Int32) (m_s : Nat → Int32) (m_parsed : Nat → Int32) (m_tried : Nat → Int32) (m_remembered : Nat → Int32) (m_slots : Nat → Int32) (m_kept : Nat → Int32) (m_away : Nat → Int32) (m_input : Nat → Int32) (m_halfway : Nat → Int32) (m_output : Nat → Int32)  {o : Int32 × Int32} (hf : f_X12_cheeseDifference m_thrown m_s = some o) : mI l yX12_cheeseDifference wsX12_cheeseDifference { frames := 1, cells := 0, slots := 0, locals := 20 } G D (tyA c9) [.ref (ad 0)] (wX12 ad c9 m_undoable m_undoStart m_thrown m_inputLength m_position m_start m_token m_value m_letters m_code m_place m_outputLength m_s m_parsed m_tried m_remembered m_slots m_kept m_away m_input m_halfway m_output) [] 0 0 o.1 (wX12 ad c9 m_undoable m_undoStart o.2 m_inputLength m_position m_start m_token m_value m_letters m_code m_place m_outputLength m_s m_parsed m_tried m_remembered m_slots m_kept m_away m_input m_halfway m_output) := by
  refine mI_of hG (cc := cX12_cheeseDifference) (maxL := 3) (ty := .int) (by decide) rfl (Nat.le_of_ble_eq_true rfl) ?_
  intro p e s m args below meth c A X
  have X : vX p s m args meth c cX12_cheeseDifference 3 (some .int) RX12 wsX12_cheeseDifference D (tyA c9) G A := X
  refine v_eq (lv2 := [(0, .ref (ad 0))]) rfl rfl rfl rfl ?_
  rw [f_X12_cheeseDifference] at hf
  refine v_aload_n X dX12_cheeseDifference_0 0 rfl rfl 1 rfl ?_
  refine v_iconst X dX12_cheeseDifference_1 ic_0 2 rfl ?_
  refine v_put X (C := RX12) (T := TX12) (N := 22) (ci := 11) (ty := tyX12 8) (ws' := (wX12 ad c9 m_undoable m_undoStart 0 m_inputLength m_position m_start m_token m_value m_letters m_code m_place m_outputLength m_s m_parsed m_tried m_remembered m_slots m_kept m_away m_input m_halfway m_output)) dX12_cheeseDifference_2 k_X12_cheeseDifference_w12 0 rfl rfl 8 (by decide) tyX12 tyX12_ok nmX12 k_X12_cheeseDifference_1 rfl rfl (tyX12_ok 8 (by decide)) rfl rfl (by decide) rfl 5 rfl ?_
  refine v_aload_n X dX12_cheeseDifference_5 0 rfl rfl 6 rfl ?_
  refine v_get X (C := RX12) (T := TX12) (N := 22) (ci := 11) (v := _) dX12_cheeseDifference_6 k_X12_cheeseDifference_w12 0 rfl rfl 0 (by decide) k_X12_cheeseDifference_2 rfl rfl 9 rfl ?_
  refine v_bipush X dX12_cheeseDifference_9 bp_9 11 rfl ?_
  obtain ⟨x1, hx1, hf⟩ := bnd hf
  refine v_iald X dX12_cheeseDifference_11 1 0 rfl rfl hx1 12 rfl ?_
  refine v_istore_n X (lv' := [(1, .int x1), (0, .ref (ad 0))]) dX12_cheeseDifference_12 rfl (by decide) rfl 13 rfl ?_
  refine v_iconst X dX12_cheeseDifference_13 ic_0 14 rfl ?_
  refine v_istore_n X (lv' := [(2, .int 0), (1, .int x1), (0, .ref (ad 0))]) dX12_cheeseDifference_14 rfl (by decide) rfl 15 rfl ?_
  obtain ⟨o5, ho5, hf⟩ := bnd hf
  refine v_sub (lv' := [(0, .ref (ad 0)), (1, .int x1), (2, .int 0)]) [2, 1, 0] rfl ?_
  refine l_X12_cheeseDifference_L15 l hG D c9 ad m_undoable m_undoStart 0 m_inputLength m_position m_start m_token m_value m_letters m_code m_place m_outputLength m_s m_parsed m_tried m_remembered m_slots m_kept m_away m_input m_halfway m_output X o5 ?_ 5000 x1 0 ho5
  refine v_iconst X dX12_cheeseDifference_45 ic_0 46 rfl ?_
  refine v_istore_n X (lv' := [(2, .int 0), (0, .ref (ad 0)), (1, .int o5)]) dX12_cheeseDifference_46 rfl (by decide) rfl 47 rfl ?_
  obtain ⟨o9, ho9, hf⟩ := bnd hf
  refine v_sub (lv' := [(0, .ref (ad 0)), (1, .int o5), (2, .int 0)]) [1, 2, 0] rfl ?_
  refine l_X12_cheeseDifference_L47 l hG D c9 ad m_undoable m_undoStart 0 m_inputLength m_position m_start m_token m_value m_letters m_code m_place m_outputLength m_s m_parsed m_tried m_remembered m_slots m_kept m_away m_input m_halfway m_output X o9 ?_ 5000 o5 0 ho9
  refine v_iload_n X dX12_cheeseDifference_77 0 rfl rfl 78 rfl ?_
  cases hf
  exact v_iret X (Nat.zero_le _) (Nat.zero_le _) dX12_cheeseDifference_78
theorem pd_X12_cheeseDifference : yX12_cheeseDifference.cls ≠ "java/lang/invoke/MethodHandle" ∧ yX12_cheeseDifference.cls ≠ "java/lang/invoke/VarHandle" ∧ (parseMethodDescriptor yX12_cheeseDifference.desc).map (fun d => d.parameters.length) = some 0 := by decide +kernel
theorem k_X12_lifeErrors_w12 : ∀ w ∈ u_ws RX12 TX12 22, w ∈ wsX12_lifeErrors := in_r _ [7, 8, 9, 10, 11, 12, 13, 14, 15, 16, 17, 18, 19, 20, 21, 22, 23, 24, 25, 26, 27, 28] rfl
theorem k_X12_lifeErrors_1 : Cond.fieldLink RX12 72 "TicketGateModel" "thrown" "I" ∈ wsX12_lifeErrors := List.mem_of_getElem? (i := 1) rfl
theorem k_X12_lifeErrors_2 : Cond.fieldLink RX12 7 "TicketGateModel" "s" "[I" ∈ wsX12_lifeErrors := List.mem_of_getElem? (i := 2) rfl
def f_X12_lifeErrors_L9 (m_s : Nat → Int32) : Nat → Int32 → Int32 → Option (Int32)
  | 0, _, _ => none
  | n + 1, v1, v2 =>
    (rd m_s 463 6).bind fun x1 =>
    if x1 ≤ v2 then (
      some (v1))
    else (
      (f_X12_ofTicket v2).bind fun o2 =>
      (rd m_s 463 (o2 + 5)).bind fun x3 =>
      (rd m_s 463 (o2 + 6)).bind fun x4 =>
      Option.bind (if x4 ≤ x3 then (
        some (1))
      else (
        (rd m_s 463 (o2 + 6)).bind fun x6 =>
        (rd m_s 463 (o2 + 7)).bind fun x7 =>
        if x6 ≤ x7 then (
          some (0))
        else (
          some (1))) : Option (Int32)) fun j5 =>
      f_X12_lifeErrors_L9 m_s n  (v1 + j5) (v2 + 1))
def f_X12_lifeErrors (m_thrown : Int32) (m_s : Nat → Int32) : Option (Int32 × Int32) :=
  (f_X12_lifeErrors_L9 m_s 5000 0 0).bind fun o8 =>
  some (o8, 0)
set_option maxRecDepth 100000 in
set_option maxHeartbeats 4000000 in
theorem l_X12_lifeErrors_L9 (l : Launch) {G : (Nat → Prop) → State → Heap → Prop} (hG : vG G) (D : va_G) (c9 : Nat → ClassId) (ad : Nat → Nat) (m_undoable : Int32) (m_undoStart : Int32) (m_thrown : Int32) (m_inputLength : Int32) (m_position : Int32) (m_start : Int32) (m_token : Int32) (m_value : Int32) (m_letters : Int32) (m_code : Int32) (m_place : Int32) (m_outputLength : Int32) (m_s : Nat → Int32) (m_parsed : Nat → Int32) (m_tried : Nat → Int32) (m_remembered : Nat → Int32) (m_slots : Nat → Int32) (m_kept : Nat → Int32) (m_away : Nat → Int32) (m_input : Nat → Int32) (m_halfway : Nat → Int32) (m_output : Nat → Int32) {p : Program} {e : Env} {s : State} {m : MethodId} {args : Array Value} {below : List Frame} {meth : Method} {c : Code} {A : Nat → Prop} {F : va_W} (X : vX p s m args meth c cX12_lifeErrors 4 (some .int) RX12 wsX12_lifeErrors D (tyA c9) G A) {Q : State → Prop} (o : Int32) (K : vW p l e { frames := 1, cells := 0, slots := 0, locals := 20 } s m args below meth c 4 D A F 0 0 Q (wX12 ad c9 m_undoable m_undoStart m_thrown m_inputLength m_position m_start m_token m_value m_letters m_code m_place m_outputLength m_s m_parsed m_tried m_remembered m_slots m_kept m_away m_input m_halfway m_output) 80 [(1, .int o)] []) :
    ∀ (n : Nat) (v1 : Int32) (v2 : Int32), f_X12_lifeErrors_L9 m_s n v1 v2 = some o → vW p l e { frames := 1, cells := 0, slots := 0, locals := 20 } s m args below meth c 4 D A F 0 0 Q (wX12 ad c9 m_undoable m_undoStart m_thrown m_inputLength m_position m_start m_token m_value m_letters m_code m_place m_outputLength m_s m_parsed m_tried m_remembered m_slots m_kept m_away m_input m_halfway m_output) 9 [(0, .ref (ad 0)), (1, .int v1), (2, .int v2)] [] := by
  intro n
  induction n with
  | zero =>
    intro v1 v2 hf
    rw [f_X12_lifeErrors_L9] at hf
    cases hf
  | succ n ih =>
    intro v1 v2 hf
    rw [f_X12_lifeErrors_L9] at hf
    refine v_iload_n X dX12_lifeErrors_9 2 rfl rfl 10 rfl ?_
    refine v_aload_n X dX12_lifeErrors_10 0 rfl rfl 11 rfl ?_
    refine v_get X (C := RX12) (T := TX12) (N := 22) (ci := 11) (v := _) dX12_lifeErrors_11 k_X12_lifeErrors_w12 0 rfl rfl 0 (by decide) k_X12_lifeErrors_2 rfl rfl 14 rfl ?_
    refine v_bipush X dX12_lifeErrors_14 bp_6 16 rfl ?_
    obtain ⟨x1, hx1, hf⟩ := bnd hf
    refine v_iald X dX12_lifeErrors_16 1 0 rfl rfl hx1 17 rfl ?_
    refine v_icmp_ge X (tgt := 80) dX12_lifeErrors_17 rfl 20 rfl hf (fun hf => ?_) (fun hf => ?_)
    · cases hf
      refine v_sub (lv' := [(1, .int v1)]) [1] rfl ?_
      exact K
    · refine v_iload_n X dX12_lifeErrors_20 2 rfl rfl 21 rfl ?_
      obtain ⟨o2, ho2, hf⟩ := bnd hf
      refine v_callSi X (As := [.int v2]) (rest := []) (ws' := (wX12 ad c9 m_undoable m_undoStart m_thrown m_inputLength m_position m_start m_token m_value m_letters m_code m_place m_outputLength m_s m_parsed m_tried m_remembered m_slots m_kept m_away m_input m_halfway m_output)) (c_X12_ofTicket l hG D c9 v2 ho2) 1 gX12_lifeErrors_X12_ofTicket rfl rfl rfl pd_X12_ofTicket ⟨Nat.le_of_ble_eq_true rfl, Nat.le_of_ble_eq_true rfl⟩ rfl rfl (Nat.le_of_ble_eq_true rfl) ⟨Nat.zero_le _, Nat.zero_le _⟩ [] [0, 1, 2, 3, 4, 5, 6, 7, 8, 9, 10] [0, 1, 2, 3, 4, 5, 6, 7, 8, 9, 10] rfl rfl rfl rfl dX12_lifeErrors_21 24 rfl ?_
      refine v_istore_n X (lv' := [(3, .int o2), (0, .ref (ad 0)), (1, .int v1), (2, .int v2)]) dX12_lifeErrors_24 rfl (by decide) rfl 25 rfl ?_
      refine v_iload_n X dX12_lifeErrors_25 2 rfl rfl 26 rfl ?_
      refine v_aload_n X dX12_lifeErrors_26 1 rfl rfl 27 rfl ?_
      refine v_get X (C := RX12) (T := TX12) (N := 22) (ci := 11) (v := _) dX12_lifeErrors_27 k_X12_lifeErrors_w12 0 rfl rfl 0 (by decide) k_X12_lifeErrors_2 rfl rfl 30 rfl ?_
      refine v_iload_n X dX12_lifeErrors_30 0 rfl rfl 31 rfl ?_
      refine v_iconst X dX12_lifeErrors_31 ic_5 32 rfl ?_
      refine v_iadd X dX12_lifeErrors_32 33 rfl ?_
      obtain ⟨x3, hx3, hf⟩ := bnd hf
      refine v_iald X dX12_lifeErrors_33 1 0 rfl rfl hx3 34 rfl ?_
      refine v_aload_n X dX12_lifeErrors_34 1 rfl rfl 35 rfl ?_
      refine v_get X (C := RX12) (T := TX12) (N := 22) (ci := 11) (v := _) dX12_lifeErrors_35 k_X12_lifeErrors_w12 0 rfl rfl 0 (by decide) k_X12_lifeErrors_2 rfl rfl 38 rfl ?_
      refine v_iload_n X dX12_lifeErrors_38 0 rfl rfl 39 rfl ?_
      refine v_bipush X dX12_lifeErrors_39 bp_6 41 rfl ?_
      refine v_iadd X dX12_lifeErrors_41 42 rfl ?_
      obtain ⟨x4, hx4, hf⟩ := bnd hf
      refine v_iald X dX12_lifeErrors_42 1 0 rfl rfl hx4 43 rfl ?_
      obtain ⟨j5, hj5, hf⟩ := bnd hf
      have Jj5 : vW p l e { frames := 1, cells := 0, slots := 0, locals := 20 } s m args below meth c 4 D A F 0 0 Q (wX12 ad c9 m_undoable m_undoStart m_thrown m_inputLength m_position m_start m_token m_value m_letters m_code m_place m_outputLength m_s m_parsed m_tried m_remembered m_slots m_kept m_away m_input m_halfway m_output) 72 [(0, .ref (ad 0)), (2, .int v2)] [.int j5, .int v1] := by
        refine v_iadd X dX12_lifeErrors_72 73 rfl ?_
        refine v_istore_n X (lv' := [(1, .int (v1 + j5)), (0, .ref (ad 0)), (2, .int v2)]) dX12_lifeErrors_73 rfl (by decide) rfl 74 rfl ?_
        refine v_iinc X (lv' := [(2, .int (v2 + 1)), (1, .int (v1 + j5)), (0, .ref (ad 0))]) dX12_lifeErrors_74 2 rfl ic_1 (by decide) rfl 77 rfl ?_
        refine v_goto X (tgt := 9) dX12_lifeErrors_77 rfl ?_
        refine v_sub (lv' := [(0, .ref (ad 0)), (1, .int (v1 + j5)), (2, .int (v2 + 1))]) [2, 1, 0] rfl ?_
        exact ih (v1 + j5) (v2 + 1) hf
      clear hf
      refine v_icmp_ge X (tgt := 67) dX12_lifeErrors_43 rfl 46 rfl hj5 (fun hf => ?_) (fun hf => ?_)
      · refine v_iconst X dX12_lifeErrors_67 ic_1 68 rfl ?_
        refine v_goto X (tgt := 72) dX12_lifeErrors_68 rfl ?_
        cases hf
        refine v_sub (lv' := [(0, .ref (ad 0)), (2, .int v2)]) [1, 3] rfl ?_
        exact Jj5
      · refine v_aload_n X dX12_lifeErrors_46 1 rfl rfl 47 rfl ?_
        refine v_get X (C := RX12) (T := TX12) (N := 22) (ci := 11) (v := _) dX12_lifeErrors_47 k_X12_lifeErrors_w12 0 rfl rfl 0 (by decide) k_X12_lifeErrors_2 rfl rfl 50 rfl ?_
        refine v_iload_n X dX12_lifeErrors_50 0 rfl rfl 51 rfl ?_
        refine v_bipush X dX12_lifeErrors_51 bp_6 53 rfl ?_
        refine v_iadd X dX12_lifeErrors_53 54 rfl ?_
        obtain ⟨x6, hx6, hf⟩ := bnd hf
        refine v_iald X dX12_lifeErrors_54 1 0 rfl rfl hx6 55 rfl ?_
        refine v_aload_n X dX12_lifeErrors_55 1 rfl rfl 56 rfl ?_
        refine v_get X (C := RX12) (T := TX12) (N := 22) (ci := 11) (v := _) dX12_lifeErrors_56 k_X12_lifeErrors_w12 0 rfl rfl 0 (by decide) k_X12_lifeErrors_2 rfl rfl 59 rfl ?_
        refine v_iload_n X dX12_lifeErrors_59 0 rfl rfl 60 rfl ?_
        refine v_bipush X dX12_lifeErrors_60 bp_7 62 rfl ?_
        refine v_iadd X dX12_lifeErrors_62 63 rfl ?_
        obtain ⟨x7, hx7, hf⟩ := bnd hf
        refine v_iald X dX12_lifeErrors_63 1 0 rfl rfl hx7 64 rfl ?_
        refine v_icmp_le X (tgt := 71) dX12_lifeErrors_64 rfl 67 rfl hf (fun hf => ?_) (fun hf => ?_)
        · refine v_iconst X dX12_lifeErrors_71 ic_0 72 rfl ?_
          cases hf
          refine v_sub (lv' := [(0, .ref (ad 0)), (2, .int v2)]) [1, 3] rfl ?_
          exact Jj5
        · refine v_iconst X dX12_lifeErrors_67 ic_1 68 rfl ?_
          refine v_goto X (tgt := 72) dX12_lifeErrors_68 rfl ?_
          cases hf
          refine v_sub (lv' := [(0, .ref (ad 0)), (2, .int v2)]) [1, 3] rfl ?_
          exact Jj5
set_option maxRecDepth 100000 in
set_option maxHeartbeats 4000000 in
theorem c_X12_lifeErrors (l : Launch) {G : (Nat → Prop) → State → Heap → Prop} (hG : vG G) (D : va_G) (c9 : Nat → ClassId) (ad : Nat → Nat) (m_undoable : Int32) (m_undoStart : Int32) (m_thrown : Int32) (m_inputLength : Int32) (m_position : Int32) (m_start : Int32) (m_token : Int32) (m_value : Int32) (m_letters : Int32) (m_code : Int32) (m_place : Int32) (m_outputLength : Int32) (m_s : Nat → Int32) (m_parsed : Nat → Int32) (m_tried : Nat → Int32) (m_remembered : Nat → Int32) (m_slots : Nat → Int32) (m_kept : Nat → Int32) (m_away : Nat → Int32) (m_input : Nat → Int32) (m_halfway : Nat → Int32) (m_output : Nat → Int32)  {o : Int32 × Int32} (hf : f_X12_lifeErrors m_thrown m_s = some o) : mI l yX12_lifeErrors wsX12_lifeErrors { frames := 1, cells := 0, slots := 0, locals := 20 } G D (tyA c9) [.ref (ad 0)] (wX12 ad c9 m_undoable m_undoStart m_thrown m_inputLength m_position m_start m_token m_value m_letters m_code m_place m_outputLength m_s m_parsed m_tried m_remembered m_slots m_kept m_away m_input m_halfway m_output) [] 0 0 o.1 (wX12 ad c9 m_undoable m_undoStart o.2 m_inputLength m_position m_start m_token m_value m_letters m_code m_place m_outputLength m_s m_parsed m_tried m_remembered m_slots m_kept m_away m_input m_halfway m_output) := by
  refine mI_of hG (cc := cX12_lifeErrors) (maxL := 4) (ty := .int) (by decide) rfl (Nat.le_of_ble_eq_true rfl) ?_
  intro p e s m args below meth c A X
  have X : vX p s m args meth c cX12_lifeErrors 4 (some .int) RX12 wsX12_lifeErrors D (tyA c9) G A := X
  refine v_eq (lv2 := [(0, .ref (ad 0))]) rfl rfl rfl rfl ?_
  rw [f_X12_lifeErrors] at hf
  refine v_aload_n X dX12_lifeErrors_0 0 rfl rfl 1 rfl ?_
  refine v_iconst X dX12_lifeErrors_1 ic_0 2 rfl ?_
  refine v_put X (C := RX12) (T := TX12) (N := 22) (ci := 11) (ty := tyX12 8) (ws' := (wX12 ad c9 m_undoable m_undoStart 0 m_inputLength m_position m_start m_token m_value m_letters m_code m_place m_outputLength m_s m_parsed m_tried m_remembered m_slots m_kept m_away m_input m_halfway m_output)) dX12_lifeErrors_2 k_X12_lifeErrors_w12 0 rfl rfl 8 (by decide) tyX12 tyX12_ok nmX12 k_X12_lifeErrors_1 rfl rfl (tyX12_ok 8 (by decide)) rfl rfl (by decide) rfl 5 rfl ?_
  refine v_iconst X dX12_lifeErrors_5 ic_0 6 rfl ?_
  refine v_istore_n X (lv' := [(1, .int 0), (0, .ref (ad 0))]) dX12_lifeErrors_6 rfl (by decide) rfl 7 rfl ?_
  refine v_iconst X dX12_lifeErrors_7 ic_0 8 rfl ?_
  refine v_istore_n X (lv' := [(2, .int 0), (1, .int 0), (0, .ref (ad 0))]) dX12_lifeErrors_8 rfl (by decide) rfl 9 rfl ?_
  obtain ⟨o8, ho8, hf⟩ := bnd hf
  refine v_sub (lv' := [(0, .ref (ad 0)), (1, .int 0), (2, .int 0)]) [2, 1, 0] rfl ?_
  refine l_X12_lifeErrors_L9 l hG D c9 ad m_undoable m_undoStart 0 m_inputLength m_position m_start m_token m_value m_letters m_code m_place m_outputLength m_s m_parsed m_tried m_remembered m_slots m_kept m_away m_input m_halfway m_output X o8 ?_ 5000 0 0 ho8
  refine v_iload_n X dX12_lifeErrors_80 0 rfl rfl 81 rfl ?_
  cases hf
  exact v_iret X (Nat.zero_le _) (Nat.zero_le _) dX12_lifeErrors_81
theorem pd_X12_lifeErrors : yX12_lifeErrors.cls ≠ "java/lang/invoke/MethodHandle" ∧ yX12_lifeErrors.cls ≠ "java/lang/invoke/VarHandle" ∧ (parseMethodDescriptor yX12_lifeErrors.desc).map (fun d => d.parameters.length) = some 0 := by decide +kernel
theorem k_X12_goHalfway_w12 : ∀ w ∈ u_ws RX12 TX12 22, w ∈ wsX12_goHalfway := in_r _ [10, 11, 12, 13, 14, 15, 16, 17, 18, 19, 20, 21, 22, 23, 24, 25, 26, 27, 28, 29, 30, 31] rfl
theorem k_X12_goHalfway_1 : Cond.fieldLink RX12 7 "TicketGateModel" "s" "[I" ∈ wsX12_goHalfway := List.mem_of_getElem? (i := 1) rfl
theorem k_X12_goHalfway_2 : Cond.fieldLink RX12 39 "TicketGateModel" "halfway" "[I" ∈ wsX12_goHalfway := List.mem_of_getElem? (i := 2) rfl
def f_X12_goHalfway_L14 (m_s : Nat → Int32) (v1 : Int32) : Nat → (Nat → Int32) → Int32 → Option ((Nat → Int32))
  | 0, _, _ => none
  | n + 1, m_halfway, v2 =>
    (rd m_s 463 3).bind fun x2 =>
    if x2 ≤ v2 then (
      some (m_halfway))
    else (
      if v1 = v2 then (
        (wr m_halfway 25 ((5 * v1) + v2) 0).bind fun g6 =>
        f_X12_goHalfway_L14 m_s v1 n g6 (v2 + 1))
      else (
        (f_X12_trusted m_s v1 v2).bind fun o3 =>
        if o3 = 0 then (
          (wr m_halfway 25 ((5 * v1) + v2) 99).bind fun g4 =>
          f_X12_goHalfway_L14 m_s v1 n g4 (v2 + 1))
        else (
          (wr m_halfway 25 ((5 * v1) + v2) 1).bind fun g5 =>
          f_X12_goHalfway_L14 m_s v1 n g5 (v2 + 1))))
def f_X12_goHalfway_L2 (m_s : Nat → Int32) : Nat → (Nat → Int32) → Int32 → Option ((Nat → Int32))
  | 0, _, _ => none
  | n + 1, m_halfway, v1 =>
    (rd m_s 463 3).bind fun x1 =>
    if x1 ≤ v1 then (
      some (m_halfway))
    else (
      (f_X12_goHalfway_L14 m_s v1 5000 m_halfway 0).bind fun o7 =>
      f_X12_goHalfway_L2 m_s n o7 (v1 + 1))
def f_X12_goHalfway_L99 (m_s : Nat → Int32) (v1 : Int32) (v2 : Int32) : Nat → (Nat → Int32) → Int32 → Option ((Nat → Int32))
  | 0, _, _ => none
  | n + 1, m_halfway, v3 =>
    (rd m_s 463 3).bind fun x11 =>
    if x11 ≤ v3 then (
      some (m_halfway))
    else (
      (rd m_halfway 25 ((5 * v2) + v3)).bind fun x12 =>
      (rd m_halfway 25 ((5 * v2) + v1)).bind fun x13 =>
      (rd m_halfway 25 ((5 * v1) + v3)).bind fun x14 =>
      (f_X12_lesser x12 (x13 + x14)).bind fun o15 =>
      (wr m_halfway 25 ((5 * v2) + v3) o15).bind fun g16 =>
      f_X12_goHalfway_L99 m_s v1 v2 n g16 (v3 + 1))
def f_X12_goHalfway_L87 (m_s : Nat → Int32) (v1 : Int32) : Nat → (Nat → Int32) → Int32 → Option ((Nat → Int32))
  | 0, _, _ => none
  | n + 1, m_halfway, v2 =>
    (rd m_s 463 3).bind fun x10 =>
    if x10 ≤ v2 then (
      some (m_halfway))
    else (
      (f_X12_goHalfway_L99 m_s v1 v2 5000 m_halfway 0).bind fun o17 =>
      f_X12_goHalfway_L87 m_s v1 n o17 (v2 + 1))
def f_X12_goHalfway_L75 (m_s : Nat → Int32) : Nat → (Nat → Int32) → Int32 → Option ((Nat → Int32))
  | 0, _, _ => none
  | n + 1, m_halfway, v1 =>
    (rd m_s 463 3).bind fun x9 =>
    if x9 ≤ v1 then (
      some (m_halfway))
    else (
      (f_X12_goHalfway_L87 m_s v1 5000 m_halfway 0).bind fun o18 =>
      f_X12_goHalfway_L75 m_s n o18 (v1 + 1))
def f_X12_goHalfway (m_s : Nat → Int32) (m_halfway : Nat → Int32) : Option ((Nat → Int32)) :=
  (f_X12_goHalfway_L2 m_s 5000 m_halfway 0).bind fun o8 =>
  (f_X12_goHalfway_L75 m_s 5000 o8 0).bind fun o19 =>
  some (o19)
set_option maxRecDepth 100000 in
set_option maxHeartbeats 4000000 in
theorem l_X12_goHalfway_L14 (l : Launch) {G : (Nat → Prop) → State → Heap → Prop} (hG : vG G) (D : va_G) (c9 : Nat → ClassId) (ad : Nat → Nat) (m_undoable : Int32) (m_undoStart : Int32) (m_thrown : Int32) (m_inputLength : Int32) (m_position : Int32) (m_start : Int32) (m_token : Int32) (m_value : Int32) (m_letters : Int32) (m_code : Int32) (m_place : Int32) (m_outputLength : Int32) (m_s : Nat → Int32) (m_parsed : Nat → Int32) (m_tried : Nat → Int32) (m_remembered : Nat → Int32) (m_slots : Nat → Int32) (m_kept : Nat → Int32) (m_away : Nat → Int32) (m_input : Nat → Int32) (m_output : Nat → Int32) (v1 : Int32) {p : Program} {e : Env} {s : State} {m : MethodId} {args : Array Value} {below : List Frame} {meth : Method} {c : Code} {A : Nat → Prop} {F : va_W} (X : vX p s m args meth c cX12_goHalfway 4 none RX12 wsX12_goHalfway D (tyA c9) G A) {Q : State → Prop} (o : (Nat → Int32)) (K : vW p l e { frames := 1, cells := 0, slots := 0, locals := 22 } s m args below meth c 4 D A F 0 0 Q (wX12 ad c9 m_undoable m_undoStart m_thrown m_inputLength m_position m_start m_token m_value m_letters m_code m_place m_outputLength m_s m_parsed m_tried m_remembered m_slots m_kept m_away m_input o m_output) 67 [(0, .ref (ad 0)), (1, .int v1)] []) :
    ∀ (n : Nat) (m_halfway : Nat → Int32) (v2 : Int32), f_X12_goHalfway_L14 m_s v1 n m_halfway v2 = some o → vW p l e { frames := 1, cells := 0, slots := 0, locals := 22 } s m args below meth c 4 D A F 0 0 Q (wX12 ad c9 m_undoable m_undoStart m_thrown m_inputLength m_position m_start m_token m_value m_letters m_code m_place m_outputLength m_s m_parsed m_tried m_remembered m_slots m_kept m_away m_input m_halfway m_output) 14 [(0, .ref (ad 0)), (1, .int v1), (2, .int v2)] [] := by
  intro n
  induction n with
  | zero =>
    intro m_halfway v2 hf
    rw [f_X12_goHalfway_L14] at hf
    cases hf
  | succ n ih =>
    intro m_halfway v2 hf
    rw [f_X12_goHalfway_L14] at hf
    refine v_iload_n X dX12_goHalfway_14 2 rfl rfl 15 rfl ?_
    refine v_aload_n X dX12_goHalfway_15 0 rfl rfl 16 rfl ?_
    refine v_get X (C := RX12) (T := TX12) (N := 22) (ci := 11) (v := _) dX12_goHalfway_16 k_X12_goHalfway_w12 0 rfl rfl 0 (by decide) k_X12_goHalfway_1 rfl rfl 19 rfl ?_
    refine v_iconst X dX12_goHalfway_19 ic_3 20 rfl ?_
    obtain ⟨x2, hx2, hf⟩ := bnd hf
    refine v_iald X dX12_goHalfway_20 1 0 rfl rfl hx2 21 rfl ?_
    refine v_icmp_ge X (tgt := 67) dX12_goHalfway_21 rfl 24 rfl hf (fun hf => ?_) (fun hf => ?_)
    · cases hf
      refine v_sub (lv' := [(0, .ref (ad 0)), (1, .int v1)]) [0, 1] rfl ?_
      exact K
    · refine v_aload_n X dX12_goHalfway_24 0 rfl rfl 25 rfl ?_
      refine v_get X (C := RX12) (T := TX12) (N := 22) (ci := 11) (v := _) dX12_goHalfway_25 k_X12_goHalfway_w12 0 rfl rfl 19 (by decide) k_X12_goHalfway_2 rfl rfl 28 rfl ?_
      refine v_iconst X dX12_goHalfway_28 ic_5 29 rfl ?_
      refine v_iload_n X dX12_goHalfway_29 1 rfl rfl 30 rfl ?_
      refine v_imul X dX12_goHalfway_30 31 rfl ?_
      refine v_iload_n X dX12_goHalfway_31 2 rfl rfl 32 rfl ?_
      refine v_iadd X dX12_goHalfway_32 33 rfl ?_
      refine v_iload_n X dX12_goHalfway_33 1 rfl rfl 34 rfl ?_
      refine v_iload_n X dX12_goHalfway_34 2 rfl rfl 35 rfl ?_
      refine v_icmp_ne X (tgt := 42) dX12_goHalfway_35 rfl 38 rfl hf (fun hf => ?_) (fun hf => ?_)
      · refine v_aload_n X dX12_goHalfway_42 0 rfl rfl 43 rfl ?_
        refine v_get X (C := RX12) (T := TX12) (N := 22) (ci := 11) (v := _) dX12_goHalfway_43 k_X12_goHalfway_w12 0 rfl rfl 0 (by decide) k_X12_goHalfway_1 rfl rfl 46 rfl ?_
        refine v_iload_n X dX12_goHalfway_46 1 rfl rfl 47 rfl ?_
        refine v_iload_n X dX12_goHalfway_47 2 rfl rfl 48 rfl ?_
        obtain ⟨o3, ho3, hf⟩ := bnd hf
        refine v_callSi X (As := [.ref (ad 1), .int v1, .int v2]) (rest := [.int ((5 * v1) + v2), .ref (ad 9)]) (ws' := (wX12 ad c9 m_undoable m_undoStart m_thrown m_inputLength m_position m_start m_token m_value m_letters m_code m_place m_outputLength m_s m_parsed m_tried m_remembered m_slots m_kept m_away m_input m_halfway m_output)) (c_X12_trusted l hG D c9 (ad 1) m_s v1 v2 ho3) 3 gX12_goHalfway_X12_trusted rfl rfl rfl pd_X12_trusted ⟨Nat.le_of_ble_eq_true rfl, Nat.le_of_ble_eq_true rfl⟩ rfl rfl (Nat.le_of_ble_eq_true rfl) ⟨Nat.zero_le _, Nat.zero_le _⟩ [1] [0, 2, 3, 4, 5, 6, 7, 8, 9, 10] [0, 10, 1, 2, 3, 4, 5, 6, 7, 8, 9] rfl rfl rfl rfl dX12_goHalfway_48 51 rfl ?_
        refine v_if_eq X (tgt := 58) dX12_goHalfway_51 rfl 54 rfl hf (fun hf => ?_) (fun hf => ?_)
        · refine v_bipush X dX12_goHalfway_58 bp_99 60 rfl ?_
          obtain ⟨g4, hg4, hf⟩ := bnd hf
          refine v_iast X (ws' := (wX12 ad c9 m_undoable m_undoStart m_thrown m_inputLength m_position m_start m_token m_value m_letters m_code m_place m_outputLength m_s m_parsed m_tried m_remembered m_slots m_kept m_away m_input g4 m_output)) dX12_goHalfway_60 9 0 rfl rfl hg4 rfl 61 rfl ?_
          refine v_iinc X (lv' := [(2, .int (v2 + 1)), (0, .ref (ad 0)), (1, .int v1)]) dX12_goHalfway_61 2 rfl ic_1 (by decide) rfl 64 rfl ?_
          refine v_goto X (tgt := 14) dX12_goHalfway_64 rfl ?_
          refine v_sub (lv' := [(0, .ref (ad 0)), (1, .int v1), (2, .int (v2 + 1))]) [1, 2, 0] rfl ?_
          exact ih g4 (v2 + 1) hf
        · refine v_iconst X dX12_goHalfway_54 ic_1 55 rfl ?_
          refine v_goto X (tgt := 60) dX12_goHalfway_55 rfl ?_
          obtain ⟨g5, hg5, hf⟩ := bnd hf
          refine v_iast X (ws' := (wX12 ad c9 m_undoable m_undoStart m_thrown m_inputLength m_position m_start m_token m_value m_letters m_code m_place m_outputLength m_s m_parsed m_tried m_remembered m_slots m_kept m_away m_input g5 m_output)) dX12_goHalfway_60 9 0 rfl rfl hg5 rfl 61 rfl ?_
          refine v_iinc X (lv' := [(2, .int (v2 + 1)), (0, .ref (ad 0)), (1, .int v1)]) dX12_goHalfway_61 2 rfl ic_1 (by decide) rfl 64 rfl ?_
          refine v_goto X (tgt := 14) dX12_goHalfway_64 rfl ?_
          refine v_sub (lv' := [(0, .ref (ad 0)), (1, .int v1), (2, .int (v2 + 1))]) [1, 2, 0] rfl ?_
          exact ih g5 (v2 + 1) hf
      · refine v_iconst X dX12_goHalfway_38 ic_0 39 rfl ?_
        refine v_goto X (tgt := 60) dX12_goHalfway_39 rfl ?_
        obtain ⟨g6, hg6, hf⟩ := bnd hf
        refine v_iast X (ws' := (wX12 ad c9 m_undoable m_undoStart m_thrown m_inputLength m_position m_start m_token m_value m_letters m_code m_place m_outputLength m_s m_parsed m_tried m_remembered m_slots m_kept m_away m_input g6 m_output)) dX12_goHalfway_60 9 0 rfl rfl hg6 rfl 61 rfl ?_
        refine v_iinc X (lv' := [(2, .int (v2 + 1)), (0, .ref (ad 0)), (1, .int v1)]) dX12_goHalfway_61 2 rfl ic_1 (by decide) rfl 64 rfl ?_
        refine v_goto X (tgt := 14) dX12_goHalfway_64 rfl ?_
        refine v_sub (lv' := [(0, .ref (ad 0)), (1, .int v1), (2, .int (v2 + 1))]) [1, 2, 0] rfl ?_
        exact ih g6 (v2 + 1) hf
set_option maxRecDepth 100000 in
set_option maxHeartbeats 4000000 in
theorem l_X12_goHalfway_L2 (l : Launch) {G : (Nat → Prop) → State → Heap → Prop} (hG : vG G) (D : va_G) (c9 : Nat → ClassId) (ad : Nat → Nat) (m_undoable : Int32) (m_undoStart : Int32) (m_thrown : Int32) (m_inputLength : Int32) (m_position : Int32) (m_start : Int32) (m_token : Int32) (m_value : Int32) (m_letters : Int32) (m_code : Int32) (m_place : Int32) (m_outputLength : Int32) (m_s : Nat → Int32) (m_parsed : Nat → Int32) (m_tried : Nat → Int32) (m_remembered : Nat → Int32) (m_slots : Nat → Int32) (m_kept : Nat → Int32) (m_away : Nat → Int32) (m_input : Nat → Int32) (m_output : Nat → Int32) {p : Program} {e : Env} {s : State} {m : MethodId} {args : Array Value} {below : List Frame} {meth : Method} {c : Code} {A : Nat → Prop} {F : va_W} (X : vX p s m args meth c cX12_goHalfway 4 none RX12 wsX12_goHalfway D (tyA c9) G A) {Q : State → Prop} (o : (Nat → Int32)) (K : vW p l e { frames := 1, cells := 0, slots := 0, locals := 22 } s m args below meth c 4 D A F 0 0 Q (wX12 ad c9 m_undoable m_undoStart m_thrown m_inputLength m_position m_start m_token m_value m_letters m_code m_place m_outputLength m_s m_parsed m_tried m_remembered m_slots m_kept m_away m_input o m_output) 73 [(0, .ref (ad 0))] []) :
    ∀ (n : Nat) (m_halfway : Nat → Int32) (v1 : Int32), f_X12_goHalfway_L2 m_s n m_halfway v1 = some o → vW p l e { frames := 1, cells := 0, slots := 0, locals := 22 } s m args below meth c 4 D A F 0 0 Q (wX12 ad c9 m_undoable m_undoStart m_thrown m_inputLength m_position m_start m_token m_value m_letters m_code m_place m_outputLength m_s m_parsed m_tried m_remembered m_slots m_kept m_away m_input m_halfway m_output) 2 [(0, .ref (ad 0)), (1, .int v1)] [] := by
  intro n
  induction n with
  | zero =>
    intro m_halfway v1 hf
    rw [f_X12_goHalfway_L2] at hf
    cases hf
  | succ n ih =>
    intro m_halfway v1 hf
    rw [f_X12_goHalfway_L2] at hf
    refine v_iload_n X dX12_goHalfway_2 1 rfl rfl 3 rfl ?_
    refine v_aload_n X dX12_goHalfway_3 0 rfl rfl 4 rfl ?_
    refine v_get X (C := RX12) (T := TX12) (N := 22) (ci := 11) (v := _) dX12_goHalfway_4 k_X12_goHalfway_w12 0 rfl rfl 0 (by decide) k_X12_goHalfway_1 rfl rfl 7 rfl ?_
    refine v_iconst X dX12_goHalfway_7 ic_3 8 rfl ?_
    obtain ⟨x1, hx1, hf⟩ := bnd hf
    refine v_iald X dX12_goHalfway_8 1 0 rfl rfl hx1 9 rfl ?_
    refine v_icmp_ge X (tgt := 73) dX12_goHalfway_9 rfl 12 rfl hf (fun hf => ?_) (fun hf => ?_)
    · cases hf
      refine v_sub (lv' := [(0, .ref (ad 0))]) [0] rfl ?_
      exact K
    · refine v_iconst X dX12_goHalfway_12 ic_0 13 rfl ?_
      refine v_istore_n X (lv' := [(2, .int 0), (0, .ref (ad 0)), (1, .int v1)]) dX12_goHalfway_13 rfl (by decide) rfl 14 rfl ?_
      obtain ⟨o7, ho7, hf⟩ := bnd hf
      refine v_sub (lv' := [(0, .ref (ad 0)), (1, .int v1), (2, .int 0)]) [1, 2, 0] rfl ?_
      refine l_X12_goHalfway_L14 l hG D c9 ad m_undoable m_undoStart m_thrown m_inputLength m_position m_start m_token m_value m_letters m_code m_place m_outputLength m_s m_parsed m_tried m_remembered m_slots m_kept m_away m_input m_output v1 X o7 ?_ 5000 m_halfway 0 ho7
      refine v_iinc X (lv' := [(1, .int (v1 + 1)), (0, .ref (ad 0))]) dX12_goHalfway_67 1 rfl ic_1 (by decide) rfl 70 rfl ?_
      refine v_goto X (tgt := 2) dX12_goHalfway_70 rfl ?_
      refine v_sub (lv' := [(0, .ref (ad 0)), (1, .int (v1 + 1))]) [1, 0] rfl ?_
      exact ih o7 (v1 + 1) hf
set_option maxRecDepth 100000 in
set_option maxHeartbeats 4000000 in
theorem l_X12_goHalfway_L99 (l : Launch) {G : (Nat → Prop) → State → Heap → Prop} (hG : vG G) (D : va_G) (c9 : Nat → ClassId) (ad : Nat → Nat) (m_undoable : Int32) (m_undoStart : Int32) (m_thrown : Int32) (m_inputLength : Int32) (m_position : Int32) (m_start : Int32) (m_token : Int32) (m_value : Int32) (m_letters : Int32) (m_code : Int32) (m_place : Int32) (m_outputLength : Int32) (m_s : Nat → Int32) (m_parsed : Nat → Int32) (m_tried : Nat → Int32) (m_remembered : Nat → Int32) (m_slots : Nat → Int32) (m_kept : Nat → Int32) (m_away : Nat → Int32) (m_input : Nat → Int32) (m_output : Nat → Int32) (v1 : Int32) (v2 : Int32) {p : Program} {e : Env} {s : State} {m : MethodId} {args : Array Value} {below : List Frame} {meth : Method} {c : Code} {A : Nat → Prop} {F : va_W} (X : vX p s m args meth c cX12_goHalfway 4 none RX12 wsX12_goHalfway D (tyA c9) G A) {Q : State → Prop} (o : (Nat → Int32)) (K : vW p l e { frames := 1, cells := 0, slots := 0, locals := 22 } s m args below meth c 4 D A F 0 0 Q (wX12 ad c9 m_undoable m_undoStart m_thrown m_inputLength m_position m_start m_token m_value m_letters m_code m_place m_outputLength m_s m_parsed m_tried m_remembered m_slots m_kept m_away m_input o m_output) 159 [(0, .ref (ad 0)), (1, .int v1), (2, .int v2)] []) :
    ∀ (n : Nat) (m_halfway : Nat → Int32) (v3 : Int32), f_X12_goHalfway_L99 m_s v1 v2 n m_halfway v3 = some o → vW p l e { frames := 1, cells := 0, slots := 0, locals := 22 } s m args below meth c 4 D A F 0 0 Q (wX12 ad c9 m_undoable m_undoStart m_thrown m_inputLength m_position m_start m_token m_value m_letters m_code m_place m_outputLength m_s m_parsed m_tried m_remembered m_slots m_kept m_away m_input m_halfway m_output) 99 [(0, .ref (ad 0)), (1, .int v1), (2, .int v2), (3, .int v3)] [] := by
  intro n
  induction n with
  | zero =>
    intro m_halfway v3 hf
    rw [f_X12_goHalfway_L99] at hf
    cases hf
  | succ n ih =>
    intro m_halfway v3 hf
    rw [f_X12_goHalfway_L99] at hf
    refine v_iload_n X dX12_goHalfway_99 3 rfl rfl 100 rfl ?_
    refine v_aload_n X dX12_goHalfway_100 0 rfl rfl 101 rfl ?_
    refine v_get X (C := RX12) (T := TX12) (N := 22) (ci := 11) (v := _) dX12_goHalfway_101 k_X12_goHalfway_w12 0 rfl rfl 0 (by decide) k_X12_goHalfway_1 rfl rfl 104 rfl ?_
    refine v_iconst X dX12_goHalfway_104 ic_3 105 rfl ?_
    obtain ⟨x11, hx11, hf⟩ := bnd hf
    refine v_iald X dX12_goHalfway_105 1 0 rfl rfl hx11 106 rfl ?_
    refine v_icmp_ge X (tgt := 159) dX12_goHalfway_106 rfl 109 rfl hf (fun hf => ?_) (fun hf => ?_)
    · cases hf
      refine v_sub (lv' := [(0, .ref (ad 0)), (1, .int v1), (2, .int v2)]) [0, 1, 2] rfl ?_
      exact K
    · refine v_aload_n X dX12_goHalfway_109 0 rfl rfl 110 rfl ?_
      refine v_get X (C := RX12) (T := TX12) (N := 22) (ci := 11) (v := _) dX12_goHalfway_110 k_X12_goHalfway_w12 0 rfl rfl 19 (by decide) k_X12_goHalfway_2 rfl rfl 113 rfl ?_
      refine v_iconst X dX12_goHalfway_113 ic_5 114 rfl ?_
      refine v_iload_n X dX12_goHalfway_114 2 rfl rfl 115 rfl ?_
      refine v_imul X dX12_goHalfway_115 116 rfl ?_
      refine v_iload_n X dX12_goHalfway_116 3 rfl rfl 117 rfl ?_
      refine v_iadd X dX12_goHalfway_117 118 rfl ?_
      refine v_aload_n X dX12_goHalfway_118 0 rfl rfl 119 rfl ?_
      refine v_get X (C := RX12) (T := TX12) (N := 22) (ci := 11) (v := _) dX12_goHalfway_119 k_X12_goHalfway_w12 0 rfl rfl 19 (by decide) k_X12_goHalfway_2 rfl rfl 122 rfl ?_
      refine v_iconst X dX12_goHalfway_122 ic_5 123 rfl ?_
      refine v_iload_n X dX12_goHalfway_123 2 rfl rfl 124 rfl ?_
      refine v_imul X dX12_goHalfway_124 125 rfl ?_
      refine v_iload_n X dX12_goHalfway_125 3 rfl rfl 126 rfl ?_
      refine v_iadd X dX12_goHalfway_126 127 rfl ?_
      obtain ⟨x12, hx12, hf⟩ := bnd hf
      refine v_iald X dX12_goHalfway_127 9 0 rfl rfl hx12 128 rfl ?_
      refine v_aload_n X dX12_goHalfway_128 0 rfl rfl 129 rfl ?_
      refine v_get X (C := RX12) (T := TX12) (N := 22) (ci := 11) (v := _) dX12_goHalfway_129 k_X12_goHalfway_w12 0 rfl rfl 19 (by decide) k_X12_goHalfway_2 rfl rfl 132 rfl ?_
      refine v_iconst X dX12_goHalfway_132 ic_5 133 rfl ?_
      refine v_iload_n X dX12_goHalfway_133 2 rfl rfl 134 rfl ?_
      refine v_imul X dX12_goHalfway_134 135 rfl ?_
      refine v_iload_n X dX12_goHalfway_135 1 rfl rfl 136 rfl ?_
      refine v_iadd X dX12_goHalfway_136 137 rfl ?_
      obtain ⟨x13, hx13, hf⟩ := bnd hf
      refine v_iald X dX12_goHalfway_137 9 0 rfl rfl hx13 138 rfl ?_
      refine v_aload_n X dX12_goHalfway_138 0 rfl rfl 139 rfl ?_
      refine v_get X (C := RX12) (T := TX12) (N := 22) (ci := 11) (v := _) dX12_goHalfway_139 k_X12_goHalfway_w12 0 rfl rfl 19 (by decide) k_X12_goHalfway_2 rfl rfl 142 rfl ?_
      refine v_iconst X dX12_goHalfway_142 ic_5 143 rfl ?_
      refine v_iload_n X dX12_goHalfway_143 1 rfl rfl 144 rfl ?_
      refine v_imul X dX12_goHalfway_144 145 rfl ?_
      refine v_iload_n X dX12_goHalfway_145 3 rfl rfl 146 rfl ?_
      refine v_iadd X dX12_goHalfway_146 147 rfl ?_
      obtain ⟨x14, hx14, hf⟩ := bnd hf
      refine v_iald X dX12_goHalfway_147 9 0 rfl rfl hx14 148 rfl ?_
      refine v_iadd X dX12_goHalfway_148 149 rfl ?_
      obtain ⟨o15, ho15, hf⟩ := bnd hf
      refine v_callSi X (As := [.int x12, .int (x13 + x14)]) (rest := [.int ((5 * v2) + v3), .ref (ad 9)]) (ws' := (wX12 ad c9 m_undoable m_undoStart m_thrown m_inputLength m_position m_start m_token m_value m_letters m_code m_place m_outputLength m_s m_parsed m_tried m_remembered m_slots m_kept m_away m_input m_halfway m_output)) (c_X12_lesser l hG D c9 x12 (x13 + x14) ho15) 2 gX12_goHalfway_X12_lesser rfl rfl rfl pd_X12_lesser ⟨Nat.le_of_ble_eq_true rfl, Nat.le_of_ble_eq_true rfl⟩ rfl rfl (Nat.le_of_ble_eq_true rfl) ⟨Nat.zero_le _, Nat.zero_le _⟩ [] [0, 1, 2, 3, 4, 5, 6, 7, 8, 9, 10] [0, 1, 2, 3, 4, 5, 6, 7, 8, 9, 10] rfl rfl rfl rfl dX12_goHalfway_149 152 rfl ?_
      obtain ⟨g16, hg16, hf⟩ := bnd hf
      refine v_iast X (ws' := (wX12 ad c9 m_undoable m_undoStart m_thrown m_inputLength m_position m_start m_token m_value m_letters m_code m_place m_outputLength m_s m_parsed m_tried m_remembered m_slots m_kept m_away m_input g16 m_output)) dX12_goHalfway_152 9 0 rfl rfl hg16 rfl 153 rfl ?_
      refine v_iinc X (lv' := [(3, .int (v3 + 1)), (0, .ref (ad 0)), (1, .int v1), (2, .int v2)]) dX12_goHalfway_153 3 rfl ic_1 (by decide) rfl 156 rfl ?_
      refine v_goto X (tgt := 99) dX12_goHalfway_156 rfl ?_
      refine v_sub (lv' := [(0, .ref (ad 0)), (1, .int v1), (2, .int v2), (3, .int (v3 + 1))]) [1, 2, 3, 0] rfl ?_
      exact ih g16 (v3 + 1) hf
set_option maxRecDepth 100000 in
set_option maxHeartbeats 4000000 in
theorem l_X12_goHalfway_L87 (l : Launch) {G : (Nat → Prop) → State → Heap → Prop} (hG : vG G) (D : va_G) (c9 : Nat → ClassId) (ad : Nat → Nat) (m_undoable : Int32) (m_undoStart : Int32) (m_thrown : Int32) (m_inputLength : Int32) (m_position : Int32) (m_start : Int32) (m_token : Int32) (m_value : Int32) (m_letters : Int32) (m_code : Int32) (m_place : Int32) (m_outputLength : Int32) (m_s : Nat → Int32) (m_parsed : Nat → Int32) (m_tried : Nat → Int32) (m_remembered : Nat → Int32) (m_slots : Nat → Int32) (m_kept : Nat → Int32) (m_away : Nat → Int32) (m_input : Nat → Int32) (m_output : Nat → Int32) (v1 : Int32) {p : Program} {e : Env} {s : State} {m : MethodId} {args : Array Value} {below : List Frame} {meth : Method} {c : Code} {A : Nat → Prop} {F : va_W} (X : vX p s m args meth c cX12_goHalfway 4 none RX12 wsX12_goHalfway D (tyA c9) G A) {Q : State → Prop} (o : (Nat → Int32)) (K : vW p l e { frames := 1, cells := 0, slots := 0, locals := 22 } s m args below meth c 4 D A F 0 0 Q (wX12 ad c9 m_undoable m_undoStart m_thrown m_inputLength m_position m_start m_token m_value m_letters m_code m_place m_outputLength m_s m_parsed m_tried m_remembered m_slots m_kept m_away m_input o m_output) 165 [(0, .ref (ad 0)), (1, .int v1)] []) :
    ∀ (n : Nat) (m_halfway : Nat → Int32) (v2 : Int32), f_X12_goHalfway_L87 m_s v1 n m_halfway v2 = some o → vW p l e { frames := 1, cells := 0, slots := 0, locals := 22 } s m args below meth c 4 D A F 0 0 Q (wX12 ad c9 m_undoable m_undoStart m_thrown m_inputLength m_position m_start m_token m_value m_letters m_code m_place m_outputLength m_s m_parsed m_tried m_remembered m_slots m_kept m_away m_input m_halfway m_output) 87 [(0, .ref (ad 0)), (1, .int v1), (2, .int v2)] [] := by
  intro n
  induction n with
  | zero =>
    intro m_halfway v2 hf
    rw [f_X12_goHalfway_L87] at hf
    cases hf
  | succ n ih =>
    intro m_halfway v2 hf
    rw [f_X12_goHalfway_L87] at hf
    refine v_iload_n X dX12_goHalfway_87 2 rfl rfl 88 rfl ?_
    refine v_aload_n X dX12_goHalfway_88 0 rfl rfl 89 rfl ?_
    refine v_get X (C := RX12) (T := TX12) (N := 22) (ci := 11) (v := _) dX12_goHalfway_89 k_X12_goHalfway_w12 0 rfl rfl 0 (by decide) k_X12_goHalfway_1 rfl rfl 92 rfl ?_
    refine v_iconst X dX12_goHalfway_92 ic_3 93 rfl ?_
    obtain ⟨x10, hx10, hf⟩ := bnd hf
    refine v_iald X dX12_goHalfway_93 1 0 rfl rfl hx10 94 rfl ?_
    refine v_icmp_ge X (tgt := 165) dX12_goHalfway_94 rfl 97 rfl hf (fun hf => ?_) (fun hf => ?_)
    · cases hf
      refine v_sub (lv' := [(0, .ref (ad 0)), (1, .int v1)]) [0, 1] rfl ?_
      exact K
    · refine v_iconst X dX12_goHalfway_97 ic_0 98 rfl ?_
      refine v_istore_n X (lv' := [(3, .int 0), (0, .ref (ad 0)), (1, .int v1), (2, .int v2)]) dX12_goHalfway_98 rfl (by decide) rfl 99 rfl ?_
      obtain ⟨o17, ho17, hf⟩ := bnd hf
      refine v_sub (lv' := [(0, .ref (ad 0)), (1, .int v1), (2, .int v2), (3, .int 0)]) [1, 2, 3, 0] rfl ?_
      refine l_X12_goHalfway_L99 l hG D c9 ad m_undoable m_undoStart m_thrown m_inputLength m_position m_start m_token m_value m_letters m_code m_place m_outputLength m_s m_parsed m_tried m_remembered m_slots m_kept m_away m_input m_output v1 v2 X o17 ?_ 5000 m_halfway 0 ho17
      refine v_iinc X (lv' := [(2, .int (v2 + 1)), (0, .ref (ad 0)), (1, .int v1)]) dX12_goHalfway_159 2 rfl ic_1 (by decide) rfl 162 rfl ?_
      refine v_goto X (tgt := 87) dX12_goHalfway_162 rfl ?_
      refine v_sub (lv' := [(0, .ref (ad 0)), (1, .int v1), (2, .int (v2 + 1))]) [1, 2, 0] rfl ?_
      exact ih o17 (v2 + 1) hf
set_option maxRecDepth 100000 in
set_option maxHeartbeats 4000000 in
theorem l_X12_goHalfway_L75 (l : Launch) {G : (Nat → Prop) → State → Heap → Prop} (hG : vG G) (D : va_G) (c9 : Nat → ClassId) (ad : Nat → Nat) (m_undoable : Int32) (m_undoStart : Int32) (m_thrown : Int32) (m_inputLength : Int32) (m_position : Int32) (m_start : Int32) (m_token : Int32) (m_value : Int32) (m_letters : Int32) (m_code : Int32) (m_place : Int32) (m_outputLength : Int32) (m_s : Nat → Int32) (m_parsed : Nat → Int32) (m_tried : Nat → Int32) (m_remembered : Nat → Int32) (m_slots : Nat → Int32) (m_kept : Nat → Int32) (m_away : Nat → Int32) (m_input : Nat → Int32) (m_output : Nat → Int32) {p : Program} {e : Env} {s : State} {m : MethodId} {args : Array Value} {below : List Frame} {meth : Method} {c : Code} {A : Nat → Prop} {F : va_W} (X : vX p s m args meth c cX12_goHalfway 4 none RX12 wsX12_goHalfway D (tyA c9) G A) {Q : State → Prop} (o : (Nat → Int32)) (K : vW p l e { frames := 1, cells := 0, slots := 0, locals := 22 } s m args below meth c 4 D A F 0 0 Q (wX12 ad c9 m_undoable m_undoStart m_thrown m_inputLength m_position m_start m_token m_value m_letters m_code m_place m_outputLength m_s m_parsed m_tried m_remembered m_slots m_kept m_away m_input o m_output) 171 [] []) :
    ∀ (n : Nat) (m_halfway : Nat → Int32) (v1 : Int32), f_X12_goHalfway_L75 m_s n m_halfway v1 = some o → vW p l e { frames := 1, cells := 0, slots := 0, locals := 22 } s m args below meth c 4 D A F 0 0 Q (wX12 ad c9 m_undoable m_undoStart m_thrown m_inputLength m_position m_start m_token m_value m_letters m_code m_place m_outputLength m_s m_parsed m_tried m_remembered m_slots m_kept m_away m_input m_halfway m_output) 75 [(0, .ref (ad 0)), (1, .int v1)] [] := by
  intro n
  induction n with
  | zero =>
    intro m_halfway v1 hf
    rw [f_X12_goHalfway_L75] at hf
    cases hf
  | succ n ih =>
    intro m_halfway v1 hf
    rw [f_X12_goHalfway_L75] at hf
    refine v_iload_n X dX12_goHalfway_75 1 rfl rfl 76 rfl ?_
    refine v_aload_n X dX12_goHalfway_76 0 rfl rfl 77 rfl ?_
    refine v_get X (C := RX12) (T := TX12) (N := 22) (ci := 11) (v := _) dX12_goHalfway_77 k_X12_goHalfway_w12 0 rfl rfl 0 (by decide) k_X12_goHalfway_1 rfl rfl 80 rfl ?_
    refine v_iconst X dX12_goHalfway_80 ic_3 81 rfl ?_
    obtain ⟨x9, hx9, hf⟩ := bnd hf
    refine v_iald X dX12_goHalfway_81 1 0 rfl rfl hx9 82 rfl ?_
    refine v_icmp_ge X (tgt := 171) dX12_goHalfway_82 rfl 85 rfl hf (fun hf => ?_) (fun hf => ?_)
    · cases hf
      refine v_sub (lv' := []) [] rfl ?_
      exact K
    · refine v_iconst X dX12_goHalfway_85 ic_0 86 rfl ?_
      refine v_istore_n X (lv' := [(2, .int 0), (0, .ref (ad 0)), (1, .int v1)]) dX12_goHalfway_86 rfl (by decide) rfl 87 rfl ?_
      obtain ⟨o18, ho18, hf⟩ := bnd hf
      refine v_sub (lv' := [(0, .ref (ad 0)), (1, .int v1), (2, .int 0)]) [1, 2, 0] rfl ?_
      refine l_X12_goHalfway_L87 l hG D c9 ad m_undoable m_undoStart m_thrown m_inputLength m_position m_start m_token m_value m_letters m_code m_place m_outputLength m_s m_parsed m_tried m_remembered m_slots m_kept m_away m_input m_output v1 X o18 ?_ 5000 m_halfway 0 ho18
      refine v_iinc X (lv' := [(1, .int (v1 + 1)), (0, .ref (ad 0))]) dX12_goHalfway_165 1 rfl ic_1 (by decide) rfl 168 rfl ?_
      refine v_goto X (tgt := 75) dX12_goHalfway_168 rfl ?_
      refine v_sub (lv' := [(0, .ref (ad 0)), (1, .int (v1 + 1))]) [1, 0] rfl ?_
      exact ih o18 (v1 + 1) hf
set_option maxRecDepth 100000 in
set_option maxHeartbeats 4000000 in
theorem c_X12_goHalfway (l : Launch) {G : (Nat → Prop) → State → Heap → Prop} (hG : vG G) (D : va_G) (c9 : Nat → ClassId) (ad : Nat → Nat) (m_undoable : Int32) (m_undoStart : Int32) (m_thrown : Int32) (m_inputLength : Int32) (m_position : Int32) (m_start : Int32) (m_token : Int32) (m_value : Int32) (m_letters : Int32) (m_code : Int32) (m_place : Int32) (m_outputLength : Int32) (m_s : Nat → Int32) (m_parsed : Nat → Int32) (m_tried : Nat → Int32) (m_remembered : Nat → Int32) (m_slots : Nat → Int32) (m_kept : Nat → Int32) (m_away : Nat → Int32) (m_input : Nat → Int32) (m_halfway : Nat → Int32) (m_output : Nat → Int32)  {o : (Nat → Int32)} (hf : f_X12_goHalfway m_s m_halfway = some o) : mV l yX12_goHalfway wsX12_goHalfway { frames := 1, cells := 0, slots := 0, locals := 22 } G D (tyA c9) [.ref (ad 0)] (wX12 ad c9 m_undoable m_undoStart m_thrown m_inputLength m_position m_start m_token m_value m_letters m_code m_place m_outputLength m_s m_parsed m_tried m_remembered m_slots m_kept m_away m_input m_halfway m_output) [] 0 0 (wX12 ad c9 m_undoable m_undoStart m_thrown m_inputLength m_position m_start m_token m_value m_letters m_code m_place m_outputLength m_s m_parsed m_tried m_remembered m_slots m_kept m_away m_input o m_output) := by
  refine mV_of hG (cc := cX12_goHalfway) (maxL := 4) (by decide) rfl (Nat.le_of_ble_eq_true rfl) ?_
  intro p e s m args below meth c A hnm X
  have X : vX p s m args meth c cX12_goHalfway 4 none RX12 wsX12_goHalfway D (tyA c9) G A := X
  refine v_eq (lv2 := [(0, .ref (ad 0))]) rfl rfl rfl rfl ?_
  rw [f_X12_goHalfway] at hf
  refine v_iconst X dX12_goHalfway_0 ic_0 1 rfl ?_
  refine v_istore_n X (lv' := [(1, .int 0), (0, .ref (ad 0))]) dX12_goHalfway_1 rfl (by decide) rfl 2 rfl ?_
  obtain ⟨o8, ho8, hf⟩ := bnd hf
  refine v_sub (lv' := [(0, .ref (ad 0)), (1, .int 0)]) [1, 0] rfl ?_
  refine l_X12_goHalfway_L2 l hG D c9 ad m_undoable m_undoStart m_thrown m_inputLength m_position m_start m_token m_value m_letters m_code m_place m_outputLength m_s m_parsed m_tried m_remembered m_slots m_kept m_away m_input m_output X o8 ?_ 5000 m_halfway 0 ho8
  refine v_iconst X dX12_goHalfway_73 ic_0 74 rfl ?_
  refine v_istore_n X (lv' := [(1, .int 0), (0, .ref (ad 0))]) dX12_goHalfway_74 rfl (by decide) rfl 75 rfl ?_
  obtain ⟨o19, ho19, hf⟩ := bnd hf
  refine v_sub (lv' := [(0, .ref (ad 0)), (1, .int 0)]) [1, 0] rfl ?_
  refine l_X12_goHalfway_L75 l hG D c9 ad m_undoable m_undoStart m_thrown m_inputLength m_position m_start m_token m_value m_letters m_code m_place m_outputLength m_s m_parsed m_tried m_remembered m_slots m_kept m_away m_input m_output X o19 ?_ 5000 o8 0 ho19
  cases hf
  exact v_vret X (Nat.zero_le _) (Nat.zero_le _) dX12_goHalfway_171
theorem pd_X12_goHalfway : yX12_goHalfway.cls ≠ "java/lang/invoke/MethodHandle" ∧ yX12_goHalfway.cls ≠ "java/lang/invoke/VarHandle" ∧ (parseMethodDescriptor yX12_goHalfway.desc).map (fun d => d.parameters.length) = some 0 := by decide +kernel
theorem k_X12_distanceErrors_w12 : ∀ w ∈ u_ws RX12 TX12 22, w ∈ wsX12_distanceErrors := in_r _ [24, 25, 26, 27, 28, 29, 30, 31, 32, 33, 34, 35, 36, 37, 38, 39, 40, 41, 42, 43, 44, 45] rfl
theorem k_X12_distanceErrors_1 : Cond.fieldLink RX12 72 "TicketGateModel" "thrown" "I" ∈ wsX12_distanceErrors := List.mem_of_getElem? (i := 1) rfl
theorem k_X12_distanceErrors_2 : Cond.fieldLink RX12 7 "TicketGateModel" "s" "[I" ∈ wsX12_distanceErrors := List.mem_of_getElem? (i := 2) rfl
theorem k_X12_distanceErrors_3 : Cond.fieldLink RX12 39 "TicketGateModel" "halfway" "[I" ∈ wsX12_distanceErrors := List.mem_of_getElem? (i := 3) rfl
def f_X12_distanceErrors_L25 (m_s : Nat → Int32) (m_halfway : Nat → Int32) (v2 : Int32) : Nat → (Nat → Int32) → Int32 → Int32 → Option ((Nat → Int32) × Int32)
  | 0, _, _, _ => none
  | n + 1, m_away, v1, v3 =>
    (rd m_s 463 3).bind fun x3 =>
    if x3 ≤ v3 then (
      some (m_away, v1))
    else (
      (rd m_halfway 25 ((5 * v2) + v3)).bind fun x4 =>
      (f_X12_far m_s m_away v2 v3).bind fun o5 =>
      Option.bind (if x4 < 99 then (
        some (x4))
      else (
        some ((-1))) : Option (Int32)) fun j6 =>
      Option.bind (if o5.1 = j6 then (
        some (0))
      else (
        some (1)) : Option (Int32)) fun j7 =>
      f_X12_distanceErrors_L25 m_s m_halfway v2 n o5.2 (v1 + j7) (v3 + 1))
def f_X12_distanceErrors_L13 (m_s : Nat → Int32) (m_halfway : Nat → Int32) : Nat → (Nat → Int32) → Int32 → Int32 → Option ((Nat → Int32) × Int32)
  | 0, _, _, _ => none
  | n + 1, m_away, v1, v2 =>
    (rd m_s 463 3).bind fun x2 =>
    if x2 ≤ v2 then (
      some (m_away, v1))
    else (
      (f_X12_distanceErrors_L25 m_s m_halfway v2 5000 m_away v1 0).bind fun o8 =>
      f_X12_distanceErrors_L13 m_s m_halfway n o8.1 o8.2 (v2 + 1))
def f_X12_distanceErrors (m_thrown : Int32) (m_s : Nat → Int32) (m_away : Nat → Int32) (m_halfway : Nat → Int32) : Option (Int32 × Int32 × (Nat → Int32) × (Nat → Int32)) :=
  (f_X12_goHalfway m_s m_halfway).bind fun o1 =>
  (f_X12_distanceErrors_L13 m_s o1 5000 m_away 0 0).bind fun o9 =>
  some (o9.2, 0, o9.1, o1)
set_option maxRecDepth 100000 in
set_option maxHeartbeats 4000000 in
theorem l_X12_distanceErrors_L25 (l : Launch) {G : (Nat → Prop) → State → Heap → Prop} (hG : vG G) (D : va_G) (c9 : Nat → ClassId) (ad : Nat → Nat) (m_undoable : Int32) (m_undoStart : Int32) (m_thrown : Int32) (m_inputLength : Int32) (m_position : Int32) (m_start : Int32) (m_token : Int32) (m_value : Int32) (m_letters : Int32) (m_code : Int32) (m_place : Int32) (m_outputLength : Int32) (m_s : Nat → Int32) (m_parsed : Nat → Int32) (m_tried : Nat → Int32) (m_remembered : Nat → Int32) (m_slots : Nat → Int32) (m_kept : Nat → Int32) (m_input : Nat → Int32) (m_halfway : Nat → Int32) (m_output : Nat → Int32) (v2 : Int32) {p : Program} {e : Env} {s : State} {m : MethodId} {args : Array Value} {below : List Frame} {meth : Method} {c : Code} {A : Nat → Prop} {F : va_W} (X : vX p s m args meth c cX12_distanceErrors 5 (some .int) RX12 wsX12_distanceErrors D (tyA c9) G A) {Q : State → Prop} (o : (Nat → Int32) × Int32) (K : vW p l e { frames := 3, cells := 0, slots := 0, locals := 70 } s m args below meth c 5 D A F 0 0 Q (wX12 ad c9 m_undoable m_undoStart m_thrown m_inputLength m_position m_start m_token m_value m_letters m_code m_place m_outputLength m_s m_parsed m_tried m_remembered m_slots m_kept o.1 m_input m_halfway m_output) 87 [(0, .ref (ad 0)), (1, .int o.2), (2, .int v2)] []) :
    ∀ (n : Nat) (m_away : Nat → Int32) (v1 : Int32) (v3 : Int32), f_X12_distanceErrors_L25 m_s m_halfway v2 n m_away v1 v3 = some o → vW p l e { frames := 3, cells := 0, slots := 0, locals := 70 } s m args below meth c 5 D A F 0 0 Q (wX12 ad c9 m_undoable m_undoStart m_thrown m_inputLength m_position m_start m_token m_value m_letters m_code m_place m_outputLength m_s m_parsed m_tried m_remembered m_slots m_kept m_away m_input m_halfway m_output) 25 [(0, .ref (ad 0)), (1, .int v1), (2, .int v2), (3, .int v3)] [] := by
  intro n
  induction n with
  | zero =>
    intro m_away v1 v3 hf
    rw [f_X12_distanceErrors_L25] at hf
    cases hf
  | succ n ih =>
    intro m_away v1 v3 hf
    rw [f_X12_distanceErrors_L25] at hf
    refine v_iload_n X dX12_distanceErrors_25 3 rfl rfl 26 rfl ?_
    refine v_aload_n X dX12_distanceErrors_26 0 rfl rfl 27 rfl ?_
    refine v_get X (C := RX12) (T := TX12) (N := 22) (ci := 11) (v := _) dX12_distanceErrors_27 k_X12_distanceErrors_w12 0 rfl rfl 0 (by decide) k_X12_distanceErrors_2 rfl rfl 30 rfl ?_
    refine v_iconst X dX12_distanceErrors_30 ic_3 31 rfl ?_
    obtain ⟨x3, hx3, hf⟩ := bnd hf
    refine v_iald X dX12_distanceErrors_31 1 0 rfl rfl hx3 32 rfl ?_
    refine v_icmp_ge X (tgt := 87) dX12_distanceErrors_32 rfl 35 rfl hf (fun hf => ?_) (fun hf => ?_)
    · cases hf
      refine v_sub (lv' := [(0, .ref (ad 0)), (1, .int v1), (2, .int v2)]) [0, 1, 2] rfl ?_
      exact K
    · refine v_aload_n X dX12_distanceErrors_35 0 rfl rfl 36 rfl ?_
      refine v_get X (C := RX12) (T := TX12) (N := 22) (ci := 11) (v := _) dX12_distanceErrors_36 k_X12_distanceErrors_w12 0 rfl rfl 19 (by decide) k_X12_distanceErrors_3 rfl rfl 39 rfl ?_
      refine v_iconst X dX12_distanceErrors_39 ic_5 40 rfl ?_
      refine v_iload_n X dX12_distanceErrors_40 2 rfl rfl 41 rfl ?_
      refine v_imul X dX12_distanceErrors_41 42 rfl ?_
      refine v_iload_n X dX12_distanceErrors_42 3 rfl rfl 43 rfl ?_
      refine v_iadd X dX12_distanceErrors_43 44 rfl ?_
      obtain ⟨x4, hx4, hf⟩ := bnd hf
      refine v_iald X dX12_distanceErrors_44 9 0 rfl rfl hx4 45 rfl ?_
      refine v_istore X (lv' := [(4, .int x4), (0, .ref (ad 0)), (1, .int v1), (2, .int v2), (3, .int v3)]) dX12_distanceErrors_45 (by decide) rfl 47 rfl ?_
      refine v_iload_n X dX12_distanceErrors_47 2 rfl rfl 48 rfl ?_
      refine v_aload_n X dX12_distanceErrors_48 1 rfl rfl 49 rfl ?_
      refine v_aload_n X dX12_distanceErrors_49 1 rfl rfl 50 rfl ?_
      refine v_get X (C := RX12) (T := TX12) (N := 22) (ci := 11) (v := _) dX12_distanceErrors_50 k_X12_distanceErrors_w12 0 rfl rfl 0 (by decide) k_X12_distanceErrors_2 rfl rfl 53 rfl ?_
      refine v_iload_n X dX12_distanceErrors_53 3 rfl rfl 54 rfl ?_
      refine v_iload_n X dX12_distanceErrors_54 4 rfl rfl 55 rfl ?_
      obtain ⟨o5, ho5, hf⟩ := bnd hf
      refine v_callVi X (ci := 11) (T := TX12) (C := RX12) (As := [.ref (ad 1), .int v2, .int v3]) (rest := [.int v1]) (ws' := (wX12 ad c9 m_undoable m_undoStart m_thrown m_inputLength m_position m_start m_token m_value m_letters m_code m_place m_outputLength m_s m_parsed m_tried m_remembered m_slots m_kept o5.2 m_input m_halfway m_output)) (c_X12_far l hG D c9 ad m_undoable m_undoStart m_thrown m_inputLength m_position m_start m_token m_value m_letters m_code m_place m_outputLength m_s m_parsed m_tried m_remembered m_slots m_kept m_away m_input m_halfway m_output v2 v3 ho5) 3 gX12_distanceErrors_X12_far rfl rfl rfl ⟨rfl, pd_X12_far⟩ ⟨Nat.le_of_ble_eq_true rfl, Nat.le_of_ble_eq_true rfl⟩ 0 rfl rfl rfl rfl (Nat.le_of_ble_eq_true rfl) ⟨Nat.zero_le _, Nat.zero_le _⟩ [0, 1, 2, 3, 4, 5, 6, 7, 8, 9, 10] [] [0, 1, 2, 3, 4, 5, 6, 7, 8, 9, 10] rfl rfl rfl rfl dX12_distanceErrors_55 58 rfl ?_
      refine v_iload X dX12_distanceErrors_58 0 rfl 60 rfl ?_
      refine v_bipush X dX12_distanceErrors_60 bp_99 62 rfl ?_
      obtain ⟨j6, hj6, hf⟩ := bnd hf
      have Jj6 : vW p l e { frames := 3, cells := 0, slots := 0, locals := 70 } s m args below meth c 5 D A F 0 0 Q (wX12 ad c9 m_undoable m_undoStart m_thrown m_inputLength m_position m_start m_token m_value m_letters m_code m_place m_outputLength m_s m_parsed m_tried m_remembered m_slots m_kept o5.2 m_input m_halfway m_output) 71 [(0, .ref (ad 0)), (2, .int v2), (3, .int v3)] [.int j6, .int o5.1, .int v1] := by
        obtain ⟨j7, hj7, hf⟩ := bnd hf
        have Jj7 : vW p l e { frames := 3, cells := 0, slots := 0, locals := 70 } s m args below meth c 5 D A F 0 0 Q (wX12 ad c9 m_undoable m_undoStart m_thrown m_inputLength m_position m_start m_token m_value m_letters m_code m_place m_outputLength m_s m_parsed m_tried m_remembered m_slots m_kept o5.2 m_input m_halfway m_output) 79 [(0, .ref (ad 0)), (2, .int v2), (3, .int v3)] [.int j7, .int v1] := by
          refine v_iadd X dX12_distanceErrors_79 80 rfl ?_
          refine v_istore_n X (lv' := [(1, .int (v1 + j7)), (0, .ref (ad 0)), (2, .int v2), (3, .int v3)]) dX12_distanceErrors_80 rfl (by decide) rfl 81 rfl ?_
          refine v_iinc X (lv' := [(3, .int (v3 + 1)), (1, .int (v1 + j7)), (0, .ref (ad 0)), (2, .int v2)]) dX12_distanceErrors_81 3 rfl ic_1 (by decide) rfl 84 rfl ?_
          refine v_goto X (tgt := 25) dX12_distanceErrors_84 rfl ?_
          refine v_sub (lv' := [(0, .ref (ad 0)), (1, .int (v1 + j7)), (2, .int v2), (3, .int (v3 + 1))]) [2, 1, 3, 0] rfl ?_
          exact ih o5.2 (v1 + j7) (v3 + 1) hf
        clear hf
        refine v_icmp_ne X (tgt := 78) dX12_distanceErrors_71 rfl 74 rfl hj7 (fun hf => ?_) (fun hf => ?_)
        · refine v_iconst X dX12_distanceErrors_78 ic_1 79 rfl ?_
          cases hf
          exact Jj7
        · refine v_iconst X dX12_distanceErrors_74 ic_0 75 rfl ?_
          refine v_goto X (tgt := 79) dX12_distanceErrors_75 rfl ?_
          cases hf
          exact Jj7
      clear hf
      refine v_icmp_lt X (tgt := 69) dX12_distanceErrors_62 rfl 65 rfl hj6 (fun hf => ?_) (fun hf => ?_)
      · refine v_iload X dX12_distanceErrors_69 0 rfl 71 rfl ?_
        cases hf
        refine v_sub (lv' := [(0, .ref (ad 0)), (2, .int v2), (3, .int v3)]) [1, 3, 4] rfl ?_
        exact Jj6
      · refine v_iconst X dX12_distanceErrors_65 ic_m1 66 rfl ?_
        refine v_goto X (tgt := 71) dX12_distanceErrors_66 rfl ?_
        cases hf
        refine v_sub (lv' := [(0, .ref (ad 0)), (2, .int v2), (3, .int v3)]) [1, 3, 4] rfl ?_
        exact Jj6
set_option maxRecDepth 100000 in
set_option maxHeartbeats 4000000 in
theorem l_X12_distanceErrors_L13 (l : Launch) {G : (Nat → Prop) → State → Heap → Prop} (hG : vG G) (D : va_G) (c9 : Nat → ClassId) (ad : Nat → Nat) (m_undoable : Int32) (m_undoStart : Int32) (m_thrown : Int32) (m_inputLength : Int32) (m_position : Int32) (m_start : Int32) (m_token : Int32) (m_value : Int32) (m_letters : Int32) (m_code : Int32) (m_place : Int32) (m_outputLength : Int32) (m_s : Nat → Int32) (m_parsed : Nat → Int32) (m_tried : Nat → Int32) (m_remembered : Nat → Int32) (m_slots : Nat → Int32) (m_kept : Nat → Int32) (m_input : Nat → Int32) (m_halfway : Nat → Int32) (m_output : Nat → Int32) {p : Program} {e : Env} {s : State} {m : MethodId} {args : Array Value} {below : List Frame} {meth : Method} {c : Code} {A : Nat → Prop} {F : va_W} (X : vX p s m args meth c cX12_distanceErrors 5 (some .int) RX12 wsX12_distanceErrors D (tyA c9) G A) {Q : State → Prop} (o : (Nat → Int32) × Int32) (K : vW p l e { frames := 3, cells := 0, slots := 0, locals := 70 } s m args below meth c 5 D A F 0 0 Q (wX12 ad c9 m_undoable m_undoStart m_thrown m_inputLength m_position m_start m_token m_value m_letters m_code m_place m_outputLength m_s m_parsed m_tried m_remembered m_slots m_kept o.1 m_input m_halfway m_output) 93 [(1, .int o.2)] []) :
    ∀ (n : Nat) (m_away : Nat → Int32) (v1 : Int32) (v2 : Int32), f_X12_distanceErrors_L13 m_s m_halfway n m_away v1 v2 = some o → vW p l e { frames := 3, cells := 0, slots := 0, locals := 70 } s m args below meth c 5 D A F 0 0 Q (wX12 ad c9 m_undoable m_undoStart m_thrown m_inputLength m_position m_start m_token m_value m_letters m_code m_place m_outputLength m_s m_parsed m_tried m_remembered m_slots m_kept m_away m_input m_halfway m_output) 13 [(0, .ref (ad 0)), (1, .int v1), (2, .int v2)] [] := by
  intro n
  induction n with
  | zero =>
    intro m_away v1 v2 hf
    rw [f_X12_distanceErrors_L13] at hf
    cases hf
  | succ n ih =>
    intro m_away v1 v2 hf
    rw [f_X12_distanceErrors_L13] at hf
    refine v_iload_n X dX12_distanceErrors_13 2 rfl rfl 14 rfl ?_
    refine v_aload_n X dX12_distanceErrors_14 0 rfl rfl 15 rfl ?_
    refine v_get X (C := RX12) (T := TX12) (N := 22) (ci := 11) (v := _) dX12_distanceErrors_15 k_X12_distanceErrors_w12 0 rfl rfl 0 (by decide) k_X12_distanceErrors_2 rfl rfl 18 rfl ?_
    refine v_iconst X dX12_distanceErrors_18 ic_3 19 rfl ?_
    obtain ⟨x2, hx2, hf⟩ := bnd hf
    refine v_iald X dX12_distanceErrors_19 1 0 rfl rfl hx2 20 rfl ?_
    refine v_icmp_ge X (tgt := 93) dX12_distanceErrors_20 rfl 23 rfl hf (fun hf => ?_) (fun hf => ?_)
    · cases hf
      refine v_sub (lv' := [(1, .int v1)]) [1] rfl ?_
      exact K
    · refine v_iconst X dX12_distanceErrors_23 ic_0 24 rfl ?_
      refine v_istore_n X (lv' := [(3, .int 0), (0, .ref (ad 0)), (1, .int v1), (2, .int v2)]) dX12_distanceErrors_24 rfl (by decide) rfl 25 rfl ?_
      obtain ⟨o8, ho8, hf⟩ := bnd hf
      refine v_sub (lv' := [(0, .ref (ad 0)), (1, .int v1), (2, .int v2), (3, .int 0)]) [1, 2, 3, 0] rfl ?_
      refine l_X12_distanceErrors_L25 l hG D c9 ad m_undoable m_undoStart m_thrown m_inputLength m_position m_start m_token m_value m_letters m_code m_place m_outputLength m_s m_parsed m_tried m_remembered m_slots m_kept m_input m_halfway m_output v2 X o8 ?_ 5000 m_away v1 0 ho8
      refine v_iinc X (lv' := [(2, .int (v2 + 1)), (0, .ref (ad 0)), (1, .int o8.2)]) dX12_distanceErrors_87 2 rfl ic_1 (by decide) rfl 90 rfl ?_
      refine v_goto X (tgt := 13) dX12_distanceErrors_90 rfl ?_
      refine v_sub (lv' := [(0, .ref (ad 0)), (1, .int o8.2), (2, .int (v2 + 1))]) [1, 2, 0] rfl ?_
      exact ih o8.1 o8.2 (v2 + 1) hf
set_option maxRecDepth 100000 in
set_option maxHeartbeats 4000000 in
theorem c_X12_distanceErrors (l : Launch) {G : (Nat → Prop) → State → Heap → Prop} (hG : vG G) (D : va_G) (c9 : Nat → ClassId) (ad : Nat → Nat) (m_undoable : Int32) (m_undoStart : Int32) (m_thrown : Int32) (m_inputLength : Int32) (m_position : Int32) (m_start : Int32) (m_token : Int32) (m_value : Int32) (m_letters : Int32) (m_code : Int32) (m_place : Int32) (m_outputLength : Int32) (m_s : Nat → Int32) (m_parsed : Nat → Int32) (m_tried : Nat → Int32) (m_remembered : Nat → Int32) (m_slots : Nat → Int32) (m_kept : Nat → Int32) (m_away : Nat → Int32) (m_input : Nat → Int32) (m_halfway : Nat → Int32) (m_output : Nat → Int32)  {o : Int32 × Int32 × (Nat → Int32) × (Nat → Int32)} (hf : f_X12_distanceErrors m_thrown m_s m_away m_halfway = some o) : mI l yX12_distanceErrors wsX12_distanceErrors { frames := 3, cells := 0, slots := 0, locals := 70 } G D (tyA c9) [.ref (ad 0)] (wX12 ad c9 m_undoable m_undoStart m_thrown m_inputLength m_position m_start m_token m_value m_letters m_code m_place m_outputLength m_s m_parsed m_tried m_remembered m_slots m_kept m_away m_input m_halfway m_output) [] 0 0 o.1 (wX12 ad c9 m_undoable m_undoStart o.2.1 m_inputLength m_position m_start m_token m_value m_letters m_code m_place m_outputLength m_s m_parsed m_tried m_remembered m_slots m_kept o.2.2.1 m_input o.2.2.2 m_output) := by
  refine mI_of hG (cc := cX12_distanceErrors) (maxL := 5) (ty := .int) (by decide) rfl (Nat.le_of_ble_eq_true rfl) ?_
  intro p e s m args below meth c A X
  have X : vX p s m args meth c cX12_distanceErrors 5 (some .int) RX12 wsX12_distanceErrors D (tyA c9) G A := X
  refine v_eq (lv2 := [(0, .ref (ad 0))]) rfl rfl rfl rfl ?_
  rw [f_X12_distanceErrors] at hf
  refine v_aload_n X dX12_distanceErrors_0 0 rfl rfl 1 rfl ?_
  refine v_iconst X dX12_distanceErrors_1 ic_0 2 rfl ?_
  refine v_put X (C := RX12) (T := TX12) (N := 22) (ci := 11) (ty := tyX12 8) (ws' := (wX12 ad c9 m_undoable m_undoStart 0 m_inputLength m_position m_start m_token m_value m_letters m_code m_place m_outputLength m_s m_parsed m_tried m_remembered m_slots m_kept m_away m_input m_halfway m_output)) dX12_distanceErrors_2 k_X12_distanceErrors_w12 0 rfl rfl 8 (by decide) tyX12 tyX12_ok nmX12 k_X12_distanceErrors_1 rfl rfl (tyX12_ok 8 (by decide)) rfl rfl (by decide) rfl 5 rfl ?_
  refine v_aload_n X dX12_distanceErrors_5 0 rfl rfl 6 rfl ?_
  obtain ⟨o1, ho1, hf⟩ := bnd hf
  refine v_callVv X (ci := 11) (T := TX12) (C := RX12) (As := []) (rest := []) (ws' := (wX12 ad c9 m_undoable m_undoStart 0 m_inputLength m_position m_start m_token m_value m_letters m_code m_place m_outputLength m_s m_parsed m_tried m_remembered m_slots m_kept m_away m_input o1 m_output)) (c_X12_goHalfway l hG D c9 ad m_undoable m_undoStart 0 m_inputLength m_position m_start m_token m_value m_letters m_code m_place m_outputLength m_s m_parsed m_tried m_remembered m_slots m_kept m_away m_input m_halfway m_output ho1) 0 gX12_distanceErrors_X12_goHalfway rfl rfl rfl ⟨rfl, pd_X12_goHalfway⟩ ⟨Nat.le_of_ble_eq_true rfl, Nat.le_of_ble_eq_true rfl⟩ 0 rfl rfl rfl rfl (Nat.le_of_ble_eq_true rfl) ⟨Nat.zero_le _, Nat.zero_le _⟩ [0, 1, 2, 3, 4, 5, 6, 7, 8, 9, 10] [] [0, 1, 2, 3, 4, 5, 6, 7, 8, 9, 10] rfl rfl rfl rfl dX12_distanceErrors_6 9 rfl ?_
  refine v_iconst X dX12_distanceErrors_9 ic_0 10 rfl ?_
  refine v_istore_n X (lv' := [(1, .int 0), (0, .ref (ad 0))]) dX12_distanceErrors_10 rfl (by decide) rfl 11 rfl ?_
  refine v_iconst X dX12_distanceErrors_11 ic_0 12 rfl ?_
  refine v_istore_n X (lv' := [(2, .int 0), (1, .int 0), (0, .ref (ad 0))]) dX12_distanceErrors_12 rfl (by decide) rfl 13 rfl ?_
  obtain ⟨o9, ho9, hf⟩ := bnd hf
  refine v_sub (lv' := [(0, .ref (ad 0)), (1, .int 0), (2, .int 0)]) [2, 1, 0] rfl ?_
  refine l_X12_distanceErrors_L13 l hG D c9 ad m_undoable m_undoStart 0 m_inputLength m_position m_start m_token m_value m_letters m_code m_place m_outputLength m_s m_parsed m_tried m_remembered m_slots m_kept m_input o1 m_output X o9 ?_ 5000 m_away 0 0 ho9
  refine v_iload_n X dX12_distanceErrors_93 0 rfl rfl 94 rfl ?_
  cases hf
  exact v_iret X (Nat.zero_le _) (Nat.zero_le _) dX12_distanceErrors_94
theorem pd_X12_distanceErrors : yX12_distanceErrors.cls ≠ "java/lang/invoke/MethodHandle" ∧ yX12_distanceErrors.cls ≠ "java/lang/invoke/VarHandle" ∧ (parseMethodDescriptor yX12_distanceErrors.desc).map (fun d => d.parameters.length) = some 0 := by decide +kernel
theorem k_X12_login_w12 : ∀ w ∈ u_ws RX12 TX12 22, w ∈ wsX12_login := in_r _ [63, 64, 65, 66, 67, 68, 69, 70, 71, 72, 73, 74, 75, 76, 77, 78, 79, 80, 81, 82, 83, 84] rfl
theorem k_X12_login_1 : Cond.fieldLink RX12 7 "TicketGateModel" "s" "[I" ∈ wsX12_login := List.mem_of_getElem? (i := 1) rfl
def f_X12_login (m_undoable : Int32) (m_undoStart : Int32) (m_thrown : Int32) (m_s : Nat → Int32) (m_remembered : Nat → Int32) (v1 : Int32) (v2 : Int32) (v3 : Int32) : Option (Int32 × Int32 × Int32 × Int32 × (Nat → Int32) × (Nat → Int32)) :=
  (f_X12_noUser m_thrown m_s v1).bind fun o1 =>
  if o1.1 = 0 then (
    (f_X12_out o1.2 v2 0 9999).bind fun o2 =>
    if o2.1 = 0 then (
      (f_X12_whyNotLogin m_s v1 v2).bind fun o3 =>
      Option.bind (if o3 = 0 then (
        some (0))
      else (
        some (1)) : Option (Int32)) fun j4 =>
      (f_X12_refuses o2.2 j4 3).bind fun o5 =>
      if o5.1 = 0 then (
        (f_X12_remember m_undoable m_undoStart m_s m_remembered).bind fun o6 =>
        (f_X12_enters m_s v1 v3).bind fun o7 =>
        some (o7.1, o6.1, o6.2.1, o5.2, o7.2, o6.2.2))
      else (
        some (0, m_undoable, m_undoStart, o5.2, m_s, m_remembered)))
    else (
      some (0, m_undoable, m_undoStart, o2.2, m_s, m_remembered)))
  else (
    some (0, m_undoable, m_undoStart, o1.2, m_s, m_remembered))
set_option maxRecDepth 100000 in
set_option maxHeartbeats 4000000 in
theorem c_X12_login (l : Launch) {G : (Nat → Prop) → State → Heap → Prop} (hG : vG G) (D : va_G) (c9 : Nat → ClassId) (ad : Nat → Nat) (m_undoable : Int32) (m_undoStart : Int32) (m_thrown : Int32) (m_inputLength : Int32) (m_position : Int32) (m_start : Int32) (m_token : Int32) (m_value : Int32) (m_letters : Int32) (m_code : Int32) (m_place : Int32) (m_outputLength : Int32) (m_s : Nat → Int32) (m_parsed : Nat → Int32) (m_tried : Nat → Int32) (m_remembered : Nat → Int32) (m_slots : Nat → Int32) (m_kept : Nat → Int32) (m_away : Nat → Int32) (m_input : Nat → Int32) (m_halfway : Nat → Int32) (m_output : Nat → Int32) (v1 : Int32) (v2 : Int32) (v3 : Int32) {o : Int32 × Int32 × Int32 × Int32 × (Nat → Int32) × (Nat → Int32)} (hf : f_X12_login m_undoable m_undoStart m_thrown m_s m_remembered v1 v2 v3 = some o) : mI l yX12_login wsX12_login { frames := 4, cells := 0, slots := 0, locals := 87 } G D (tyA c9) [.ref (ad 0), .int v1, .int v2, .int v3] (wX12 ad c9 m_undoable m_undoStart m_thrown m_inputLength m_position m_start m_token m_value m_letters m_code m_place m_outputLength m_s m_parsed m_tried m_remembered m_slots m_kept m_away m_input m_halfway m_output) [] 0 0 o.1 (wX12 ad c9 o.2.1 o.2.2.1 o.2.2.2.1 m_inputLength m_position m_start m_token m_value m_letters m_code m_place m_outputLength o.2.2.2.2.1 m_parsed m_tried o.2.2.2.2.2 m_slots m_kept m_away m_input m_halfway m_output) := by
  refine mI_of hG (cc := cX12_login) (maxL := 4) (ty := .int) (by decide) rfl (Nat.le_of_ble_eq_true rfl) ?_
  intro p e s m args below meth c A X
  have X : vX p s m args meth c cX12_login 4 (some .int) RX12 wsX12_login D (tyA c9) G A := X
  refine v_eq (lv2 := [(0, .ref (ad 0)), (1, .int v1), (2, .int v2), (3, .int v3)]) rfl rfl rfl rfl ?_
  rw [f_X12_login] at hf
  refine v_aload_n X dX12_login_0 0 rfl rfl 1 rfl ?_
  refine v_iload_n X dX12_login_1 1 rfl rfl 2 rfl ?_
  obtain ⟨o1, ho1, hf⟩ := bnd hf
  refine v_callVi X (ci := 11) (T := TX12) (C := RX12) (As := [.int v1]) (rest := []) (ws' := (wX12 ad c9 m_undoable m_undoStart o1.2 m_inputLength m_position m_start m_token m_value m_letters m_code m_place m_outputLength m_s m_parsed m_tried m_remembered m_slots m_kept m_away m_input m_halfway m_output)) (c_X12_noUser l hG D c9 ad m_undoable m_undoStart m_thrown m_inputLength m_position m_start m_token m_value m_letters m_code m_place m_outputLength m_s m_parsed m_tried m_remembered m_slots m_kept m_away m_input m_halfway m_output v1 ho1) 1 gX12_login_X12_noUser rfl rfl rfl ⟨rfl, pd_X12_noUser⟩ ⟨Nat.le_of_ble_eq_true rfl, Nat.le_of_ble_eq_true rfl⟩ 0 rfl rfl rfl rfl (Nat.le_of_ble_eq_true rfl) ⟨Nat.zero_le _, Nat.zero_le _⟩ [0, 1, 2, 3, 4, 5, 6, 7, 8, 9, 10] [] [0, 1, 2, 3, 4, 5, 6, 7, 8, 9, 10] rfl rfl rfl rfl dX12_login_2 5 rfl ?_
  refine v_if_ne X (tgt := 45) dX12_login_5 rfl 8 rfl hf (fun hf => ?_) (fun hf => ?_)
  · refine v_iconst X dX12_login_45 ic_0 46 rfl ?_
    cases hf
    exact v_iret X (Nat.zero_le _) (Nat.zero_le _) dX12_login_46
  · refine v_aload_n X dX12_login_8 0 rfl rfl 9 rfl ?_
    refine v_iload_n X dX12_login_9 2 rfl rfl 10 rfl ?_
    refine v_iconst X dX12_login_10 ic_0 11 rfl ?_
    refine v_sipush X dX12_login_11 sp_9999 14 rfl ?_
    obtain ⟨o2, ho2, hf⟩ := bnd hf
    refine v_callVi X (ci := 11) (T := TX12) (C := RX12) (As := [.int v2, .int 0, .int 9999]) (rest := []) (ws' := (wX12 ad c9 m_undoable m_undoStart o2.2 m_inputLength m_position m_start m_token m_value m_letters m_code m_place m_outputLength m_s m_parsed m_tried m_remembered m_slots m_kept m_away m_input m_halfway m_output)) (c_X12_out l hG D c9 ad m_undoable m_undoStart o1.2 m_inputLength m_position m_start m_token m_value m_letters m_code m_place m_outputLength m_s m_parsed m_tried m_remembered m_slots m_kept m_away m_input m_halfway m_output v2 0 9999 ho2) 3 gX12_login_X12_out rfl rfl rfl ⟨rfl, pd_X12_out⟩ ⟨Nat.le_of_ble_eq_true rfl, Nat.le_of_ble_eq_true rfl⟩ 0 rfl rfl rfl rfl (Nat.le_of_ble_eq_true rfl) ⟨Nat.zero_le _, Nat.zero_le _⟩ [0, 1, 2, 3, 4, 5, 6, 7, 8, 9, 10] [] [0, 1, 2, 3, 4, 5, 6, 7, 8, 9, 10] rfl rfl rfl rfl dX12_login_14 17 rfl ?_
    refine v_if_ne X (tgt := 45) dX12_login_17 rfl 20 rfl hf (fun hf => ?_) (fun hf => ?_)
    · refine v_iconst X dX12_login_45 ic_0 46 rfl ?_
      cases hf
      exact v_iret X (Nat.zero_le _) (Nat.zero_le _) dX12_login_46
    · refine v_aload_n X dX12_login_20 0 rfl rfl 21 rfl ?_
      refine v_aload_n X dX12_login_21 0 rfl rfl 22 rfl ?_
      refine v_get X (C := RX12) (T := TX12) (N := 22) (ci := 11) (v := _) dX12_login_22 k_X12_login_w12 0 rfl rfl 0 (by decide) k_X12_login_1 rfl rfl 25 rfl ?_
      refine v_iload_n X dX12_login_25 1 rfl rfl 26 rfl ?_
      refine v_iload_n X dX12_login_26 2 rfl rfl 27 rfl ?_
      obtain ⟨o3, ho3, hf⟩ := bnd hf
      refine v_callSi X (As := [.ref (ad 1), .int v1, .int v2]) (rest := [.ref (ad 0)]) (ws' := (wX12 ad c9 m_undoable m_undoStart o2.2 m_inputLength m_position m_start m_token m_value m_letters m_code m_place m_outputLength m_s m_parsed m_tried m_remembered m_slots m_kept m_away m_input m_halfway m_output)) (c_X12_whyNotLogin l hG D c9 (ad 1) m_s v1 v2 ho3) 3 gX12_login_X12_whyNotLogin rfl rfl rfl pd_X12_whyNotLogin ⟨Nat.le_of_ble_eq_true rfl, Nat.le_of_ble_eq_true rfl⟩ rfl rfl (Nat.le_of_ble_eq_true rfl) ⟨Nat.zero_le _, Nat.zero_le _⟩ [1] [0, 2, 3, 4, 5, 6, 7, 8, 9, 10] [0, 10, 1, 2, 3, 4, 5, 6, 7, 8, 9] rfl rfl rfl rfl dX12_login_27 30 rfl ?_
      obtain ⟨j4, hj4, hf⟩ := bnd hf
      have Jj4 : vW p l e { frames := 4, cells := 0, slots := 0, locals := 87 } s m args below meth c 4 D A [] 0 0 (MQ below (eI D (tyA c9) A o.1 ((wX12 ad c9 o.2.1 o.2.2.1 o.2.2.2.1 m_inputLength m_position m_start m_token m_value m_letters m_code m_place m_outputLength o.2.2.2.2.1 m_parsed m_tried o.2.2.2.2.2 m_slots m_kept m_away m_input m_halfway m_output) ++ [])) args s 0 0 A) (wX12 ad c9 m_undoable m_undoStart o2.2 m_inputLength m_position m_start m_token m_value m_letters m_code m_place m_outputLength m_s m_parsed m_tried m_remembered m_slots m_kept m_away m_input m_halfway m_output) 38 [(0, .ref (ad 0)), (1, .int v1), (3, .int v3)] [.int j4, .ref (ad 0)] := by
        refine v_iconst X dX12_login_38 ic_3 39 rfl ?_
        obtain ⟨o5, ho5, hf⟩ := bnd hf
        refine v_callVi X (ci := 11) (T := TX12) (C := RX12) (As := [.int j4, .int 3]) (rest := []) (ws' := (wX12 ad c9 m_undoable m_undoStart o5.2 m_inputLength m_position m_start m_token m_value m_letters m_code m_place m_outputLength m_s m_parsed m_tried m_remembered m_slots m_kept m_away m_input m_halfway m_output)) (c_X12_refuses l hG D c9 ad m_undoable m_undoStart o2.2 m_inputLength m_position m_start m_token m_value m_letters m_code m_place m_outputLength m_s m_parsed m_tried m_remembered m_slots m_kept m_away m_input m_halfway m_output j4 3 ho5) 2 gX12_login_X12_refuses rfl rfl rfl ⟨rfl, pd_X12_refuses⟩ ⟨Nat.le_of_ble_eq_true rfl, Nat.le_of_ble_eq_true rfl⟩ 0 rfl rfl rfl rfl (Nat.le_of_ble_eq_true rfl) ⟨Nat.zero_le _, Nat.zero_le _⟩ [0, 1, 2, 3, 4, 5, 6, 7, 8, 9, 10] [] [0, 1, 2, 3, 4, 5, 6, 7, 8, 9, 10] rfl rfl rfl rfl dX12_login_39 42 rfl ?_
        refine v_if_eq X (tgt := 47) dX12_login_42 rfl 45 rfl hf (fun hf => ?_) (fun hf => ?_)
        · refine v_aload_n X dX12_login_47 0 rfl rfl 48 rfl ?_
          obtain ⟨o6, ho6, hf⟩ := bnd hf
          refine v_callVv X (ci := 11) (T := TX12) (C := RX12) (As := []) (rest := []) (ws' := (wX12 ad c9 o6.1 o6.2.1 o5.2 m_inputLength m_position m_start m_token m_value m_letters m_code m_place m_outputLength m_s m_parsed m_tried o6.2.2 m_slots m_kept m_away m_input m_halfway m_output)) (c_X12_remember l hG D c9 ad m_undoable m_undoStart o5.2 m_inputLength m_position m_start m_token m_value m_letters m_code m_place m_outputLength m_s m_parsed m_tried m_remembered m_slots m_kept m_away m_input m_halfway m_output ho6) 0 gX12_login_X12_remember rfl rfl rfl ⟨rfl, pd_X12_remember⟩ ⟨Nat.le_of_ble_eq_true rfl, Nat.le_of_ble_eq_true rfl⟩ 0 rfl rfl rfl rfl (Nat.le_of_ble_eq_true rfl) ⟨Nat.zero_le _, Nat.zero_le _⟩ [0, 1, 2, 3, 4, 5, 6, 7, 8, 9, 10] [] [0, 1, 2, 3, 4, 5, 6, 7, 8, 9, 10] rfl rfl rfl rfl dX12_login_48 51 rfl ?_
          refine v_aload_n X dX12_login_51 0 rfl rfl 52 rfl ?_
          refine v_get X (C := RX12) (T := TX12) (N := 22) (ci := 11) (v := _) dX12_login_52 k_X12_login_w12 0 rfl rfl 0 (by decide) k_X12_login_1 rfl rfl 55 rfl ?_
          refine v_iload_n X dX12_login_55 1 rfl rfl 56 rfl ?_
          refine v_iload_n X dX12_login_56 2 rfl rfl 57 rfl ?_
          obtain ⟨o7, ho7, hf⟩ := bnd hf
          refine v_callSi X (As := [.ref (ad 1), .int v1, .int v3]) (rest := []) (ws' := (wX12 ad c9 o6.1 o6.2.1 o5.2 m_inputLength m_position m_start m_token m_value m_letters m_code m_place m_outputLength o7.2 m_parsed m_tried o6.2.2 m_slots m_kept m_away m_input m_halfway m_output)) (c_X12_enters l hG D c9 (ad 1) m_s v1 v3 ho7) 3 gX12_login_X12_enters rfl rfl rfl pd_X12_enters ⟨Nat.le_of_ble_eq_true rfl, Nat.le_of_ble_eq_true rfl⟩ rfl rfl (Nat.le_of_ble_eq_true rfl) ⟨Nat.zero_le _, Nat.zero_le _⟩ [1] [0, 2, 3, 4, 5, 6, 7, 8, 9, 10] [0, 10, 1, 2, 3, 4, 5, 6, 7, 8, 9] rfl rfl rfl rfl dX12_login_57 60 rfl ?_
          cases hf
          exact v_iret X (Nat.zero_le _) (Nat.zero_le _) dX12_login_60
        · refine v_iconst X dX12_login_45 ic_0 46 rfl ?_
          cases hf
          exact v_iret X (Nat.zero_le _) (Nat.zero_le _) dX12_login_46
      clear hf
      refine v_if_eq X (tgt := 37) dX12_login_30 rfl 33 rfl hj4 (fun hf => ?_) (fun hf => ?_)
      · refine v_iconst X dX12_login_37 ic_0 38 rfl ?_
        cases hf
        refine v_sub (lv' := [(0, .ref (ad 0)), (1, .int v1), (3, .int v3)]) [0, 1, 3] rfl ?_
        exact Jj4
      · refine v_iconst X dX12_login_33 ic_1 34 rfl ?_
        refine v_goto X (tgt := 38) dX12_login_34 rfl ?_
        cases hf
        refine v_sub (lv' := [(0, .ref (ad 0)), (1, .int v1), (3, .int v3)]) [0, 1, 3] rfl ?_
        exact Jj4
theorem pd_X12_login : yX12_login.cls ≠ "java/lang/invoke/MethodHandle" ∧ yX12_login.cls ≠ "java/lang/invoke/VarHandle" ∧ (parseMethodDescriptor yX12_login.desc).map (fun d => d.parameters.length) = some 3 := by decide +kernel
theorem k_X12_refer_w12 : ∀ w ∈ u_ws RX12 TX12 22, w ∈ wsX12_refer := in_r _ [77, 78, 79, 80, 81, 82, 83, 84, 85, 86, 87, 88, 89, 90, 91, 92, 93, 94, 95, 96, 97, 98] rfl
theorem k_X12_refer_1 : Cond.fieldLink RX12 7 "TicketGateModel" "s" "[I" ∈ wsX12_refer := List.mem_of_getElem? (i := 1) rfl
def f_X12_refer (m_undoable : Int32) (m_undoStart : Int32) (m_thrown : Int32) (m_s : Nat → Int32) (m_remembered : Nat → Int32) (v1 : Int32) (v2 : Int32) : Option (Int32 × Int32 × Int32 × Int32 × (Nat → Int32) × (Nat → Int32)) :=
  (f_X12_noTicket m_thrown m_s v1).bind fun o1 =>
  if o1.1 = 0 then (
    (rd m_s 463 3).bind fun x2 =>
    (f_X12_out o1.2 v2 0 (x2 - 1)).bind fun o3 =>
    if o3.1 = 0 then (
      (f_X12_find m_s v1).bind fun o4 =>
      (f_X12_whyNotRefer m_s o4 v2).bind fun o5 =>
      Option.bind (if o5 = 0 then (
        some (0))
      else (
        some (1)) : Option (Int32)) fun j6 =>
      (f_X12_refuses o3.2 j6 3).bind fun o7 =>
      if o7.1 = 0 then (
        (f_X12_remember m_undoable m_undoStart m_s m_remembered).bind fun o8 =>
        (f_X12_find m_s v1).bind fun o9 =>
        (f_X12_derive m_s o9 v2 (-1)).bind fun o10 =>
        some (o10.1, o8.1, o8.2.1, o7.2, o10.2, o8.2.2))
      else (
        some (0, m_undoable, m_undoStart, o7.2, m_s, m_remembered)))
    else (
      some (0, m_undoable, m_undoStart, o3.2, m_s, m_remembered)))
  else (
    some (0, m_undoable, m_undoStart, o1.2, m_s, m_remembered))
set_option maxRecDepth 100000 in
set_option maxHeartbeats 4000000 in
theorem c_X12_refer (l : Launch) {G : (Nat → Prop) → State → Heap → Prop} (hG : vG G) (D : va_G) (c9 : Nat → ClassId) (ad : Nat → Nat) (m_undoable : Int32) (m_undoStart : Int32) (m_thrown : Int32) (m_inputLength : Int32) (m_position : Int32) (m_start : Int32) (m_token : Int32) (m_value : Int32) (m_letters : Int32) (m_code : Int32) (m_place : Int32) (m_outputLength : Int32) (m_s : Nat → Int32) (m_parsed : Nat → Int32) (m_tried : Nat → Int32) (m_remembered : Nat → Int32) (m_slots : Nat → Int32) (m_kept : Nat → Int32) (m_away : Nat → Int32) (m_input : Nat → Int32) (m_halfway : Nat → Int32) (m_output : Nat → Int32) (v1 : Int32) (v2 : Int32) {o : Int32 × Int32 × Int32 × Int32 × (Nat → Int32) × (Nat → Int32)} (hf : f_X12_refer m_undoable m_undoStart m_thrown m_s m_remembered v1 v2 = some o) : mI l yX12_refer wsX12_refer { frames := 5, cells := 0, slots := 0, locals := 110 } G D (tyA c9) [.ref (ad 0), .int v1, .int v2] (wX12 ad c9 m_undoable m_undoStart m_thrown m_inputLength m_position m_start m_token m_value m_letters m_code m_place m_outputLength m_s m_parsed m_tried m_remembered m_slots m_kept m_away m_input m_halfway m_output) [] 0 0 o.1 (wX12 ad c9 o.2.1 o.2.2.1 o.2.2.2.1 m_inputLength m_position m_start m_token m_value m_letters m_code m_place m_outputLength o.2.2.2.2.1 m_parsed m_tried o.2.2.2.2.2 m_slots m_kept m_away m_input m_halfway m_output) := by
  refine mI_of hG (cc := cX12_refer) (maxL := 3) (ty := .int) (by decide) rfl (Nat.le_of_ble_eq_true rfl) ?_
  intro p e s m args below meth c A X
  have X : vX p s m args meth c cX12_refer 3 (some .int) RX12 wsX12_refer D (tyA c9) G A := X
  refine v_eq (lv2 := [(0, .ref (ad 0)), (1, .int v1), (2, .int v2)]) rfl rfl rfl rfl ?_
  rw [f_X12_refer] at hf
  refine v_aload_n X dX12_refer_0 0 rfl rfl 1 rfl ?_
  refine v_iload_n X dX12_refer_1 1 rfl rfl 2 rfl ?_
  obtain ⟨o1, ho1, hf⟩ := bnd hf
  refine v_callVi X (ci := 11) (T := TX12) (C := RX12) (As := [.int v1]) (rest := []) (ws' := (wX12 ad c9 m_undoable m_undoStart o1.2 m_inputLength m_position m_start m_token m_value m_letters m_code m_place m_outputLength m_s m_parsed m_tried m_remembered m_slots m_kept m_away m_input m_halfway m_output)) (c_X12_noTicket l hG D c9 ad m_undoable m_undoStart m_thrown m_inputLength m_position m_start m_token m_value m_letters m_code m_place m_outputLength m_s m_parsed m_tried m_remembered m_slots m_kept m_away m_input m_halfway m_output v1 ho1) 1 gX12_refer_X12_noTicket rfl rfl rfl ⟨rfl, pd_X12_noTicket⟩ ⟨Nat.le_of_ble_eq_true rfl, Nat.le_of_ble_eq_true rfl⟩ 0 rfl rfl rfl rfl (Nat.le_of_ble_eq_true rfl) ⟨Nat.zero_le _, Nat.zero_le _⟩ [0, 1, 2, 3, 4, 5, 6, 7, 8, 9, 10] [] [0, 1, 2, 3, 4, 5, 6, 7, 8, 9, 10] rfl rfl rfl rfl dX12_refer_2 5 rfl ?_
  refine v_if_ne X (tgt := 57) dX12_refer_5 rfl 8 rfl hf (fun hf => ?_) (fun hf => ?_)
  · refine v_iconst X dX12_refer_57 ic_0 58 rfl ?_
    cases hf
    exact v_iret X (Nat.zero_le _) (Nat.zero_le _) dX12_refer_58
  · refine v_aload_n X dX12_refer_8 0 rfl rfl 9 rfl ?_
    refine v_iload_n X dX12_refer_9 2 rfl rfl 10 rfl ?_
    refine v_iconst X dX12_refer_10 ic_0 11 rfl ?_
    refine v_aload_n X dX12_refer_11 0 rfl rfl 12 rfl ?_
    refine v_get X (C := RX12) (T := TX12) (N := 22) (ci := 11) (v := _) dX12_refer_12 k_X12_refer_w12 0 rfl rfl 0 (by decide) k_X12_refer_1 rfl rfl 15 rfl ?_
    refine v_iconst X dX12_refer_15 ic_3 16 rfl ?_
    obtain ⟨x2, hx2, hf⟩ := bnd hf
    refine v_iald X dX12_refer_16 1 0 rfl rfl hx2 17 rfl ?_
    refine v_iconst X dX12_refer_17 ic_1 18 rfl ?_
    refine v_isub X dX12_refer_18 19 rfl ?_
    obtain ⟨o3, ho3, hf⟩ := bnd hf
    refine v_callVi X (ci := 11) (T := TX12) (C := RX12) (As := [.int v2, .int 0, .int (x2 - 1)]) (rest := []) (ws' := (wX12 ad c9 m_undoable m_undoStart o3.2 m_inputLength m_position m_start m_token m_value m_letters m_code m_place m_outputLength m_s m_parsed m_tried m_remembered m_slots m_kept m_away m_input m_halfway m_output)) (c_X12_out l hG D c9 ad m_undoable m_undoStart o1.2 m_inputLength m_position m_start m_token m_value m_letters m_code m_place m_outputLength m_s m_parsed m_tried m_remembered m_slots m_kept m_away m_input m_halfway m_output v2 0 (x2 - 1) ho3) 3 gX12_refer_X12_out rfl rfl rfl ⟨rfl, pd_X12_out⟩ ⟨Nat.le_of_ble_eq_true rfl, Nat.le_of_ble_eq_true rfl⟩ 0 rfl rfl rfl rfl (Nat.le_of_ble_eq_true rfl) ⟨Nat.zero_le _, Nat.zero_le _⟩ [0, 1, 2, 3, 4, 5, 6, 7, 8, 9, 10] [] [0, 1, 2, 3, 4, 5, 6, 7, 8, 9, 10] rfl rfl rfl rfl dX12_refer_19 22 rfl ?_
    refine v_if_ne X (tgt := 57) dX12_refer_22 rfl 25 rfl hf (fun hf => ?_) (fun hf => ?_)
    · refine v_iconst X dX12_refer_57 ic_0 58 rfl ?_
      cases hf
      exact v_iret X (Nat.zero_le _) (Nat.zero_le _) dX12_refer_58
    · refine v_aload_n X dX12_refer_25 0 rfl rfl 26 rfl ?_
      refine v_aload_n X dX12_refer_26 0 rfl rfl 27 rfl ?_
      refine v_get X (C := RX12) (T := TX12) (N := 22) (ci := 11) (v := _) dX12_refer_27 k_X12_refer_w12 0 rfl rfl 0 (by decide) k_X12_refer_1 rfl rfl 30 rfl ?_
      refine v_aload_n X dX12_refer_30 0 rfl rfl 31 rfl ?_
      refine v_get X (C := RX12) (T := TX12) (N := 22) (ci := 11) (v := _) dX12_refer_31 k_X12_refer_w12 0 rfl rfl 0 (by decide) k_X12_refer_1 rfl rfl 34 rfl ?_
      refine v_iload_n X dX12_refer_34 1 rfl rfl 35 rfl ?_
      obtain ⟨o4, ho4, hf⟩ := bnd hf
      refine v_callSi X (As := [.ref (ad 1), .int v1]) (rest := [.ref (ad 1), .ref (ad 0)]) (ws' := (wX12 ad c9 m_undoable m_undoStart o3.2 m_inputLength m_position m_start m_token m_value m_letters m_code m_place m_outputLength m_s m_parsed m_tried m_remembered m_slots m_kept m_away m_input m_halfway m_output)) (c_X12_find l hG D c9 (ad 1) m_s v1 ho4) 2 gX12_refer_X12_find rfl rfl rfl pd_X12_find ⟨Nat.le_of_ble_eq_true rfl, Nat.le_of_ble_eq_true rfl⟩ rfl rfl (Nat.le_of_ble_eq_true rfl) ⟨Nat.zero_le _, Nat.zero_le _⟩ [1] [0, 2, 3, 4, 5, 6, 7, 8, 9, 10] [0, 10, 1, 2, 3, 4, 5, 6, 7, 8, 9] rfl rfl rfl rfl dX12_refer_35 38 rfl ?_
      refine v_iload_n X dX12_refer_38 2 rfl rfl 39 rfl ?_
      obtain ⟨o5, ho5, hf⟩ := bnd hf
      refine v_callSi X (As := [.ref (ad 1), .int o4, .int v2]) (rest := [.ref (ad 0)]) (ws' := (wX12 ad c9 m_undoable m_undoStart o3.2 m_inputLength m_position m_start m_token m_value m_letters m_code m_place m_outputLength m_s m_parsed m_tried m_remembered m_slots m_kept m_away m_input m_halfway m_output)) (c_X12_whyNotRefer l hG D c9 (ad 1) m_s o4 v2 ho5) 3 gX12_refer_X12_whyNotRefer rfl rfl rfl pd_X12_whyNotRefer ⟨Nat.le_of_ble_eq_true rfl, Nat.le_of_ble_eq_true rfl⟩ rfl rfl (Nat.le_of_ble_eq_true rfl) ⟨Nat.zero_le _, Nat.zero_le _⟩ [1] [0, 2, 3, 4, 5, 6, 7, 8, 9, 10] [0, 10, 1, 2, 3, 4, 5, 6, 7, 8, 9] rfl rfl rfl rfl dX12_refer_39 42 rfl ?_
      obtain ⟨j6, hj6, hf⟩ := bnd hf
      have Jj6 : vW p l e { frames := 5, cells := 0, slots := 0, locals := 110 } s m args below meth c 3 D A [] 0 0 (MQ below (eI D (tyA c9) A o.1 ((wX12 ad c9 o.2.1 o.2.2.1 o.2.2.2.1 m_inputLength m_position m_start m_token m_value m_letters m_code m_place m_outputLength o.2.2.2.2.1 m_parsed m_tried o.2.2.2.2.2 m_slots m_kept m_away m_input m_halfway m_output) ++ [])) args s 0 0 A) (wX12 ad c9 m_undoable m_undoStart o3.2 m_inputLength m_position m_start m_token m_value m_letters m_code m_place m_outputLength m_s m_parsed m_tried m_remembered m_slots m_kept m_away m_input m_halfway m_output) 50 [(0, .ref (ad 0)), (1, .int v1), (2, .int v2)] [.int j6, .ref (ad 0)] := by
        refine v_iconst X dX12_refer_50 ic_3 51 rfl ?_
        obtain ⟨o7, ho7, hf⟩ := bnd hf
        refine v_callVi X (ci := 11) (T := TX12) (C := RX12) (As := [.int j6, .int 3]) (rest := []) (ws' := (wX12 ad c9 m_undoable m_undoStart o7.2 m_inputLength m_position m_start m_token m_value m_letters m_code m_place m_outputLength m_s m_parsed m_tried m_remembered m_slots m_kept m_away m_input m_halfway m_output)) (c_X12_refuses l hG D c9 ad m_undoable m_undoStart o3.2 m_inputLength m_position m_start m_token m_value m_letters m_code m_place m_outputLength m_s m_parsed m_tried m_remembered m_slots m_kept m_away m_input m_halfway m_output j6 3 ho7) 2 gX12_refer_X12_refuses rfl rfl rfl ⟨rfl, pd_X12_refuses⟩ ⟨Nat.le_of_ble_eq_true rfl, Nat.le_of_ble_eq_true rfl⟩ 0 rfl rfl rfl rfl (Nat.le_of_ble_eq_true rfl) ⟨Nat.zero_le _, Nat.zero_le _⟩ [0, 1, 2, 3, 4, 5, 6, 7, 8, 9, 10] [] [0, 1, 2, 3, 4, 5, 6, 7, 8, 9, 10] rfl rfl rfl rfl dX12_refer_51 54 rfl ?_
        refine v_if_eq X (tgt := 59) dX12_refer_54 rfl 57 rfl hf (fun hf => ?_) (fun hf => ?_)
        · refine v_aload_n X dX12_refer_59 0 rfl rfl 60 rfl ?_
          obtain ⟨o8, ho8, hf⟩ := bnd hf
          refine v_callVv X (ci := 11) (T := TX12) (C := RX12) (As := []) (rest := []) (ws' := (wX12 ad c9 o8.1 o8.2.1 o7.2 m_inputLength m_position m_start m_token m_value m_letters m_code m_place m_outputLength m_s m_parsed m_tried o8.2.2 m_slots m_kept m_away m_input m_halfway m_output)) (c_X12_remember l hG D c9 ad m_undoable m_undoStart o7.2 m_inputLength m_position m_start m_token m_value m_letters m_code m_place m_outputLength m_s m_parsed m_tried m_remembered m_slots m_kept m_away m_input m_halfway m_output ho8) 0 gX12_refer_X12_remember rfl rfl rfl ⟨rfl, pd_X12_remember⟩ ⟨Nat.le_of_ble_eq_true rfl, Nat.le_of_ble_eq_true rfl⟩ 0 rfl rfl rfl rfl (Nat.le_of_ble_eq_true rfl) ⟨Nat.zero_le _, Nat.zero_le _⟩ [0, 1, 2, 3, 4, 5, 6, 7, 8, 9, 10] [] [0, 1, 2, 3, 4, 5, 6, 7, 8, 9, 10] rfl rfl rfl rfl dX12_refer_60 63 rfl ?_
          refine v_aload_n X dX12_refer_63 0 rfl rfl 64 rfl ?_
          refine v_get X (C := RX12) (T := TX12) (N := 22) (ci := 11) (v := _) dX12_refer_64 k_X12_refer_w12 0 rfl rfl 0 (by decide) k_X12_refer_1 rfl rfl 67 rfl ?_
          refine v_aload_n X dX12_refer_67 0 rfl rfl 68 rfl ?_
          refine v_get X (C := RX12) (T := TX12) (N := 22) (ci := 11) (v := _) dX12_refer_68 k_X12_refer_w12 0 rfl rfl 0 (by decide) k_X12_refer_1 rfl rfl 71 rfl ?_
          refine v_iload_n X dX12_refer_71 1 rfl rfl 72 rfl ?_
          obtain ⟨o9, ho9, hf⟩ := bnd hf
          refine v_callSi X (As := [.ref (ad 1), .int v1]) (rest := [.ref (ad 1)]) (ws' := (wX12 ad c9 o8.1 o8.2.1 o7.2 m_inputLength m_position m_start m_token m_value m_letters m_code m_place m_outputLength m_s m_parsed m_tried o8.2.2 m_slots m_kept m_away m_input m_halfway m_output)) (c_X12_find l hG D c9 (ad 1) m_s v1 ho9) 2 gX12_refer_X12_find rfl rfl rfl pd_X12_find ⟨Nat.le_of_ble_eq_true rfl, Nat.le_of_ble_eq_true rfl⟩ rfl rfl (Nat.le_of_ble_eq_true rfl) ⟨Nat.zero_le _, Nat.zero_le _⟩ [1] [0, 2, 3, 4, 5, 6, 7, 8, 9, 10] [0, 10, 1, 2, 3, 4, 5, 6, 7, 8, 9] rfl rfl rfl rfl dX12_refer_72 75 rfl ?_
          refine v_iload_n X dX12_refer_75 2 rfl rfl 76 rfl ?_
          refine v_iconst X dX12_refer_76 ic_m1 77 rfl ?_
          obtain ⟨o10, ho10, hf⟩ := bnd hf
          refine v_callSi X (As := [.ref (ad 1), .int o9, .int v2, .int (-1)]) (rest := []) (ws' := (wX12 ad c9 o8.1 o8.2.1 o7.2 m_inputLength m_position m_start m_token m_value m_letters m_code m_place m_outputLength o10.2 m_parsed m_tried o8.2.2 m_slots m_kept m_away m_input m_halfway m_output)) (c_X12_derive l hG D c9 (ad 1) m_s o9 v2 (-1) ho10) 4 gX12_refer_X12_derive rfl rfl rfl pd_X12_derive ⟨Nat.le_of_ble_eq_true rfl, Nat.le_of_ble_eq_true rfl⟩ rfl rfl (Nat.le_of_ble_eq_true rfl) ⟨Nat.zero_le _, Nat.zero_le _⟩ [1] [0, 2, 3, 4, 5, 6, 7, 8, 9, 10] [0, 10, 1, 2, 3, 4, 5, 6, 7, 8, 9] rfl rfl rfl rfl dX12_refer_77 80 rfl ?_
          cases hf
          exact v_iret X (Nat.zero_le _) (Nat.zero_le _) dX12_refer_80
        · refine v_iconst X dX12_refer_57 ic_0 58 rfl ?_
          cases hf
          exact v_iret X (Nat.zero_le _) (Nat.zero_le _) dX12_refer_58
      clear hf
      refine v_if_eq X (tgt := 49) dX12_refer_42 rfl 45 rfl hj6 (fun hf => ?_) (fun hf => ?_)
      · refine v_iconst X dX12_refer_49 ic_0 50 rfl ?_
        cases hf
        exact Jj6
      · refine v_iconst X dX12_refer_45 ic_1 46 rfl ?_
        refine v_goto X (tgt := 50) dX12_refer_46 rfl ?_
        cases hf
        exact Jj6
theorem pd_X12_refer : yX12_refer.cls ≠ "java/lang/invoke/MethodHandle" ∧ yX12_refer.cls ≠ "java/lang/invoke/VarHandle" ∧ (parseMethodDescriptor yX12_refer.desc).map (fun d => d.parameters.length) = some 2 := by decide +kernel
theorem k_X12_request_w12 : ∀ w ∈ u_ws RX12 TX12 22, w ∈ wsX12_request := in_r _ [77, 78, 79, 80, 81, 82, 83, 84, 85, 86, 87, 88, 89, 90, 91, 92, 93, 94, 95, 96, 97, 98] rfl
theorem k_X12_request_1 : Cond.fieldLink RX12 7 "TicketGateModel" "s" "[I" ∈ wsX12_request := List.mem_of_getElem? (i := 1) rfl
def f_X12_request (m_undoable : Int32) (m_undoStart : Int32) (m_thrown : Int32) (m_s : Nat → Int32) (m_remembered : Nat → Int32) (v1 : Int32) (v2 : Int32) : Option (Int32 × Int32 × Int32 × Int32 × (Nat → Int32) × (Nat → Int32)) :=
  (f_X12_noTicket m_thrown m_s v1).bind fun o1 =>
  if o1.1 = 0 then (
    (rd m_s 463 5).bind fun x2 =>
    (f_X12_out o1.2 v2 0 (x2 - 1)).bind fun o3 =>
    if o3.1 = 0 then (
      (f_X12_find m_s v1).bind fun o4 =>
      (f_X12_whyNotRequest m_s o4 v2).bind fun o5 =>
      Option.bind (if o5 = 0 then (
        some (0))
      else (
        some (1)) : Option (Int32)) fun j6 =>
      (f_X12_refuses o3.2 j6 3).bind fun o7 =>
      if o7.1 = 0 then (
        (f_X12_remember m_undoable m_undoStart m_s m_remembered).bind fun o8 =>
        (f_X12_find m_s v1).bind fun o9 =>
        (f_X12_ofService v2).bind fun o10 =>
        (rd m_s 463 (o10 + 1)).bind fun x11 =>
        (f_X12_derive m_s o9 x11 v2).bind fun o12 =>
        some (o12.1, o8.1, o8.2.1, o7.2, o12.2, o8.2.2))
      else (
        some (0, m_undoable, m_undoStart, o7.2, m_s, m_remembered)))
    else (
      some (0, m_undoable, m_undoStart, o3.2, m_s, m_remembered)))
  else (
    some (0, m_undoable, m_undoStart, o1.2, m_s, m_remembered))
set_option maxRecDepth 100000 in
set_option maxHeartbeats 4000000 in
theorem c_X12_request (l : Launch) {G : (Nat → Prop) → State → Heap → Prop} (hG : vG G) (D : va_G) (c9 : Nat → ClassId) (ad : Nat → Nat) (m_undoable : Int32) (m_undoStart : Int32) (m_thrown : Int32) (m_inputLength : Int32) (m_position : Int32) (m_start : Int32) (m_token : Int32) (m_value : Int32) (m_letters : Int32) (m_code : Int32) (m_place : Int32) (m_outputLength : Int32) (m_s : Nat → Int32) (m_parsed : Nat → Int32) (m_tried : Nat → Int32) (m_remembered : Nat → Int32) (m_slots : Nat → Int32) (m_kept : Nat → Int32) (m_away : Nat → Int32) (m_input : Nat → Int32) (m_halfway : Nat → Int32) (m_output : Nat → Int32) (v1 : Int32) (v2 : Int32) {o : Int32 × Int32 × Int32 × Int32 × (Nat → Int32) × (Nat → Int32)} (hf : f_X12_request m_undoable m_undoStart m_thrown m_s m_remembered v1 v2 = some o) : mI l yX12_request wsX12_request { frames := 5, cells := 0, slots := 0, locals := 110 } G D (tyA c9) [.ref (ad 0), .int v1, .int v2] (wX12 ad c9 m_undoable m_undoStart m_thrown m_inputLength m_position m_start m_token m_value m_letters m_code m_place m_outputLength m_s m_parsed m_tried m_remembered m_slots m_kept m_away m_input m_halfway m_output) [] 0 0 o.1 (wX12 ad c9 o.2.1 o.2.2.1 o.2.2.2.1 m_inputLength m_position m_start m_token m_value m_letters m_code m_place m_outputLength o.2.2.2.2.1 m_parsed m_tried o.2.2.2.2.2 m_slots m_kept m_away m_input m_halfway m_output) := by
  refine mI_of hG (cc := cX12_request) (maxL := 3) (ty := .int) (by decide) rfl (Nat.le_of_ble_eq_true rfl) ?_
  intro p e s m args below meth c A X
  have X : vX p s m args meth c cX12_request 3 (some .int) RX12 wsX12_request D (tyA c9) G A := X
  refine v_eq (lv2 := [(0, .ref (ad 0)), (1, .int v1), (2, .int v2)]) rfl rfl rfl rfl ?_
  rw [f_X12_request] at hf
  refine v_aload_n X dX12_request_0 0 rfl rfl 1 rfl ?_
  refine v_iload_n X dX12_request_1 1 rfl rfl 2 rfl ?_
  obtain ⟨o1, ho1, hf⟩ := bnd hf
  refine v_callVi X (ci := 11) (T := TX12) (C := RX12) (As := [.int v1]) (rest := []) (ws' := (wX12 ad c9 m_undoable m_undoStart o1.2 m_inputLength m_position m_start m_token m_value m_letters m_code m_place m_outputLength m_s m_parsed m_tried m_remembered m_slots m_kept m_away m_input m_halfway m_output)) (c_X12_noTicket l hG D c9 ad m_undoable m_undoStart m_thrown m_inputLength m_position m_start m_token m_value m_letters m_code m_place m_outputLength m_s m_parsed m_tried m_remembered m_slots m_kept m_away m_input m_halfway m_output v1 ho1) 1 gX12_request_X12_noTicket rfl rfl rfl ⟨rfl, pd_X12_noTicket⟩ ⟨Nat.le_of_ble_eq_true rfl, Nat.le_of_ble_eq_true rfl⟩ 0 rfl rfl rfl rfl (Nat.le_of_ble_eq_true rfl) ⟨Nat.zero_le _, Nat.zero_le _⟩ [0, 1, 2, 3, 4, 5, 6, 7, 8, 9, 10] [] [0, 1, 2, 3, 4, 5, 6, 7, 8, 9, 10] rfl rfl rfl rfl dX12_request_2 5 rfl ?_
  refine v_if_ne X (tgt := 57) dX12_request_5 rfl 8 rfl hf (fun hf => ?_) (fun hf => ?_)
  · refine v_iconst X dX12_request_57 ic_0 58 rfl ?_
    cases hf
    exact v_iret X (Nat.zero_le _) (Nat.zero_le _) dX12_request_58
  · refine v_aload_n X dX12_request_8 0 rfl rfl 9 rfl ?_
    refine v_iload_n X dX12_request_9 2 rfl rfl 10 rfl ?_
    refine v_iconst X dX12_request_10 ic_0 11 rfl ?_
    refine v_aload_n X dX12_request_11 0 rfl rfl 12 rfl ?_
    refine v_get X (C := RX12) (T := TX12) (N := 22) (ci := 11) (v := _) dX12_request_12 k_X12_request_w12 0 rfl rfl 0 (by decide) k_X12_request_1 rfl rfl 15 rfl ?_
    refine v_iconst X dX12_request_15 ic_5 16 rfl ?_
    obtain ⟨x2, hx2, hf⟩ := bnd hf
    refine v_iald X dX12_request_16 1 0 rfl rfl hx2 17 rfl ?_
    refine v_iconst X dX12_request_17 ic_1 18 rfl ?_
    refine v_isub X dX12_request_18 19 rfl ?_
    obtain ⟨o3, ho3, hf⟩ := bnd hf
    refine v_callVi X (ci := 11) (T := TX12) (C := RX12) (As := [.int v2, .int 0, .int (x2 - 1)]) (rest := []) (ws' := (wX12 ad c9 m_undoable m_undoStart o3.2 m_inputLength m_position m_start m_token m_value m_letters m_code m_place m_outputLength m_s m_parsed m_tried m_remembered m_slots m_kept m_away m_input m_halfway m_output)) (c_X12_out l hG D c9 ad m_undoable m_undoStart o1.2 m_inputLength m_position m_start m_token m_value m_letters m_code m_place m_outputLength m_s m_parsed m_tried m_remembered m_slots m_kept m_away m_input m_halfway m_output v2 0 (x2 - 1) ho3) 3 gX12_request_X12_out rfl rfl rfl ⟨rfl, pd_X12_out⟩ ⟨Nat.le_of_ble_eq_true rfl, Nat.le_of_ble_eq_true rfl⟩ 0 rfl rfl rfl rfl (Nat.le_of_ble_eq_true rfl) ⟨Nat.zero_le _, Nat.zero_le _⟩ [0, 1, 2, 3, 4, 5, 6, 7, 8, 9, 10] [] [0, 1, 2, 3, 4, 5, 6, 7, 8, 9, 10] rfl rfl rfl rfl dX12_request_19 22 rfl ?_
    refine v_if_ne X (tgt := 57) dX12_request_22 rfl 25 rfl hf (fun hf => ?_) (fun hf => ?_)
    · refine v_iconst X dX12_request_57 ic_0 58 rfl ?_
      cases hf
      exact v_iret X (Nat.zero_le _) (Nat.zero_le _) dX12_request_58
    · refine v_aload_n X dX12_request_25 0 rfl rfl 26 rfl ?_
      refine v_aload_n X dX12_request_26 0 rfl rfl 27 rfl ?_
      refine v_get X (C := RX12) (T := TX12) (N := 22) (ci := 11) (v := _) dX12_request_27 k_X12_request_w12 0 rfl rfl 0 (by decide) k_X12_request_1 rfl rfl 30 rfl ?_
      refine v_aload_n X dX12_request_30 0 rfl rfl 31 rfl ?_
      refine v_get X (C := RX12) (T := TX12) (N := 22) (ci := 11) (v := _) dX12_request_31 k_X12_request_w12 0 rfl rfl 0 (by decide) k_X12_request_1 rfl rfl 34 rfl ?_
      refine v_iload_n X dX12_request_34 1 rfl rfl 35 rfl ?_
      obtain ⟨o4, ho4, hf⟩ := bnd hf
      refine v_callSi X (As := [.ref (ad 1), .int v1]) (rest := [.ref (ad 1), .ref (ad 0)]) (ws' := (wX12 ad c9 m_undoable m_undoStart o3.2 m_inputLength m_position m_start m_token m_value m_letters m_code m_place m_outputLength m_s m_parsed m_tried m_remembered m_slots m_kept m_away m_input m_halfway m_output)) (c_X12_find l hG D c9 (ad 1) m_s v1 ho4) 2 gX12_request_X12_find rfl rfl rfl pd_X12_find ⟨Nat.le_of_ble_eq_true rfl, Nat.le_of_ble_eq_true rfl⟩ rfl rfl (Nat.le_of_ble_eq_true rfl) ⟨Nat.zero_le _, Nat.zero_le _⟩ [1] [0, 2, 3, 4, 5, 6, 7, 8, 9, 10] [0, 10, 1, 2, 3, 4, 5, 6, 7, 8, 9] rfl rfl rfl rfl dX12_request_35 38 rfl ?_
      refine v_iload_n X dX12_request_38 2 rfl rfl 39 rfl ?_
      obtain ⟨o5, ho5, hf⟩ := bnd hf
      refine v_callSi X (As := [.ref (ad 1), .int o4, .int v2]) (rest := [.ref (ad 0)]) (ws' := (wX12 ad c9 m_undoable m_undoStart o3.2 m_inputLength m_position m_start m_token m_value m_letters m_code m_place m_outputLength m_s m_parsed m_tried m_remembered m_slots m_kept m_away m_input m_halfway m_output)) (c_X12_whyNotRequest l hG D c9 (ad 1) m_s o4 v2 ho5) 3 gX12_request_X12_whyNotRequest rfl rfl rfl pd_X12_whyNotRequest ⟨Nat.le_of_ble_eq_true rfl, Nat.le_of_ble_eq_true rfl⟩ rfl rfl (Nat.le_of_ble_eq_true rfl) ⟨Nat.zero_le _, Nat.zero_le _⟩ [1] [0, 2, 3, 4, 5, 6, 7, 8, 9, 10] [0, 10, 1, 2, 3, 4, 5, 6, 7, 8, 9] rfl rfl rfl rfl dX12_request_39 42 rfl ?_
      obtain ⟨j6, hj6, hf⟩ := bnd hf
      have Jj6 : vW p l e { frames := 5, cells := 0, slots := 0, locals := 110 } s m args below meth c 3 D A [] 0 0 (MQ below (eI D (tyA c9) A o.1 ((wX12 ad c9 o.2.1 o.2.2.1 o.2.2.2.1 m_inputLength m_position m_start m_token m_value m_letters m_code m_place m_outputLength o.2.2.2.2.1 m_parsed m_tried o.2.2.2.2.2 m_slots m_kept m_away m_input m_halfway m_output) ++ [])) args s 0 0 A) (wX12 ad c9 m_undoable m_undoStart o3.2 m_inputLength m_position m_start m_token m_value m_letters m_code m_place m_outputLength m_s m_parsed m_tried m_remembered m_slots m_kept m_away m_input m_halfway m_output) 50 [(0, .ref (ad 0)), (1, .int v1), (2, .int v2)] [.int j6, .ref (ad 0)] := by
        refine v_iconst X dX12_request_50 ic_3 51 rfl ?_
        obtain ⟨o7, ho7, hf⟩ := bnd hf
        refine v_callVi X (ci := 11) (T := TX12) (C := RX12) (As := [.int j6, .int 3]) (rest := []) (ws' := (wX12 ad c9 m_undoable m_undoStart o7.2 m_inputLength m_position m_start m_token m_value m_letters m_code m_place m_outputLength m_s m_parsed m_tried m_remembered m_slots m_kept m_away m_input m_halfway m_output)) (c_X12_refuses l hG D c9 ad m_undoable m_undoStart o3.2 m_inputLength m_position m_start m_token m_value m_letters m_code m_place m_outputLength m_s m_parsed m_tried m_remembered m_slots m_kept m_away m_input m_halfway m_output j6 3 ho7) 2 gX12_request_X12_refuses rfl rfl rfl ⟨rfl, pd_X12_refuses⟩ ⟨Nat.le_of_ble_eq_true rfl, Nat.le_of_ble_eq_true rfl⟩ 0 rfl rfl rfl rfl (Nat.le_of_ble_eq_true rfl) ⟨Nat.zero_le _, Nat.zero_le _⟩ [0, 1, 2, 3, 4, 5, 6, 7, 8, 9, 10] [] [0, 1, 2, 3, 4, 5, 6, 7, 8, 9, 10] rfl rfl rfl rfl dX12_request_51 54 rfl ?_
        refine v_if_eq X (tgt := 59) dX12_request_54 rfl 57 rfl hf (fun hf => ?_) (fun hf => ?_)
        · refine v_aload_n X dX12_request_59 0 rfl rfl 60 rfl ?_
          obtain ⟨o8, ho8, hf⟩ := bnd hf
          refine v_callVv X (ci := 11) (T := TX12) (C := RX12) (As := []) (rest := []) (ws' := (wX12 ad c9 o8.1 o8.2.1 o7.2 m_inputLength m_position m_start m_token m_value m_letters m_code m_place m_outputLength m_s m_parsed m_tried o8.2.2 m_slots m_kept m_away m_input m_halfway m_output)) (c_X12_remember l hG D c9 ad m_undoable m_undoStart o7.2 m_inputLength m_position m_start m_token m_value m_letters m_code m_place m_outputLength m_s m_parsed m_tried m_remembered m_slots m_kept m_away m_input m_halfway m_output ho8) 0 gX12_request_X12_remember rfl rfl rfl ⟨rfl, pd_X12_remember⟩ ⟨Nat.le_of_ble_eq_true rfl, Nat.le_of_ble_eq_true rfl⟩ 0 rfl rfl rfl rfl (Nat.le_of_ble_eq_true rfl) ⟨Nat.zero_le _, Nat.zero_le _⟩ [0, 1, 2, 3, 4, 5, 6, 7, 8, 9, 10] [] [0, 1, 2, 3, 4, 5, 6, 7, 8, 9, 10] rfl rfl rfl rfl dX12_request_60 63 rfl ?_
          refine v_aload_n X dX12_request_63 0 rfl rfl 64 rfl ?_
          refine v_get X (C := RX12) (T := TX12) (N := 22) (ci := 11) (v := _) dX12_request_64 k_X12_request_w12 0 rfl rfl 0 (by decide) k_X12_request_1 rfl rfl 67 rfl ?_
          refine v_aload_n X dX12_request_67 0 rfl rfl 68 rfl ?_
          refine v_get X (C := RX12) (T := TX12) (N := 22) (ci := 11) (v := _) dX12_request_68 k_X12_request_w12 0 rfl rfl 0 (by decide) k_X12_request_1 rfl rfl 71 rfl ?_
          refine v_iload_n X dX12_request_71 1 rfl rfl 72 rfl ?_
          obtain ⟨o9, ho9, hf⟩ := bnd hf
          refine v_callSi X (As := [.ref (ad 1), .int v1]) (rest := [.ref (ad 1)]) (ws' := (wX12 ad c9 o8.1 o8.2.1 o7.2 m_inputLength m_position m_start m_token m_value m_letters m_code m_place m_outputLength m_s m_parsed m_tried o8.2.2 m_slots m_kept m_away m_input m_halfway m_output)) (c_X12_find l hG D c9 (ad 1) m_s v1 ho9) 2 gX12_request_X12_find rfl rfl rfl pd_X12_find ⟨Nat.le_of_ble_eq_true rfl, Nat.le_of_ble_eq_true rfl⟩ rfl rfl (Nat.le_of_ble_eq_true rfl) ⟨Nat.zero_le _, Nat.zero_le _⟩ [1] [0, 2, 3, 4, 5, 6, 7, 8, 9, 10] [0, 10, 1, 2, 3, 4, 5, 6, 7, 8, 9] rfl rfl rfl rfl dX12_request_72 75 rfl ?_
          refine v_aload_n X dX12_request_75 0 rfl rfl 76 rfl ?_
          refine v_get X (C := RX12) (T := TX12) (N := 22) (ci := 11) (v := _) dX12_request_76 k_X12_request_w12 0 rfl rfl 0 (by decide) k_X12_request_1 rfl rfl 79 rfl ?_
          refine v_iload_n X dX12_request_79 2 rfl rfl 80 rfl ?_
          obtain ⟨o10, ho10, hf⟩ := bnd hf
          refine v_callSi X (As := [.int v2]) (rest := [.ref (ad 1), .int o9, .ref (ad 1)]) (ws' := (wX12 ad c9 o8.1 o8.2.1 o7.2 m_inputLength m_position m_start m_token m_value m_letters m_code m_place m_outputLength m_s m_parsed m_tried o8.2.2 m_slots m_kept m_away m_input m_halfway m_output)) (c_X12_ofService l hG D c9 v2 ho10) 1 gX12_request_X12_ofService rfl rfl rfl pd_X12_ofService ⟨Nat.le_of_ble_eq_true rfl, Nat.le_of_ble_eq_true rfl⟩ rfl rfl (Nat.le_of_ble_eq_true rfl) ⟨Nat.zero_le _, Nat.zero_le _⟩ [] [0, 1, 2, 3, 4, 5, 6, 7, 8, 9, 10] [0, 1, 2, 3, 4, 5, 6, 7, 8, 9, 10] rfl rfl rfl rfl dX12_request_80 83 rfl ?_
          refine v_iconst X dX12_request_83 ic_1 84 rfl ?_
          refine v_iadd X dX12_request_84 85 rfl ?_
          obtain ⟨x11, hx11, hf⟩ := bnd hf
          refine v_iald X dX12_request_85 1 0 rfl rfl hx11 86 rfl ?_
          refine v_iload_n X dX12_request_86 2 rfl rfl 87 rfl ?_
          obtain ⟨o12, ho12, hf⟩ := bnd hf
          refine v_callSi X (As := [.ref (ad 1), .int o9, .int x11, .int v2]) (rest := []) (ws' := (wX12 ad c9 o8.1 o8.2.1 o7.2 m_inputLength m_position m_start m_token m_value m_letters m_code m_place m_outputLength o12.2 m_parsed m_tried o8.2.2 m_slots m_kept m_away m_input m_halfway m_output)) (c_X12_derive l hG D c9 (ad 1) m_s o9 x11 v2 ho12) 4 gX12_request_X12_derive rfl rfl rfl pd_X12_derive ⟨Nat.le_of_ble_eq_true rfl, Nat.le_of_ble_eq_true rfl⟩ rfl rfl (Nat.le_of_ble_eq_true rfl) ⟨Nat.zero_le _, Nat.zero_le _⟩ [1] [0, 2, 3, 4, 5, 6, 7, 8, 9, 10] [0, 10, 1, 2, 3, 4, 5, 6, 7, 8, 9] rfl rfl rfl rfl dX12_request_87 90 rfl ?_
          cases hf
          exact v_iret X (Nat.zero_le _) (Nat.zero_le _) dX12_request_90
        · refine v_iconst X dX12_request_57 ic_0 58 rfl ?_
          cases hf
          exact v_iret X (Nat.zero_le _) (Nat.zero_le _) dX12_request_58
      clear hf
      refine v_if_eq X (tgt := 49) dX12_request_42 rfl 45 rfl hj6 (fun hf => ?_) (fun hf => ?_)
      · refine v_iconst X dX12_request_49 ic_0 50 rfl ?_
        cases hf
        exact Jj6
      · refine v_iconst X dX12_request_45 ic_1 46 rfl ?_
        refine v_goto X (tgt := 50) dX12_request_46 rfl ?_
        cases hf
        exact Jj6
theorem pd_X12_request : yX12_request.cls ≠ "java/lang/invoke/MethodHandle" ∧ yX12_request.cls ≠ "java/lang/invoke/VarHandle" ∧ (parseMethodDescriptor yX12_request.desc).map (fun d => d.parameters.length) = some 2 := by decide +kernel
