def f_X12_distanceErrors_L25 (m_s : Nat → Int32) (m_halfway : Nat → Int32) (v2 : Int32) : Nat → (Nat → Int32) → Int32 → Int32 → Option ((Nat → Int32) × Int32)
  | 0, _, _, _ => none
  | n + 1, m_away, v1, v3 =>
    (rd m_s 463 3).bind fun x3 =>
    if x3 ≤ v3 then (
      some (m_away, v1))
    else (
      (rd m_halfway 25 ((5 * v2) + v3)).bind fun x4 =>
      (f_X12_far m_s m_away v2 v3).bind fun o5 =>
      Option.bind (if x4 < 99 then (
        some (x4))
      else (
        some ((-1))) : Option (Int32)) fun j6 =>
      Option.bind (if o5.1 = j6 then (
        some (0))
      else (
        some (1)) : Option (Int32)) fun j7 =>
      f_X12_distanceErrors_L25 m_s m_halfway v2 n o5.2 (v1 + j7) (v3 + 1))
def f_X12_distanceErrors_L13 (m_s : Nat → Int32) (m_halfway : Nat → Int32) : Nat → (Nat → Int32) → Int32 → Int32 → Option ((Nat → Int32) × Int32)
  | 0, _, _, _ => none
  | n + 1, m_away, v1, v2 =>
    (rd m_s 463 3).bind fun x2 =>
    if x2 ≤ v2 then (
      some (m_away, v1))
    else (
      (f_X12_distanceErrors_L25 m_s m_halfway v2 5000 m_away v1 0).bind fun o8 =>
      f_X12_distanceErrors_L13 m_s m_halfway n o8.1 o8.2 (v2 + 1))
def f_X12_distanceErrors (m_thrown : Int32) (m_s : Nat → Int32) (m_away : Nat → Int32) (m_halfway : Nat → Int32) : Option (Int32 × Int32 × (Nat → Int32) × (Nat → Int32)) :=
  (f_X12_goHalfway m_s m_halfway).bind fun o1 =>
  (f_X12_distanceErrors_L13 m_s o1 5000 m_away 0 0).bind fun o9 =>
  some (o9.2, 0, o9.1, o1)
set_option maxRecDepth 100000 in
set_option maxHeartbeats 4000000 in
theorem l_X12_distanceErrors_L25 (l : Launch) {G : (Nat → Prop) → State → Heap → Prop} (hG : vG G) (D : va_G) (c9 : Nat → ClassId) (ad : Nat → Nat) (m_undoable : Int32) (m_undoStart : Int32) (m_thrown : Int32) (m_inputLength : Int32) (m_position : Int32) (m_start : Int32) (m_token : Int32) (m_value : Int32) (m_letters : Int32) (m_code : Int32) (m_place : Int32) (m_outputLength : Int32) (m_s : Nat → Int32) (m_parsed : Nat → Int32) (m_tried : Nat → Int32) (m_remembered : Nat → Int32) (m_slots : Nat → Int32) (m_kept : Nat → Int32) (m_input : Nat → Int32) (m_halfway : Nat → Int32) (m_output : Nat → Int32) (v2 : Int32) {p : Program} {e : Env} {s : State} {m : MethodId} {args : Array Value} {below : List Frame} {meth : Method} {c : Code} {A : Nat → Prop} {F : va_W} (X : vX p s m args meth c cX12_distanceErrors 5 (some .int) RX12 (wq yX12_distanceErrors cX12_distanceErrors 5 (some .int)) D (tyA c9) G A) {Q : State → Prop} (o : (Nat → Int32) × Int32) (K : vW p l e { frames := 3, cells := 0, slots := 0, locals := 70 } s m args below meth c 5 D A F 0 0 Q (wX12 ad c9 m_undoable m_undoStart m_thrown m_inputLength m_position m_start m_token m_value m_letters m_code m_place m_outputLength m_s m_parsed m_tried m_remembered m_slots m_kept o.1 m_input m_halfway m_output) 87 [(0, .ref (ad 0)), (1, .int o.2), (2, .int v2)] []) :
    ∀ (n : Nat) (m_away : Nat → Int32) (v1 : Int32) (v3 : Int32), f_X12_distanceErrors_L25 m_s m_halfway v2 n m_away v1 v3 = some o → vW p l e { frames := 3, cells := 0, slots := 0, locals := 70 } s m args below meth c 5 D A F 0 0 Q (wX12 ad c9 m_undoable m_undoStart m_thrown m_inputLength m_position m_start m_token m_value m_letters m_code m_place m_outputLength m_s m_parsed m_tried m_remembered m_slots m_kept m_away m_input m_halfway m_output) 25 [(0, .ref (ad 0)), (1, .int v1), (2, .int v2), (3, .int v3)] [] := by
  intro n
  induction n with
  | zero =>
    intro m_away v1 v3 hf
    rw [f_X12_distanceErrors_L25] at hf
    cases hf
  | succ n ih =>
    intro m_away v1 v3 hf
    rw [f_X12_distanceErrors_L25] at hf
    refine v_iload_n X dX12_distanceErrors_25 3 rfl rfl 26 rfl ?_
    refine v_aload_n X dX12_distanceErrors_26 0 rfl rfl 27 rfl ?_
    refine v_get X (C := RX12) (T := TX12) (N := 22) (ci := 11) (v := _) dX12_distanceErrors_27 (lay_of laym_X12) 0 rfl rfl 0 (by decide) (mw wm_304) rfl rfl 30 rfl ?_
    refine v_iconst X dX12_distanceErrors_30 ic_3 31 rfl ?_
    obtain ⟨x3, hx3, hf⟩ := bnd hf
    refine v_iald X dX12_distanceErrors_31 1 0 rfl rfl hx3 32 rfl ?_
    refine v_icmp_ge X (tgt := 87) dX12_distanceErrors_32 rfl 35 rfl hf (fun hf => ?_) (fun hf => ?_)
    · obtain rfl := Option.some.inj hf
      refine v_sub (lv' := [(0, .ref (ad 0)), (1, .int v1), (2, .int v2)]) [0, 1, 2] rfl ?_
      exact K
    · refine v_aload_n X dX12_distanceErrors_35 0 rfl rfl 36 rfl ?_
      refine v_get X (C := RX12) (T := TX12) (N := 22) (ci := 11) (v := _) dX12_distanceErrors_36 (lay_of laym_X12) 0 rfl rfl 19 (by decide) (mw wm_350) rfl rfl 39 rfl ?_
      refine v_iconst X dX12_distanceErrors_39 ic_5 40 rfl ?_
      refine v_iload_n X dX12_distanceErrors_40 2 rfl rfl 41 rfl ?_
      refine v_imul X dX12_distanceErrors_41 42 rfl ?_
      refine v_iload_n X dX12_distanceErrors_42 3 rfl rfl 43 rfl ?_
      refine v_iadd X dX12_distanceErrors_43 44 rfl ?_
      obtain ⟨x4, hx4, hf⟩ := bnd hf
      refine v_iald X dX12_distanceErrors_44 9 0 rfl rfl hx4 45 rfl ?_
      refine v_istore X (lv' := [(4, .int x4), (0, .ref (ad 0)), (1, .int v1), (2, .int v2), (3, .int v3)]) dX12_distanceErrors_45 (by decide) rfl 47 rfl ?_
      refine v_iload_n X dX12_distanceErrors_47 2 rfl rfl 48 rfl ?_
      refine v_aload_n X dX12_distanceErrors_48 1 rfl rfl 49 rfl ?_
      refine v_aload_n X dX12_distanceErrors_49 1 rfl rfl 50 rfl ?_
      refine v_get X (C := RX12) (T := TX12) (N := 22) (ci := 11) (v := _) dX12_distanceErrors_50 (lay_of laym_X12) 0 rfl rfl 0 (by decide) (mw wm_304) rfl rfl 53 rfl ?_
      refine v_iload_n X dX12_distanceErrors_53 3 rfl rfl 54 rfl ?_
      refine v_iload_n X dX12_distanceErrors_54 4 rfl rfl 55 rfl ?_
      obtain ⟨o5, ho5, hf⟩ := bnd hf
      refine v_callVi X (ci := 11) (T := TX12) (C := RX12) (As := [.ref (ad 1), .int v2, .int v3]) (rest := [.int v1]) (ws' := (wX12 ad c9 m_undoable m_undoStart m_thrown m_inputLength m_position m_start m_token m_value m_letters m_code m_place m_outputLength m_s m_parsed m_tried m_remembered m_slots m_kept o5.2 m_input m_halfway m_output)) (c_X12_far l hG D c9 ad m_undoable m_undoStart m_thrown m_inputLength m_position m_start m_token m_value m_letters m_code m_place m_outputLength m_s m_parsed m_tried m_remembered m_slots m_kept m_away m_input m_halfway m_output v2 v3 ho5) 3 (gV wm_325 wm_326 wm_327 wm_37 wm_328) rfl rfl rfl ⟨rfl, pd_X12_far⟩ ⟨Nat.le_of_ble_eq_true rfl, Nat.le_of_ble_eq_true rfl⟩ 0 rfl rfl rfl rfl (Nat.le_of_ble_eq_true rfl) ⟨Nat.zero_le _, Nat.zero_le _⟩ [0, 1, 2, 3, 4, 5, 6, 7, 8, 9, 10] [] [0, 1, 2, 3, 4, 5, 6, 7, 8, 9, 10] rfl rfl rfl rfl dX12_distanceErrors_55 58 rfl ?_
      refine v_iload X dX12_distanceErrors_58 0 rfl 60 rfl ?_
      refine v_bipush X dX12_distanceErrors_60 bp_99 62 rfl ?_
      obtain ⟨j6, hj6, hf⟩ := bnd hf
      have Jj6 : vW p l e { frames := 3, cells := 0, slots := 0, locals := 70 } s m args below meth c 5 D A F 0 0 Q (wX12 ad c9 m_undoable m_undoStart m_thrown m_inputLength m_position m_start m_token m_value m_letters m_code m_place m_outputLength m_s m_parsed m_tried m_remembered m_slots m_kept o5.2 m_input m_halfway m_output) 71 [(0, .ref (ad 0)), (2, .int v2), (3, .int v3)] [.int j6, .int o5.1, .int v1] := by
        obtain ⟨j7, hj7, hf⟩ := bnd hf
        have Jj7 : vW p l e { frames := 3, cells := 0, slots := 0, locals := 70 } s m args below meth c 5 D A F 0 0 Q (wX12 ad c9 m_undoable m_undoStart m_thrown m_inputLength m_position m_start m_token m_value m_letters m_code m_place m_outputLength m_s m_parsed m_tried m_remembered m_slots m_kept o5.2 m_input m_halfway m_output) 79 [(0, .ref (ad 0)), (2, .int v2), (3, .int v3)] [.int j7, .int v1] := by
          refine v_iadd X dX12_distanceErrors_79 80 rfl ?_
          refine v_istore_n X (lv' := [(1, .int (v1 + j7)), (0, .ref (ad 0)), (2, .int v2), (3, .int v3)]) dX12_distanceErrors_80 rfl (by decide) rfl 81 rfl ?_
          refine v_iinc X (lv' := [(3, .int (v3 + 1)), (1, .int (v1 + j7)), (0, .ref (ad 0)), (2, .int v2)]) dX12_distanceErrors_81 3 rfl ic_1 (by decide) rfl 84 rfl ?_
          refine v_goto X (tgt := 25) dX12_distanceErrors_84 rfl ?_
          refine v_sub (lv' := [(0, .ref (ad 0)), (1, .int (v1 + j7)), (2, .int v2), (3, .int (v3 + 1))]) [2, 1, 3, 0] rfl ?_
          exact ih o5.2 (v1 + j7) (v3 + 1) hf
        clear hf
        refine v_icmp_ne X (tgt := 78) dX12_distanceErrors_71 rfl 74 rfl hj7 (fun hf => ?_) (fun hf => ?_)
        · refine v_iconst X dX12_distanceErrors_78 ic_1 79 rfl ?_
          obtain rfl := Option.some.inj hf
          exact Jj7
        · refine v_iconst X dX12_distanceErrors_74 ic_0 75 rfl ?_
          refine v_goto X (tgt := 79) dX12_distanceErrors_75 rfl ?_
          obtain rfl := Option.some.inj hf
          exact Jj7
      clear hf
      refine v_icmp_lt X (tgt := 69) dX12_distanceErrors_62 rfl 65 rfl hj6 (fun hf => ?_) (fun hf => ?_)
      · refine v_iload X dX12_distanceErrors_69 0 rfl 71 rfl ?_
        obtain rfl := Option.some.inj hf
        refine v_sub (lv' := [(0, .ref (ad 0)), (2, .int v2), (3, .int v3)]) [1, 3, 4] rfl ?_
        exact Jj6
      · refine v_iconst X dX12_distanceErrors_65 ic_m1 66 rfl ?_
        refine v_goto X (tgt := 71) dX12_distanceErrors_66 rfl ?_
        obtain rfl := Option.some.inj hf
        refine v_sub (lv' := [(0, .ref (ad 0)), (2, .int v2), (3, .int v3)]) [1, 3, 4] rfl ?_
        exact Jj6
set_option maxRecDepth 100000 in
set_option maxHeartbeats 4000000 in
theorem l_X12_distanceErrors_L13 (l : Launch) {G : (Nat → Prop) → State → Heap → Prop} (hG : vG G) (D : va_G) (c9 : Nat → ClassId) (ad : Nat → Nat) (m_undoable : Int32) (m_undoStart : Int32) (m_thrown : Int32) (m_inputLength : Int32) (m_position : Int32) (m_start : Int32) (m_token : Int32) (m_value : Int32) (m_letters : Int32) (m_code : Int32) (m_place : Int32) (m_outputLength : Int32) (m_s : Nat → Int32) (m_parsed : Nat → Int32) (m_tried : Nat → Int32) (m_remembered : Nat → Int32) (m_slots : Nat → Int32) (m_kept : Nat → Int32) (m_input : Nat → Int32) (m_halfway : Nat → Int32) (m_output : Nat → Int32) {p : Program} {e : Env} {s : State} {m : MethodId} {args : Array Value} {below : List Frame} {meth : Method} {c : Code} {A : Nat → Prop} {F : va_W} (X : vX p s m args meth c cX12_distanceErrors 5 (some .int) RX12 (wq yX12_distanceErrors cX12_distanceErrors 5 (some .int)) D (tyA c9) G A) {Q : State → Prop} (o : (Nat → Int32) × Int32) (K : vW p l e { frames := 3, cells := 0, slots := 0, locals := 70 } s m args below meth c 5 D A F 0 0 Q (wX12 ad c9 m_undoable m_undoStart m_thrown m_inputLength m_position m_start m_token m_value m_letters m_code m_place m_outputLength m_s m_parsed m_tried m_remembered m_slots m_kept o.1 m_input m_halfway m_output) 93 [(1, .int o.2)] []) :
    ∀ (n : Nat) (m_away : Nat → Int32) (v1 : Int32) (v2 : Int32), f_X12_distanceErrors_L13 m_s m_halfway n m_away v1 v2 = some o → vW p l e { frames := 3, cells := 0, slots := 0, locals := 70 } s m args below meth c 5 D A F 0 0 Q (wX12 ad c9 m_undoable m_undoStart m_thrown m_inputLength m_position m_start m_token m_value m_letters m_code m_place m_outputLength m_s m_parsed m_tried m_remembered m_slots m_kept m_away m_input m_halfway m_output) 13 [(0, .ref (ad 0)), (1, .int v1), (2, .int v2)] [] := by
  intro n
  induction n with
  | zero =>
    intro m_away v1 v2 hf
    rw [f_X12_distanceErrors_L13] at hf
    cases hf
  | succ n ih =>
    intro m_away v1 v2 hf
    rw [f_X12_distanceErrors_L13] at hf
    refine v_iload_n X dX12_distanceErrors_13 2 rfl rfl 14 rfl ?_
    refine v_aload_n X dX12_distanceErrors_14 0 rfl rfl 15 rfl ?_
    refine v_get X (C := RX12) (T := TX12) (N := 22) (ci := 11) (v := _) dX12_distanceErrors_15 (lay_of laym_X12) 0 rfl rfl 0 (by decide) (mw wm_304) rfl rfl 18 rfl ?_
    refine v_iconst X dX12_distanceErrors_18 ic_3 19 rfl ?_
    obtain ⟨x2, hx2, hf⟩ := bnd hf
    refine v_iald X dX12_distanceErrors_19 1 0 rfl rfl hx2 20 rfl ?_
    refine v_icmp_ge X (tgt := 93) dX12_distanceErrors_20 rfl 23 rfl hf (fun hf => ?_) (fun hf => ?_)
    · obtain rfl := Option.some.inj hf
      refine v_sub (lv' := [(1, .int v1)]) [1] rfl ?_
      exact K
    · refine v_iconst X dX12_distanceErrors_23 ic_0 24 rfl ?_
      refine v_istore_n X (lv' := [(3, .int 0), (0, .ref (ad 0)), (1, .int v1), (2, .int v2)]) dX12_distanceErrors_24 rfl (by decide) rfl 25 rfl ?_
      obtain ⟨o8, ho8, hf⟩ := bnd hf
      refine v_sub (lv' := [(0, .ref (ad 0)), (1, .int v1), (2, .int v2), (3, .int 0)]) [1, 2, 3, 0] rfl ?_
      refine l_X12_distanceErrors_L25 l hG D c9 ad m_undoable m_undoStart m_thrown m_inputLength m_position m_start m_token m_value m_letters m_code m_place m_outputLength m_s m_parsed m_tried m_remembered m_slots m_kept m_input m_halfway m_output v2 X o8 ?_ 5000 m_away v1 0 ho8
      refine v_iinc X (lv' := [(2, .int (v2 + 1)), (0, .ref (ad 0)), (1, .int o8.2)]) dX12_distanceErrors_87 2 rfl ic_1 (by decide) rfl 90 rfl ?_
      refine v_goto X (tgt := 13) dX12_distanceErrors_90 rfl ?_
      refine v_sub (lv' := [(0, .ref (ad 0)), (1, .int o8.2), (2, .int (v2 + 1))]) [1, 2, 0] rfl ?_
      exact ih o8.1 o8.2 (v2 + 1) hf
set_option maxRecDepth 100000 in
set_option maxHeartbeats 4000000 in
theorem c_X12_distanceErrors (l : Launch) {G : (Nat → Prop) → State → Heap → Prop} (hG : vG G) (D : va_G) (c9 : Nat → ClassId) (ad : Nat → Nat) (m_undoable : Int32) (m_undoStart : Int32) (m_thrown : Int32) (m_inputLength : Int32) (m_position : Int32) (m_start : Int32) (m_token : Int32) (m_value : Int32) (m_letters : Int32) (m_code : Int32) (m_place : Int32) (m_outputLength : Int32) (m_s : Nat → Int32) (m_parsed : Nat → Int32) (m_tried : Nat → Int32) (m_remembered : Nat → Int32) (m_slots : Nat → Int32) (m_kept : Nat → Int32) (m_away : Nat → Int32) (m_input : Nat → Int32) (m_halfway : Nat → Int32) (m_output : Nat → Int32)  {o : Int32 × Int32 × (Nat → Int32) × (Nat → Int32)} (hf : f_X12_distanceErrors m_thrown m_s m_away m_halfway = some o) : mI l yX12_distanceErrors (wq yX12_distanceErrors cX12_distanceErrors 5 (some .int)) { frames := 3, cells := 0, slots := 0, locals := 70 } G D (tyA c9) [.ref (ad 0)] (wX12 ad c9 m_undoable m_undoStart m_thrown m_inputLength m_position m_start m_token m_value m_letters m_code m_place m_outputLength m_s m_parsed m_tried m_remembered m_slots m_kept m_away m_input m_halfway m_output) [] 0 0 o.1 (wX12 ad c9 m_undoable m_undoStart o.2.1 m_inputLength m_position m_start m_token m_value m_letters m_code m_place m_outputLength m_s m_parsed m_tried m_remembered m_slots m_kept o.2.2.1 m_input o.2.2.2 m_output) := by
  refine mI_of hG (cc := cX12_distanceErrors) (maxL := 5) (ty := .int) (by decide) rfl (Nat.le_of_ble_eq_true rfl) ?_
  intro p e s m args below meth c A X
  have X : vX p s m args meth c cX12_distanceErrors 5 (some .int) RX12 (wq yX12_distanceErrors cX12_distanceErrors 5 (some .int)) D (tyA c9) G A := X
  refine v_eq (lv2 := [(0, .ref (ad 0))]) rfl rfl rfl rfl ?_
  rw [f_X12_distanceErrors] at hf
  refine v_aload_n X dX12_distanceErrors_0 0 rfl rfl 1 rfl ?_
  refine v_iconst X dX12_distanceErrors_1 ic_0 2 rfl ?_
  refine v_put X (C := RX12) (T := TX12) (N := 22) (ci := 11) (ty := tyX12 8) (ws' := (wX12 ad c9 m_undoable m_undoStart 0 m_inputLength m_position m_start m_token m_value m_letters m_code m_place m_outputLength m_s m_parsed m_tried m_remembered m_slots m_kept m_away m_input m_halfway m_output)) dX12_distanceErrors_2 (lay_of laym_X12) 0 rfl rfl 8 (by decide) tyX12 tyX12_ok nmX12 (mw wm_33) rfl rfl (tyX12_ok 8 (by decide)) rfl rfl (Nat.le_of_ble_eq_true rfl) rfl 5 rfl ?_
  refine v_aload_n X dX12_distanceErrors_5 0 rfl rfl 6 rfl ?_
  obtain ⟨o1, ho1, hf⟩ := bnd hf
  refine v_callVv X (ci := 11) (T := TX12) (C := RX12) (As := []) (rest := []) (ws' := (wX12 ad c9 m_undoable m_undoStart 0 m_inputLength m_position m_start m_token m_value m_letters m_code m_place m_outputLength m_s m_parsed m_tried m_remembered m_slots m_kept m_away m_input o1 m_output)) (c_X12_goHalfway l hG D c9 ad m_undoable m_undoStart 0 m_inputLength m_position m_start m_token m_value m_letters m_code m_place m_outputLength m_s m_parsed m_tried m_remembered m_slots m_kept m_away m_input m_halfway m_output ho1) 0 (gV wm_351 wm_352 wm_353 wm_37 wm_354) rfl rfl rfl ⟨rfl, pd_X12_goHalfway⟩ ⟨Nat.le_of_ble_eq_true rfl, Nat.le_of_ble_eq_true rfl⟩ 0 rfl rfl rfl rfl (Nat.le_of_ble_eq_true rfl) ⟨Nat.zero_le _, Nat.zero_le _⟩ [0, 1, 2, 3, 4, 5, 6, 7, 8, 9, 10] [] [0, 1, 2, 3, 4, 5, 6, 7, 8, 9, 10] rfl rfl rfl rfl dX12_distanceErrors_6 9 rfl ?_
  refine v_iconst X dX12_distanceErrors_9 ic_0 10 rfl ?_
  refine v_istore_n X (lv' := [(1, .int 0), (0, .ref (ad 0))]) dX12_distanceErrors_10 rfl (by decide) rfl 11 rfl ?_
  refine v_iconst X dX12_distanceErrors_11 ic_0 12 rfl ?_
  refine v_istore_n X (lv' := [(2, .int 0), (1, .int 0), (0, .ref (ad 0))]) dX12_distanceErrors_12 rfl (by decide) rfl 13 rfl ?_
  obtain ⟨o9, ho9, hf⟩ := bnd hf
  refine v_sub (lv' := [(0, .ref (ad 0)), (1, .int 0), (2, .int 0)]) [2, 1, 0] rfl ?_
  refine l_X12_distanceErrors_L13 l hG D c9 ad m_undoable m_undoStart 0 m_inputLength m_position m_start m_token m_value m_letters m_code m_place m_outputLength m_s m_parsed m_tried m_remembered m_slots m_kept m_input o1 m_output X o9 ?_ 5000 m_away 0 0 ho9
  refine v_iload_n X dX12_distanceErrors_93 0 rfl rfl 94 rfl ?_
  obtain rfl := Option.some.inj hf
  exact v_iret X (Nat.zero_le _) (Nat.zero_le _) dX12_distanceErrors_94
theorem pd_X12_distanceErrors : yX12_distanceErrors.cls ≠ "java/lang/invoke/MethodHandle" ∧ yX12_distanceErrors.cls ≠ "java/lang/invoke/VarHandle" ∧ (parseMethodDescriptor yX12_distanceErrors.desc).map (fun d => d.parameters.length) = some 0 := by decide +kernel
def f_X12_login (m_undoable : Int32) (m_undoStart : Int32) (m_thrown : Int32) (m_s : Nat → Int32) (m_remembered : Nat → Int32) (v1 : Int32) (v2 : Int32) (v3 : Int32) : Option (Int32 × Int32 × Int32 × Int32 × (Nat → Int32) × (Nat → Int32)) :=
  (f_X12_noUser m_thrown m_s v1).bind fun o1 =>
  if o1.1 = 0 then (
    (f_X12_out o1.2 v2 0 9999).bind fun o2 =>
    if o2.1 = 0 then (
      (f_X12_whyNotLogin m_s v1 v2).bind fun o3 =>
      Option.bind (if o3 = 0 then (
        some (0))
      else (
        some (1)) : Option (Int32)) fun j4 =>
      (f_X12_refuses o2.2 j4 3).bind fun o5 =>
      if o5.1 = 0 then (
        (f_X12_remember m_undoable m_undoStart m_s m_remembered).bind fun o6 =>
        (f_X12_enters m_s v1 v3).bind fun o7 =>
        some (o7.1, o6.1, o6.2.1, o5.2, o7.2, o6.2.2))
      else (
        some (0, m_undoable, m_undoStart, o5.2, m_s, m_remembered)))
    else (
      some (0, m_undoable, m_undoStart, o2.2, m_s, m_remembered)))
  else (
    some (0, m_undoable, m_undoStart, o1.2, m_s, m_remembered))
set_option maxRecDepth 100000 in
set_option maxHeartbeats 4000000 in
theorem c_X12_login (l : Launch) {G : (Nat → Prop) → State → Heap → Prop} (hG : vG G) (D : va_G) (c9 : Nat → ClassId) (ad : Nat → Nat) (m_undoable : Int32) (m_undoStart : Int32) (m_thrown : Int32) (m_inputLength : Int32) (m_position : Int32) (m_start : Int32) (m_token : Int32) (m_value : Int32) (m_letters : Int32) (m_code : Int32) (m_place : Int32) (m_outputLength : Int32) (m_s : Nat → Int32) (m_parsed : Nat → Int32) (m_tried : Nat → Int32) (m_remembered : Nat → Int32) (m_slots : Nat → Int32) (m_kept : Nat → Int32) (m_away : Nat → Int32) (m_input : Nat → Int32) (m_halfway : Nat → Int32) (m_output : Nat → Int32) (v1 : Int32) (v2 : Int32) (v3 : Int32) {o : Int32 × Int32 × Int32 × Int32 × (Nat → Int32) × (Nat → Int32)} (hf : f_X12_login m_undoable m_undoStart m_thrown m_s m_remembered v1 v2 v3 = some o) : mI l yX12_login (wq yX12_login cX12_login 4 (some .int)) { frames := 4, cells := 0, slots := 0, locals := 87 } G D (tyA c9) [.ref (ad 0), .int v1, .int v2, .int v3] (wX12 ad c9 m_undoable m_undoStart m_thrown m_inputLength m_position m_start m_token m_value m_letters m_code m_place m_outputLength m_s m_parsed m_tried m_remembered m_slots m_kept m_away m_input m_halfway m_output) [] 0 0 o.1 (wX12 ad c9 o.2.1 o.2.2.1 o.2.2.2.1 m_inputLength m_position m_start m_token m_value m_letters m_code m_place m_outputLength o.2.2.2.2.1 m_parsed m_tried o.2.2.2.2.2 m_slots m_kept m_away m_input m_halfway m_output) := by
  refine mI_of hG (cc := cX12_login) (maxL := 4) (ty := .int) (by decide) rfl (Nat.le_of_ble_eq_true rfl) ?_
  intro p e s m args below meth c A X
  have X : vX p s m args meth c cX12_login 4 (some .int) RX12 (wq yX12_login cX12_login 4 (some .int)) D (tyA c9) G A := X
  refine v_eq (lv2 := [(0, .ref (ad 0)), (1, .int v1), (2, .int v2), (3, .int v3)]) rfl rfl rfl rfl ?_
  rw [f_X12_login] at hf
  refine v_aload_n X dX12_login_0 0 rfl rfl 1 rfl ?_
  refine v_iload_n X dX12_login_1 1 rfl rfl 2 rfl ?_
  obtain ⟨o1, ho1, hf⟩ := bnd hf
  refine v_callVi X (ci := 11) (T := TX12) (C := RX12) (As := [.int v1]) (rest := []) (ws' := (wX12 ad c9 m_undoable m_undoStart o1.2 m_inputLength m_position m_start m_token m_value m_letters m_code m_place m_outputLength m_s m_parsed m_tried m_remembered m_slots m_kept m_away m_input m_halfway m_output)) (c_X12_noUser l hG D c9 ad m_undoable m_undoStart m_thrown m_inputLength m_position m_start m_token m_value m_letters m_code m_place m_outputLength m_s m_parsed m_tried m_remembered m_slots m_kept m_away m_input m_halfway m_output v1 ho1) 1 (gV wm_329 wm_330 wm_331 wm_37 wm_332) rfl rfl rfl ⟨rfl, pd_X12_noUser⟩ ⟨Nat.le_of_ble_eq_true rfl, Nat.le_of_ble_eq_true rfl⟩ 0 rfl rfl rfl rfl (Nat.le_of_ble_eq_true rfl) ⟨Nat.zero_le _, Nat.zero_le _⟩ [0, 1, 2, 3, 4, 5, 6, 7, 8, 9, 10] [] [0, 1, 2, 3, 4, 5, 6, 7, 8, 9, 10] rfl rfl rfl rfl dX12_login_2 5 rfl ?_
  refine v_if_ne X (tgt := 45) dX12_login_5 rfl 8 rfl hf (fun hf => ?_) (fun hf => ?_)
  · refine v_iconst X dX12_login_45 ic_0 46 rfl ?_
    obtain rfl := Option.some.inj hf
    exact v_iret X (Nat.zero_le _) (Nat.zero_le _) dX12_login_46
  · refine v_aload_n X dX12_login_8 0 rfl rfl 9 rfl ?_
    refine v_iload_n X dX12_login_9 2 rfl rfl 10 rfl ?_
    refine v_iconst X dX12_login_10 ic_0 11 rfl ?_
    refine v_sipush X dX12_login_11 sp_9999 14 rfl ?_
    obtain ⟨o2, ho2, hf⟩ := bnd hf
    refine v_callVi X (ci := 11) (T := TX12) (C := RX12) (As := [.int v2, .int 0, .int 9999]) (rest := []) (ws' := (wX12 ad c9 m_undoable m_undoStart o2.2 m_inputLength m_position m_start m_token m_value m_letters m_code m_place m_outputLength m_s m_parsed m_tried m_remembered m_slots m_kept m_away m_input m_halfway m_output)) (c_X12_out l hG D c9 ad m_undoable m_undoStart o1.2 m_inputLength m_position m_start m_token m_value m_letters m_code m_place m_outputLength m_s m_parsed m_tried m_remembered m_slots m_kept m_away m_input m_halfway m_output v2 0 9999 ho2) 3 (gV wm_345 wm_346 wm_347 wm_37 wm_348) rfl rfl rfl ⟨rfl, pd_X12_out⟩ ⟨Nat.le_of_ble_eq_true rfl, Nat.le_of_ble_eq_true rfl⟩ 0 rfl rfl rfl rfl (Nat.le_of_ble_eq_true rfl) ⟨Nat.zero_le _, Nat.zero_le _⟩ [0, 1, 2, 3, 4, 5, 6, 7, 8, 9, 10] [] [0, 1, 2, 3, 4, 5, 6, 7, 8, 9, 10] rfl rfl rfl rfl dX12_login_14 17 rfl ?_
    refine v_if_ne X (tgt := 45) dX12_login_17 rfl 20 rfl hf (fun hf => ?_) (fun hf => ?_)
    · refine v_iconst X dX12_login_45 ic_0 46 rfl ?_
      obtain rfl := Option.some.inj hf
      exact v_iret X (Nat.zero_le _) (Nat.zero_le _) dX12_login_46
    · refine v_aload_n X dX12_login_20 0 rfl rfl 21 rfl ?_
      refine v_aload_n X dX12_login_21 0 rfl rfl 22 rfl ?_
      refine v_get X (C := RX12) (T := TX12) (N := 22) (ci := 11) (v := _) dX12_login_22 (lay_of laym_X12) 0 rfl rfl 0 (by decide) (mw wm_304) rfl rfl 25 rfl ?_
      refine v_iload_n X dX12_login_25 1 rfl rfl 26 rfl ?_
      refine v_iload_n X dX12_login_26 2 rfl rfl 27 rfl ?_
      obtain ⟨o3, ho3, hf⟩ := bnd hf
      refine v_callSi X (As := [.ref (ad 1), .int v1, .int v2]) (rest := [.ref (ad 0)]) (ws' := (wX12 ad c9 m_undoable m_undoStart o2.2 m_inputLength m_position m_start m_token m_value m_letters m_code m_place m_outputLength m_s m_parsed m_tried m_remembered m_slots m_kept m_away m_input m_halfway m_output)) (c_X12_whyNotLogin l hG D c9 (ad 1) m_s v1 v2 ho3) 3 (gS wm_209 wm_210 wm_37 wm_211) rfl rfl rfl pd_X12_whyNotLogin ⟨Nat.le_of_ble_eq_true rfl, Nat.le_of_ble_eq_true rfl⟩ rfl rfl (Nat.le_of_ble_eq_true rfl) ⟨Nat.zero_le _, Nat.zero_le _⟩ [1] [0, 2, 3, 4, 5, 6, 7, 8, 9, 10] [0, 10, 1, 2, 3, 4, 5, 6, 7, 8, 9] rfl rfl rfl rfl dX12_login_27 30 rfl ?_
      obtain ⟨j4, hj4, hf⟩ := bnd hf
      have Jj4 : vW p l e { frames := 4, cells := 0, slots := 0, locals := 87 } s m args below meth c 4 D A [] 0 0 (MQ below (eI D (tyA c9) A o.1 ((wX12 ad c9 o.2.1 o.2.2.1 o.2.2.2.1 m_inputLength m_position m_start m_token m_value m_letters m_code m_place m_outputLength o.2.2.2.2.1 m_parsed m_tried o.2.2.2.2.2 m_slots m_kept m_away m_input m_halfway m_output) ++ [])) args s 0 0 A) (wX12 ad c9 m_undoable m_undoStart o2.2 m_inputLength m_position m_start m_token m_value m_letters m_code m_place m_outputLength m_s m_parsed m_tried m_remembered m_slots m_kept m_away m_input m_halfway m_output) 38 [(0, .ref (ad 0)), (1, .int v1), (3, .int v3)] [.int j4, .ref (ad 0)] := by
        refine v_iconst X dX12_login_38 ic_3 39 rfl ?_
        obtain ⟨o5, ho5, hf⟩ := bnd hf
        refine v_callVi X (ci := 11) (T := TX12) (C := RX12) (As := [.int j4, .int 3]) (rest := []) (ws' := (wX12 ad c9 m_undoable m_undoStart o5.2 m_inputLength m_position m_start m_token m_value m_letters m_code m_place m_outputLength m_s m_parsed m_tried m_remembered m_slots m_kept m_away m_input m_halfway m_output)) (c_X12_refuses l hG D c9 ad m_undoable m_undoStart o2.2 m_inputLength m_position m_start m_token m_value m_letters m_code m_place m_outputLength m_s m_parsed m_tried m_remembered m_slots m_kept m_away m_input m_halfway m_output j4 3 ho5) 2 (gV wm_103 wm_104 wm_105 wm_37 wm_106) rfl rfl rfl ⟨rfl, pd_X12_refuses⟩ ⟨Nat.le_of_ble_eq_true rfl, Nat.le_of_ble_eq_true rfl⟩ 0 rfl rfl rfl rfl (Nat.le_of_ble_eq_true rfl) ⟨Nat.zero_le _, Nat.zero_le _⟩ [0, 1, 2, 3, 4, 5, 6, 7, 8, 9, 10] [] [0, 1, 2, 3, 4, 5, 6, 7, 8, 9, 10] rfl rfl rfl rfl dX12_login_39 42 rfl ?_
        refine v_if_eq X (tgt := 47) dX12_login_42 rfl 45 rfl hf (fun hf => ?_) (fun hf => ?_)
        · refine v_aload_n X dX12_login_47 0 rfl rfl 48 rfl ?_
          obtain ⟨o6, ho6, hf⟩ := bnd hf
          refine v_callVv X (ci := 11) (T := TX12) (C := RX12) (As := []) (rest := []) (ws' := (wX12 ad c9 o6.1 o6.2.1 o5.2 m_inputLength m_position m_start m_token m_value m_letters m_code m_place m_outputLength m_s m_parsed m_tried o6.2.2 m_slots m_kept m_away m_input m_halfway m_output)) (c_X12_remember l hG D c9 ad m_undoable m_undoStart o5.2 m_inputLength m_position m_start m_token m_value m_letters m_code m_place m_outputLength m_s m_parsed m_tried m_remembered m_slots m_kept m_away m_input m_halfway m_output ho6) 0 (gV wm_313 wm_314 wm_315 wm_37 wm_316) rfl rfl rfl ⟨rfl, pd_X12_remember⟩ ⟨Nat.le_of_ble_eq_true rfl, Nat.le_of_ble_eq_true rfl⟩ 0 rfl rfl rfl rfl (Nat.le_of_ble_eq_true rfl) ⟨Nat.zero_le _, Nat.zero_le _⟩ [0, 1, 2, 3, 4, 5, 6, 7, 8, 9, 10] [] [0, 1, 2, 3, 4, 5, 6, 7, 8, 9, 10] rfl rfl rfl rfl dX12_login_48 51 rfl ?_
          refine v_aload_n X dX12_login_51 0 rfl rfl 52 rfl ?_
          refine v_get X (C := RX12) (T := TX12) (N := 22) (ci := 11) (v := _) dX12_login_52 (lay_of laym_X12) 0 rfl rfl 0 (by decide) (mw wm_304) rfl rfl 55 rfl ?_
          refine v_iload_n X dX12_login_55 1 rfl rfl 56 rfl ?_
          refine v_iload_n X dX12_login_56 2 rfl rfl 57 rfl ?_
          obtain ⟨o7, ho7, hf⟩ := bnd hf
          refine v_callSi X (As := [.ref (ad 1), .int v1, .int v3]) (rest := []) (ws' := (wX12 ad c9 o6.1 o6.2.1 o5.2 m_inputLength m_position m_start m_token m_value m_letters m_code m_place m_outputLength o7.2 m_parsed m_tried o6.2.2 m_slots m_kept m_away m_input m_halfway m_output)) (c_X12_enters l hG D c9 (ad 1) m_s v1 v3 ho7) 3 (gS wm_212 wm_213 wm_37 wm_214) rfl rfl rfl pd_X12_enters ⟨Nat.le_of_ble_eq_true rfl, Nat.le_of_ble_eq_true rfl⟩ rfl rfl (Nat.le_of_ble_eq_true rfl) ⟨Nat.zero_le _, Nat.zero_le _⟩ [1] [0, 2, 3, 4, 5, 6, 7, 8, 9, 10] [0, 10, 1, 2, 3, 4, 5, 6, 7, 8, 9] rfl rfl rfl rfl dX12_login_57 60 rfl ?_
          obtain rfl := Option.some.inj hf
          exact v_iret X (Nat.zero_le _) (Nat.zero_le _) dX12_login_60
        · refine v_iconst X dX12_login_45 ic_0 46 rfl ?_
          obtain rfl := Option.some.inj hf
          exact v_iret X (Nat.zero_le _) (Nat.zero_le _) dX12_login_46
      clear hf
      refine v_if_eq X (tgt := 37) dX12_login_30 rfl 33 rfl hj4 (fun hf => ?_) (fun hf => ?_)
      · refine v_iconst X dX12_login_37 ic_0 38 rfl ?_
        obtain rfl := Option.some.inj hf
        refine v_sub (lv' := [(0, .ref (ad 0)), (1, .int v1), (3, .int v3)]) [0, 1, 3] rfl ?_
        exact Jj4
      · refine v_iconst X dX12_login_33 ic_1 34 rfl ?_
        refine v_goto X (tgt := 38) dX12_login_34 rfl ?_
        obtain rfl := Option.some.inj hf
        refine v_sub (lv' := [(0, .ref (ad 0)), (1, .int v1), (3, .int v3)]) [0, 1, 3] rfl ?_
        exact Jj4
theorem pd_X12_login : yX12_login.cls ≠ "java/lang/invoke/MethodHandle" ∧ yX12_login.cls ≠ "java/lang/invoke/VarHandle" ∧ (parseMethodDescriptor yX12_login.desc).map (fun d => d.parameters.length) = some 3 := by decide +kernel
def f_X12_refer (m_undoable : Int32) (m_undoStart : Int32) (m_thrown : Int32) (m_s : Nat → Int32) (m_remembered : Nat → Int32) (v1 : Int32) (v2 : Int32) : Option (Int32 × Int32 × Int32 × Int32 × (Nat → Int32) × (Nat → Int32)) :=
  (f_X12_noTicket m_thrown m_s v1).bind fun o1 =>
  if o1.1 = 0 then (
    (rd m_s 463 3).bind fun x2 =>
    (f_X12_out o1.2 v2 0 (x2 - 1)).bind fun o3 =>
    if o3.1 = 0 then (
      (f_X12_find m_s v1).bind fun o4 =>
      (f_X12_whyNotRefer m_s o4 v2).bind fun o5 =>
      Option.bind (if o5 = 0 then (
        some (0))
      else (
        some (1)) : Option (Int32)) fun j6 =>
      (f_X12_refuses o3.2 j6 3).bind fun o7 =>
      if o7.1 = 0 then (
        (f_X12_remember m_undoable m_undoStart m_s m_remembered).bind fun o8 =>
        (f_X12_find m_s v1).bind fun o9 =>
        (f_X12_derive m_s o9 v2 (-1)).bind fun o10 =>
        some (o10.1, o8.1, o8.2.1, o7.2, o10.2, o8.2.2))
      else (
        some (0, m_undoable, m_undoStart, o7.2, m_s, m_remembered)))
    else (
      some (0, m_undoable, m_undoStart, o3.2, m_s, m_remembered)))
  else (
    some (0, m_undoable, m_undoStart, o1.2, m_s, m_remembered))
set_option maxRecDepth 100000 in
set_option maxHeartbeats 4000000 in
theorem c_X12_refer (l : Launch) {G : (Nat → Prop) → State → Heap → Prop} (hG : vG G) (D : va_G) (c9 : Nat → ClassId) (ad : Nat → Nat) (m_undoable : Int32) (m_undoStart : Int32) (m_thrown : Int32) (m_inputLength : Int32) (m_position : Int32) (m_start : Int32) (m_token : Int32) (m_value : Int32) (m_letters : Int32) (m_code : Int32) (m_place : Int32) (m_outputLength : Int32) (m_s : Nat → Int32) (m_parsed : Nat → Int32) (m_tried : Nat → Int32) (m_remembered : Nat → Int32) (m_slots : Nat → Int32) (m_kept : Nat → Int32) (m_away : Nat → Int32) (m_input : Nat → Int32) (m_halfway : Nat → Int32) (m_output : Nat → Int32) (v1 : Int32) (v2 : Int32) {o : Int32 × Int32 × Int32 × Int32 × (Nat → Int32) × (Nat → Int32)} (hf : f_X12_refer m_undoable m_undoStart m_thrown m_s m_remembered v1 v2 = some o) : mI l yX12_refer (wq yX12_refer cX12_refer 3 (some .int)) { frames := 5, cells := 0, slots := 0, locals := 110 } G D (tyA c9) [.ref (ad 0), .int v1, .int v2] (wX12 ad c9 m_undoable m_undoStart m_thrown m_inputLength m_position m_start m_token m_value m_letters m_code m_place m_outputLength m_s m_parsed m_tried m_remembered m_slots m_kept m_away m_input m_halfway m_output) [] 0 0 o.1 (wX12 ad c9 o.2.1 o.2.2.1 o.2.2.2.1 m_inputLength m_position m_start m_token m_value m_letters m_code m_place m_outputLength o.2.2.2.2.1 m_parsed m_tried o.2.2.2.2.2 m_slots m_kept m_away m_input m_halfway m_output) := by
  refine mI_of hG (cc := cX12_refer) (maxL := 3) (ty := .int) (by decide) rfl (Nat.le_of_ble_eq_true rfl) ?_
  intro p e s m args below meth c A X
  have X : vX p s m args meth c cX12_refer 3 (some .int) RX12 (wq yX12_refer cX12_refer 3 (some .int)) D (tyA c9) G A := X
  refine v_eq (lv2 := [(0, .ref (ad 0)), (1, .int v1), (2, .int v2)]) rfl rfl rfl rfl ?_
  rw [f_X12_refer] at hf
  refine v_aload_n X dX12_refer_0 0 rfl rfl 1 rfl ?_
  refine v_iload_n X dX12_refer_1 1 rfl rfl 2 rfl ?_
  obtain ⟨o1, ho1, hf⟩ := bnd hf
  refine v_callVi X (ci := 11) (T := TX12) (C := RX12) (As := [.int v1]) (rest := []) (ws' := (wX12 ad c9 m_undoable m_undoStart o1.2 m_inputLength m_position m_start m_token m_value m_letters m_code m_place m_outputLength m_s m_parsed m_tried m_remembered m_slots m_kept m_away m_input m_halfway m_output)) (c_X12_noTicket l hG D c9 ad m_undoable m_undoStart m_thrown m_inputLength m_position m_start m_token m_value m_letters m_code m_place m_outputLength m_s m_parsed m_tried m_remembered m_slots m_kept m_away m_input m_halfway m_output v1 ho1) 1 (gV wm_337 wm_338 wm_339 wm_37 wm_340) rfl rfl rfl ⟨rfl, pd_X12_noTicket⟩ ⟨Nat.le_of_ble_eq_true rfl, Nat.le_of_ble_eq_true rfl⟩ 0 rfl rfl rfl rfl (Nat.le_of_ble_eq_true rfl) ⟨Nat.zero_le _, Nat.zero_le _⟩ [0, 1, 2, 3, 4, 5, 6, 7, 8, 9, 10] [] [0, 1, 2, 3, 4, 5, 6, 7, 8, 9, 10] rfl rfl rfl rfl dX12_refer_2 5 rfl ?_
  refine v_if_ne X (tgt := 57) dX12_refer_5 rfl 8 rfl hf (fun hf => ?_) (fun hf => ?_)
  · refine v_iconst X dX12_refer_57 ic_0 58 rfl ?_
    obtain rfl := Option.some.inj hf
    exact v_iret X (Nat.zero_le _) (Nat.zero_le _) dX12_refer_58
  · refine v_aload_n X dX12_refer_8 0 rfl rfl 9 rfl ?_
    refine v_iload_n X dX12_refer_9 2 rfl rfl 10 rfl ?_
    refine v_iconst X dX12_refer_10 ic_0 11 rfl ?_
    refine v_aload_n X dX12_refer_11 0 rfl rfl 12 rfl ?_
    refine v_get X (C := RX12) (T := TX12) (N := 22) (ci := 11) (v := _) dX12_refer_12 (lay_of laym_X12) 0 rfl rfl 0 (by decide) (mw wm_304) rfl rfl 15 rfl ?_
    refine v_iconst X dX12_refer_15 ic_3 16 rfl ?_
    obtain ⟨x2, hx2, hf⟩ := bnd hf
    refine v_iald X dX12_refer_16 1 0 rfl rfl hx2 17 rfl ?_
    refine v_iconst X dX12_refer_17 ic_1 18 rfl ?_
    refine v_isub X dX12_refer_18 19 rfl ?_
    obtain ⟨o3, ho3, hf⟩ := bnd hf
    refine v_callVi X (ci := 11) (T := TX12) (C := RX12) (As := [.int v2, .int 0, .int (x2 - 1)]) (rest := []) (ws' := (wX12 ad c9 m_undoable m_undoStart o3.2 m_inputLength m_position m_start m_token m_value m_letters m_code m_place m_outputLength m_s m_parsed m_tried m_remembered m_slots m_kept m_away m_input m_halfway m_output)) (c_X12_out l hG D c9 ad m_undoable m_undoStart o1.2 m_inputLength m_position m_start m_token m_value m_letters m_code m_place m_outputLength m_s m_parsed m_tried m_remembered m_slots m_kept m_away m_input m_halfway m_output v2 0 (x2 - 1) ho3) 3 (gV wm_345 wm_346 wm_347 wm_37 wm_348) rfl rfl rfl ⟨rfl, pd_X12_out⟩ ⟨Nat.le_of_ble_eq_true rfl, Nat.le_of_ble_eq_true rfl⟩ 0 rfl rfl rfl rfl (Nat.le_of_ble_eq_true rfl) ⟨Nat.zero_le _, Nat.zero_le _⟩ [0, 1, 2, 3, 4, 5, 6, 7, 8, 9, 10] [] [0, 1, 2, 3, 4, 5, 6, 7, 8, 9, 10] rfl rfl rfl rfl dX12_refer_19 22 rfl ?_
    refine v_if_ne X (tgt := 57) dX12_refer_22 rfl 25 rfl hf (fun hf => ?_) (fun hf => ?_)
    · refine v_iconst X dX12_refer_57 ic_0 58 rfl ?_
      obtain rfl := Option.some.inj hf
      exact v_iret X (Nat.zero_le _) (Nat.zero_le _) dX12_refer_58
    · refine v_aload_n X dX12_refer_25 0 rfl rfl 26 rfl ?_
      refine v_aload_n X dX12_refer_26 0 rfl rfl 27 rfl ?_
      refine v_get X (C := RX12) (T := TX12) (N := 22) (ci := 11) (v := _) dX12_refer_27 (lay_of laym_X12) 0 rfl rfl 0 (by decide) (mw wm_304) rfl rfl 30 rfl ?_
      refine v_aload_n X dX12_refer_30 0 rfl rfl 31 rfl ?_
      refine v_get X (C := RX12) (T := TX12) (N := 22) (ci := 11) (v := _) dX12_refer_31 (lay_of laym_X12) 0 rfl rfl 0 (by decide) (mw wm_304) rfl rfl 34 rfl ?_
      refine v_iload_n X dX12_refer_34 1 rfl rfl 35 rfl ?_
      obtain ⟨o4, ho4, hf⟩ := bnd hf
      refine v_callSi X (As := [.ref (ad 1), .int v1]) (rest := [.ref (ad 1), .ref (ad 0)]) (ws' := (wX12 ad c9 m_undoable m_undoStart o3.2 m_inputLength m_position m_start m_token m_value m_letters m_code m_place m_outputLength m_s m_parsed m_tried m_remembered m_slots m_kept m_away m_input m_halfway m_output)) (c_X12_find l hG D c9 (ad 1) m_s v1 ho4) 2 (gS wm_174 wm_175 wm_37 wm_176) rfl rfl rfl pd_X12_find ⟨Nat.le_of_ble_eq_true rfl, Nat.le_of_ble_eq_true rfl⟩ rfl rfl (Nat.le_of_ble_eq_true rfl) ⟨Nat.zero_le _, Nat.zero_le _⟩ [1] [0, 2, 3, 4, 5, 6, 7, 8, 9, 10] [0, 10, 1, 2, 3, 4, 5, 6, 7, 8, 9] rfl rfl rfl rfl dX12_refer_35 38 rfl ?_
      refine v_iload_n X dX12_refer_38 2 rfl rfl 39 rfl ?_
      obtain ⟨o5, ho5, hf⟩ := bnd hf
      refine v_callSi X (As := [.ref (ad 1), .int o4, .int v2]) (rest := [.ref (ad 0)]) (ws' := (wX12 ad c9 m_undoable m_undoStart o3.2 m_inputLength m_position m_start m_token m_value m_letters m_code m_place m_outputLength m_s m_parsed m_tried m_remembered m_slots m_kept m_away m_input m_halfway m_output)) (c_X12_whyNotRefer l hG D c9 (ad 1) m_s o4 v2 ho5) 3 (gS wm_219 wm_220 wm_37 wm_221) rfl rfl rfl pd_X12_whyNotRefer ⟨Nat.le_of_ble_eq_true rfl, Nat.le_of_ble_eq_true rfl⟩ rfl rfl (Nat.le_of_ble_eq_true rfl) ⟨Nat.zero_le _, Nat.zero_le _⟩ [1] [0, 2, 3, 4, 5, 6, 7, 8, 9, 10] [0, 10, 1, 2, 3, 4, 5, 6, 7, 8, 9] rfl rfl rfl rfl dX12_refer_39 42 rfl ?_
      obtain ⟨j6, hj6, hf⟩ := bnd hf
      have Jj6 : vW p l e { frames := 5, cells := 0, slots := 0, locals := 110 } s m args below meth c 3 D A [] 0 0 (MQ below (eI D (tyA c9) A o.1 ((wX12 ad c9 o.2.1 o.2.2.1 o.2.2.2.1 m_inputLength m_position m_start m_token m_value m_letters m_code m_place m_outputLength o.2.2.2.2.1 m_parsed m_tried o.2.2.2.2.2 m_slots m_kept m_away m_input m_halfway m_output) ++ [])) args s 0 0 A) (wX12 ad c9 m_undoable m_undoStart o3.2 m_inputLength m_position m_start m_token m_value m_letters m_code m_place m_outputLength m_s m_parsed m_tried m_remembered m_slots m_kept m_away m_input m_halfway m_output) 50 [(0, .ref (ad 0)), (1, .int v1), (2, .int v2)] [.int j6, .ref (ad 0)] := by
        refine v_iconst X dX12_refer_50 ic_3 51 rfl ?_
        obtain ⟨o7, ho7, hf⟩ := bnd hf
        refine v_callVi X (ci := 11) (T := TX12) (C := RX12) (As := [.int j6, .int 3]) (rest := []) (ws' := (wX12 ad c9 m_undoable m_undoStart o7.2 m_inputLength m_position m_start m_token m_value m_letters m_code m_place m_outputLength m_s m_parsed m_tried m_remembered m_slots m_kept m_away m_input m_halfway m_output)) (c_X12_refuses l hG D c9 ad m_undoable m_undoStart o3.2 m_inputLength m_position m_start m_token m_value m_letters m_code m_place m_outputLength m_s m_parsed m_tried m_remembered m_slots m_kept m_away m_input m_halfway m_output j6 3 ho7) 2 (gV wm_103 wm_104 wm_105 wm_37 wm_106) rfl rfl rfl ⟨rfl, pd_X12_refuses⟩ ⟨Nat.le_of_ble_eq_true rfl, Nat.le_of_ble_eq_true rfl⟩ 0 rfl rfl rfl rfl (Nat.le_of_ble_eq_true rfl) ⟨Nat.zero_le _, Nat.zero_le _⟩ [0, 1, 2, 3, 4, 5, 6, 7, 8, 9, 10] [] [0, 1, 2, 3, 4, 5, 6, 7, 8, 9, 10] rfl rfl rfl rfl dX12_refer_51 54 rfl ?_
        refine v_if_eq X (tgt := 59) dX12_refer_54 rfl 57 rfl hf (fun hf => ?_) (fun hf => ?_)
        · refine v_aload_n X dX12_refer_59 0 rfl rfl 60 rfl ?_
          obtain ⟨o8, ho8, hf⟩ := bnd hf
          refine v_callVv X (ci := 11) (T := TX12) (C := RX12) (As := []) (rest := []) (ws' := (wX12 ad c9 o8.1 o8.2.1 o7.2 m_inputLength m_position m_start m_token m_value m_letters m_code m_place m_outputLength m_s m_parsed m_tried o8.2.2 m_slots m_kept m_away m_input m_halfway m_output)) (c_X12_remember l hG D c9 ad m_undoable m_undoStart o7.2 m_inputLength m_position m_start m_token m_value m_letters m_code m_place m_outputLength m_s m_parsed m_tried m_remembered m_slots m_kept m_away m_input m_halfway m_output ho8) 0 (gV wm_313 wm_314 wm_315 wm_37 wm_316) rfl rfl rfl ⟨rfl, pd_X12_remember⟩ ⟨Nat.le_of_ble_eq_true rfl, Nat.le_of_ble_eq_true rfl⟩ 0 rfl rfl rfl rfl (Nat.le_of_ble_eq_true rfl) ⟨Nat.zero_le _, Nat.zero_le _⟩ [0, 1, 2, 3, 4, 5, 6, 7, 8, 9, 10] [] [0, 1, 2, 3, 4, 5, 6, 7, 8, 9, 10] rfl rfl rfl rfl dX12_refer_60 63 rfl ?_
          refine v_aload_n X dX12_refer_63 0 rfl rfl 64 rfl ?_
          refine v_get X (C := RX12) (T := TX12) (N := 22) (ci := 11) (v := _) dX12_refer_64 (lay_of laym_X12) 0 rfl rfl 0 (by decide) (mw wm_304) rfl rfl 67 rfl ?_
          refine v_aload_n X dX12_refer_67 0 rfl rfl 68 rfl ?_
          refine v_get X (C := RX12) (T := TX12) (N := 22) (ci := 11) (v := _) dX12_refer_68 (lay_of laym_X12) 0 rfl rfl 0 (by decide) (mw wm_304) rfl rfl 71 rfl ?_
          refine v_iload_n X dX12_refer_71 1 rfl rfl 72 rfl ?_
          obtain ⟨o9, ho9, hf⟩ := bnd hf
          refine v_callSi X (As := [.ref (ad 1), .int v1]) (rest := [.ref (ad 1)]) (ws' := (wX12 ad c9 o8.1 o8.2.1 o7.2 m_inputLength m_position m_start m_token m_value m_letters m_code m_place m_outputLength m_s m_parsed m_tried o8.2.2 m_slots m_kept m_away m_input m_halfway m_output)) (c_X12_find l hG D c9 (ad 1) m_s v1 ho9) 2 (gS wm_174 wm_175 wm_37 wm_176) rfl rfl rfl pd_X12_find ⟨Nat.le_of_ble_eq_true rfl, Nat.le_of_ble_eq_true rfl⟩ rfl rfl (Nat.le_of_ble_eq_true rfl) ⟨Nat.zero_le _, Nat.zero_le _⟩ [1] [0, 2, 3, 4, 5, 6, 7, 8, 9, 10] [0, 10, 1, 2, 3, 4, 5, 6, 7, 8, 9] rfl rfl rfl rfl dX12_refer_72 75 rfl ?_
          refine v_iload_n X dX12_refer_75 2 rfl rfl 76 rfl ?_
          refine v_iconst X dX12_refer_76 ic_m1 77 rfl ?_
          obtain ⟨o10, ho10, hf⟩ := bnd hf
          refine v_callSi X (As := [.ref (ad 1), .int o9, .int v2, .int (-1)]) (rest := []) (ws' := (wX12 ad c9 o8.1 o8.2.1 o7.2 m_inputLength m_position m_start m_token m_value m_letters m_code m_place m_outputLength o10.2 m_parsed m_tried o8.2.2 m_slots m_kept m_away m_input m_halfway m_output)) (c_X12_derive l hG D c9 (ad 1) m_s o9 v2 (-1) ho10) 4 (gS wm_222 wm_223 wm_37 wm_224) rfl rfl rfl pd_X12_derive ⟨Nat.le_of_ble_eq_true rfl, Nat.le_of_ble_eq_true rfl⟩ rfl rfl (Nat.le_of_ble_eq_true rfl) ⟨Nat.zero_le _, Nat.zero_le _⟩ [1] [0, 2, 3, 4, 5, 6, 7, 8, 9, 10] [0, 10, 1, 2, 3, 4, 5, 6, 7, 8, 9] rfl rfl rfl rfl dX12_refer_77 80 rfl ?_
          obtain rfl := Option.some.inj hf
          exact v_iret X (Nat.zero_le _) (Nat.zero_le _) dX12_refer_80
        · refine v_iconst X dX12_refer_57 ic_0 58 rfl ?_
          obtain rfl := Option.some.inj hf
          exact v_iret X (Nat.zero_le _) (Nat.zero_le _) dX12_refer_58
      clear hf
      refine v_if_eq X (tgt := 49) dX12_refer_42 rfl 45 rfl hj6 (fun hf => ?_) (fun hf => ?_)
      · refine v_iconst X dX12_refer_49 ic_0 50 rfl ?_
        obtain rfl := Option.some.inj hf
        exact Jj6
      · refine v_iconst X dX12_refer_45 ic_1 46 rfl ?_
        refine v_goto X (tgt := 50) dX12_refer_46 rfl ?_
        obtain rfl := Option.some.inj hf
        exact Jj6
theorem pd_X12_refer : yX12_refer.cls ≠ "java/lang/invoke/MethodHandle" ∧ yX12_refer.cls ≠ "java/lang/invoke/VarHandle" ∧ (parseMethodDescriptor yX12_refer.desc).map (fun d => d.parameters.length) = some 2 := by decide +kernel
def f_X12_request (m_undoable : Int32) (m_undoStart : Int32) (m_thrown : Int32) (m_s : Nat → Int32) (m_remembered : Nat → Int32) (v1 : Int32) (v2 : Int32) : Option (Int32 × Int32 × Int32 × Int32 × (Nat → Int32) × (Nat → Int32)) :=
  (f_X12_noTicket m_thrown m_s v1).bind fun o1 =>
  if o1.1 = 0 then (
    (rd m_s 463 5).bind fun x2 =>
    (f_X12_out o1.2 v2 0 (x2 - 1)).bind fun o3 =>
    if o3.1 = 0 then (
      (f_X12_find m_s v1).bind fun o4 =>
      (f_X12_whyNotRequest m_s o4 v2).bind fun o5 =>
      Option.bind (if o5 = 0 then (
        some (0))
      else (
        some (1)) : Option (Int32)) fun j6 =>
      (f_X12_refuses o3.2 j6 3).bind fun o7 =>
      if o7.1 = 0 then (
        (f_X12_remember m_undoable m_undoStart m_s m_remembered).bind fun o8 =>
        (f_X12_find m_s v1).bind fun o9 =>
        (f_X12_ofService v2).bind fun o10 =>
        (rd m_s 463 (o10 + 1)).bind fun x11 =>
        (f_X12_derive m_s o9 x11 v2).bind fun o12 =>
        some (o12.1, o8.1, o8.2.1, o7.2, o12.2, o8.2.2))
      else (
        some (0, m_undoable, m_undoStart, o7.2, m_s, m_remembered)))
    else (
      some (0, m_undoable, m_undoStart, o3.2, m_s, m_remembered)))
  else (
    some (0, m_undoable, m_undoStart, o1.2, m_s, m_remembered))
set_option maxRecDepth 100000 in
set_option maxHeartbeats 4000000 in
theorem c_X12_request (l : Launch) {G : (Nat → Prop) → State → Heap → Prop} (hG : vG G) (D : va_G) (c9 : Nat → ClassId) (ad : Nat → Nat) (m_undoable : Int32) (m_undoStart : Int32) (m_thrown : Int32) (m_inputLength : Int32) (m_position : Int32) (m_start : Int32) (m_token : Int32) (m_value : Int32) (m_letters : Int32) (m_code : Int32) (m_place : Int32) (m_outputLength : Int32) (m_s : Nat → Int32) (m_parsed : Nat → Int32) (m_tried : Nat → Int32) (m_remembered : Nat → Int32) (m_slots : Nat → Int32) (m_kept : Nat → Int32) (m_away : Nat → Int32) (m_input : Nat → Int32) (m_halfway : Nat → Int32) (m_output : Nat → Int32) (v1 : Int32) (v2 : Int32) {o : Int32 × Int32 × Int32 × Int32 × (Nat → Int32) × (Nat → Int32)} (hf : f_X12_request m_undoable m_undoStart m_thrown m_s m_remembered v1 v2 = some o) : mI l yX12_request (wq yX12_request cX12_request 3 (some .int)) { frames := 5, cells := 0, slots := 0, locals := 110 } G D (tyA c9) [.ref (ad 0), .int v1, .int v2] (wX12 ad c9 m_undoable m_undoStart m_thrown m_inputLength m_position m_start m_token m_value m_letters m_code m_place m_outputLength m_s m_parsed m_tried m_remembered m_slots m_kept m_away m_input m_halfway m_output) [] 0 0 o.1 (wX12 ad c9 o.2.1 o.2.2.1 o.2.2.2.1 m_inputLength m_position m_start m_token m_value m_letters m_code m_place m_outputLength o.2.2.2.2.1 m_parsed m_tried o.2.2.2.2.2 m_slots m_kept m_away m_input m_halfway m_output) := by
  refine mI_of hG (cc := cX12_request) (maxL := 3) (ty := .int) (by decide) rfl (Nat.le_of_ble_eq_true rfl) ?_
  intro p e s m args below meth c A X
  have X : vX p s m args meth c cX12_request 3 (some .int) RX12 (wq yX12_request cX12_request 3 (some .int)) D (tyA c9) G A := X
  refine v_eq (lv2 := [(0, .ref (ad 0)), (1, .int v1), (2, .int v2)]) rfl rfl rfl rfl ?_
  rw [f_X12_request] at hf
  refine v_aload_n X dX12_request_0 0 rfl rfl 1 rfl ?_
  refine v_iload_n X dX12_request_1 1 rfl rfl 2 rfl ?_
  obtain ⟨o1, ho1, hf⟩ := bnd hf
  refine v_callVi X (ci := 11) (T := TX12) (C := RX12) (As := [.int v1]) (rest := []) (ws' := (wX12 ad c9 m_undoable m_undoStart o1.2 m_inputLength m_position m_start m_token m_value m_letters m_code m_place m_outputLength m_s m_parsed m_tried m_remembered m_slots m_kept m_away m_input m_halfway m_output)) (c_X12_noTicket l hG D c9 ad m_undoable m_undoStart m_thrown m_inputLength m_position m_start m_token m_value m_letters m_code m_place m_outputLength m_s m_parsed m_tried m_remembered m_slots m_kept m_away m_input m_halfway m_output v1 ho1) 1 (gV wm_337 wm_338 wm_339 wm_37 wm_340) rfl rfl rfl ⟨rfl, pd_X12_noTicket⟩ ⟨Nat.le_of_ble_eq_true rfl, Nat.le_of_ble_eq_true rfl⟩ 0 rfl rfl rfl rfl (Nat.le_of_ble_eq_true rfl) ⟨Nat.zero_le _, Nat.zero_le _⟩ [0, 1, 2, 3, 4, 5, 6, 7, 8, 9, 10] [] [0, 1, 2, 3, 4, 5, 6, 7, 8, 9, 10] rfl rfl rfl rfl dX12_request_2 5 rfl ?_
  refine v_if_ne X (tgt := 57) dX12_request_5 rfl 8 rfl hf (fun hf => ?_) (fun hf => ?_)
  · refine v_iconst X dX12_request_57 ic_0 58 rfl ?_
    obtain rfl := Option.some.inj hf
    exact v_iret X (Nat.zero_le _) (Nat.zero_le _) dX12_request_58
  · refine v_aload_n X dX12_request_8 0 rfl rfl 9 rfl ?_
    refine v_iload_n X dX12_request_9 2 rfl rfl 10 rfl ?_
    refine v_iconst X dX12_request_10 ic_0 11 rfl ?_
    refine v_aload_n X dX12_request_11 0 rfl rfl 12 rfl ?_
    refine v_get X (C := RX12) (T := TX12) (N := 22) (ci := 11) (v := _) dX12_request_12 (lay_of laym_X12) 0 rfl rfl 0 (by decide) (mw wm_304) rfl rfl 15 rfl ?_
    refine v_iconst X dX12_request_15 ic_5 16 rfl ?_
    obtain ⟨x2, hx2, hf⟩ := bnd hf
    refine v_iald X dX12_request_16 1 0 rfl rfl hx2 17 rfl ?_
    refine v_iconst X dX12_request_17 ic_1 18 rfl ?_
    refine v_isub X dX12_request_18 19 rfl ?_
    obtain ⟨o3, ho3, hf⟩ := bnd hf
    refine v_callVi X (ci := 11) (T := TX12) (C := RX12) (As := [.int v2, .int 0, .int (x2 - 1)]) (rest := []) (ws' := (wX12 ad c9 m_undoable m_undoStart o3.2 m_inputLength m_position m_start m_token m_value m_letters m_code m_place m_outputLength m_s m_parsed m_tried m_remembered m_slots m_kept m_away m_input m_halfway m_output)) (c_X12_out l hG D c9 ad m_undoable m_undoStart o1.2 m_inputLength m_position m_start m_token m_value m_letters m_code m_place m_outputLength m_s m_parsed m_tried m_remembered m_slots m_kept m_away m_input m_halfway m_output v2 0 (x2 - 1) ho3) 3 (gV wm_345 wm_346 wm_347 wm_37 wm_348) rfl rfl rfl ⟨rfl, pd_X12_out⟩ ⟨Nat.le_of_ble_eq_true rfl, Nat.le_of_ble_eq_true rfl⟩ 0 rfl rfl rfl rfl (Nat.le_of_ble_eq_true rfl) ⟨Nat.zero_le _, Nat.zero_le _⟩ [0, 1, 2, 3, 4, 5, 6, 7, 8, 9, 10] [] [0, 1, 2, 3, 4, 5, 6, 7, 8, 9, 10] rfl rfl rfl rfl dX12_request_19 22 rfl ?_
    refine v_if_ne X (tgt := 57) dX12_request_22 rfl 25 rfl hf (fun hf => ?_) (fun hf => ?_)
    · refine v_iconst X dX12_request_57 ic_0 58 rfl ?_
      obtain rfl := Option.some.inj hf
      exact v_iret X (Nat.zero_le _) (Nat.zero_le _) dX12_request_58
    · refine v_aload_n X dX12_request_25 0 rfl rfl 26 rfl ?_
      refine v_aload_n X dX12_request_26 0 rfl rfl 27 rfl ?_
      refine v_get X (C := RX12) (T := TX12) (N := 22) (ci := 11) (v := _) dX12_request_27 (lay_of laym_X12) 0 rfl rfl 0 (by decide) (mw wm_304) rfl rfl 30 rfl ?_
      refine v_aload_n X dX12_request_30 0 rfl rfl 31 rfl ?_
      refine v_get X (C := RX12) (T := TX12) (N := 22) (ci := 11) (v := _) dX12_request_31 (lay_of laym_X12) 0 rfl rfl 0 (by decide) (mw wm_304) rfl rfl 34 rfl ?_
      refine v_iload_n X dX12_request_34 1 rfl rfl 35 rfl ?_
      obtain ⟨o4, ho4, hf⟩ := bnd hf
      refine v_callSi X (As := [.ref (ad 1), .int v1]) (rest := [.ref (ad 1), .ref (ad 0)]) (ws' := (wX12 ad c9 m_undoable m_undoStart o3.2 m_inputLength m_position m_start m_token m_value m_letters m_code m_place m_outputLength m_s m_parsed m_tried m_remembered m_slots m_kept m_away m_input m_halfway m_output)) (c_X12_find l hG D c9 (ad 1) m_s v1 ho4) 2 (gS wm_174 wm_175 wm_37 wm_176) rfl rfl rfl pd_X12_find ⟨Nat.le_of_ble_eq_true rfl, Nat.le_of_ble_eq_true rfl⟩ rfl rfl (Nat.le_of_ble_eq_true rfl) ⟨Nat.zero_le _, Nat.zero_le _⟩ [1] [0, 2, 3, 4, 5, 6, 7, 8, 9, 10] [0, 10, 1, 2, 3, 4, 5, 6, 7, 8, 9] rfl rfl rfl rfl dX12_request_35 38 rfl ?_
      refine v_iload_n X dX12_request_38 2 rfl rfl 39 rfl ?_
      obtain ⟨o5, ho5, hf⟩ := bnd hf
      refine v_callSi X (As := [.ref (ad 1), .int o4, .int v2]) (rest := [.ref (ad 0)]) (ws' := (wX12 ad c9 m_undoable m_undoStart o3.2 m_inputLength m_position m_start m_token m_value m_letters m_code m_place m_outputLength m_s m_parsed m_tried m_remembered m_slots m_kept m_away m_input m_halfway m_output)) (c_X12_whyNotRequest l hG D c9 (ad 1) m_s o4 v2 ho5) 3 (gS wm_229 wm_230 wm_37 wm_231) rfl rfl rfl pd_X12_whyNotRequest ⟨Nat.le_of_ble_eq_true rfl, Nat.le_of_ble_eq_true rfl⟩ rfl rfl (Nat.le_of_ble_eq_true rfl) ⟨Nat.zero_le _, Nat.zero_le _⟩ [1] [0, 2, 3, 4, 5, 6, 7, 8, 9, 10] [0, 10, 1, 2, 3, 4, 5, 6, 7, 8, 9] rfl rfl rfl rfl dX12_request_39 42 rfl ?_
      obtain ⟨j6, hj6, hf⟩ := bnd hf
      have Jj6 : vW p l e { frames := 5, cells := 0, slots := 0, locals := 110 } s m args below meth c 3 D A [] 0 0 (MQ below (eI D (tyA c9) A o.1 ((wX12 ad c9 o.2.1 o.2.2.1 o.2.2.2.1 m_inputLength m_position m_start m_token m_value m_letters m_code m_place m_outputLength o.2.2.2.2.1 m_parsed m_tried o.2.2.2.2.2 m_slots m_kept m_away m_input m_halfway m_output) ++ [])) args s 0 0 A) (wX12 ad c9 m_undoable m_undoStart o3.2 m_inputLength m_position m_start m_token m_value m_letters m_code m_place m_outputLength m_s m_parsed m_tried m_remembered m_slots m_kept m_away m_input m_halfway m_output) 50 [(0, .ref (ad 0)), (1, .int v1), (2, .int v2)] [.int j6, .ref (ad 0)] := by
        refine v_iconst X dX12_request_50 ic_3 51 rfl ?_
        obtain ⟨o7, ho7, hf⟩ := bnd hf
        refine v_callVi X (ci := 11) (T := TX12) (C := RX12) (As := [.int j6, .int 3]) (rest := []) (ws' := (wX12 ad c9 m_undoable m_undoStart o7.2 m_inputLength m_position m_start m_token m_value m_letters m_code m_place m_outputLength m_s m_parsed m_tried m_remembered m_slots m_kept m_away m_input m_halfway m_output)) (c_X12_refuses l hG D c9 ad m_undoable m_undoStart o3.2 m_inputLength m_position m_start m_token m_value m_letters m_code m_place m_outputLength m_s m_parsed m_tried m_remembered m_slots m_kept m_away m_input m_halfway m_output j6 3 ho7) 2 (gV wm_103 wm_104 wm_105 wm_37 wm_106) rfl rfl rfl ⟨rfl, pd_X12_refuses⟩ ⟨Nat.le_of_ble_eq_true rfl, Nat.le_of_ble_eq_true rfl⟩ 0 rfl rfl rfl rfl (Nat.le_of_ble_eq_true rfl) ⟨Nat.zero_le _, Nat.zero_le _⟩ [0, 1, 2, 3, 4, 5, 6, 7, 8, 9, 10] [] [0, 1, 2, 3, 4, 5, 6, 7, 8, 9, 10] rfl rfl rfl rfl dX12_request_51 54 rfl ?_
        refine v_if_eq X (tgt := 59) dX12_request_54 rfl 57 rfl hf (fun hf => ?_) (fun hf => ?_)
        · refine v_aload_n X dX12_request_59 0 rfl rfl 60 rfl ?_
          obtain ⟨o8, ho8, hf⟩ := bnd hf
          refine v_callVv X (ci := 11) (T := TX12) (C := RX12) (As := []) (rest := []) (ws' := (wX12 ad c9 o8.1 o8.2.1 o7.2 m_inputLength m_position m_start m_token m_value m_letters m_code m_place m_outputLength m_s m_parsed m_tried o8.2.2 m_slots m_kept m_away m_input m_halfway m_output)) (c_X12_remember l hG D c9 ad m_undoable m_undoStart o7.2 m_inputLength m_position m_start m_token m_value m_letters m_code m_place m_outputLength m_s m_parsed m_tried m_remembered m_slots m_kept m_away m_input m_halfway m_output ho8) 0 (gV wm_313 wm_314 wm_315 wm_37 wm_316) rfl rfl rfl ⟨rfl, pd_X12_remember⟩ ⟨Nat.le_of_ble_eq_true rfl, Nat.le_of_ble_eq_true rfl⟩ 0 rfl rfl rfl rfl (Nat.le_of_ble_eq_true rfl) ⟨Nat.zero_le _, Nat.zero_le _⟩ [0, 1, 2, 3, 4, 5, 6, 7, 8, 9, 10] [] [0, 1, 2, 3, 4, 5, 6, 7, 8, 9, 10] rfl rfl rfl rfl dX12_request_60 63 rfl ?_
          refine v_aload_n X dX12_request_63 0 rfl rfl 64 rfl ?_
          refine v_get X (C := RX12) (T := TX12) (N := 22) (ci := 11) (v := _) dX12_request_64 (lay_of laym_X12) 0 rfl rfl 0 (by decide) (mw wm_304) rfl rfl 67 rfl ?_
          refine v_aload_n X dX12_request_67 0 rfl rfl 68 rfl ?_
          refine v_get X (C := RX12) (T := TX12) (N := 22) (ci := 11) (v := _) dX12_request_68 (lay_of laym_X12) 0 rfl rfl 0 (by decide) (mw wm_304) rfl rfl 71 rfl ?_
          refine v_iload_n X dX12_request_71 1 rfl rfl 72 rfl ?_
          obtain ⟨o9, ho9, hf⟩ := bnd hf
          refine v_callSi X (As := [.ref (ad 1), .int v1]) (rest := [.ref (ad 1)]) (ws' := (wX12 ad c9 o8.1 o8.2.1 o7.2 m_inputLength m_position m_start m_token m_value m_letters m_code m_place m_outputLength m_s m_parsed m_tried o8.2.2 m_slots m_kept m_away m_input m_halfway m_output)) (c_X12_find l hG D c9 (ad 1) m_s v1 ho9) 2 (gS wm_174 wm_175 wm_37 wm_176) rfl rfl rfl pd_X12_find ⟨Nat.le_of_ble_eq_true rfl, Nat.le_of_ble_eq_true rfl⟩ rfl rfl (Nat.le_of_ble_eq_true rfl) ⟨Nat.zero_le _, Nat.zero_le _⟩ [1] [0, 2, 3, 4, 5, 6, 7, 8, 9, 10] [0, 10, 1, 2, 3, 4, 5, 6, 7, 8, 9] rfl rfl rfl rfl dX12_request_72 75 rfl ?_
          refine v_aload_n X dX12_request_75 0 rfl rfl 76 rfl ?_
          refine v_get X (C := RX12) (T := TX12) (N := 22) (ci := 11) (v := _) dX12_request_76 (lay_of laym_X12) 0 rfl rfl 0 (by decide) (mw wm_304) rfl rfl 79 rfl ?_
          refine v_iload_n X dX12_request_79 2 rfl rfl 80 rfl ?_
          obtain ⟨o10, ho10, hf⟩ := bnd hf
          refine v_callSi X (As := [.int v2]) (rest := [.ref (ad 1), .int o9, .ref (ad 1)]) (ws' := (wX12 ad c9 o8.1 o8.2.1 o7.2 m_inputLength m_position m_start m_token m_value m_letters m_code m_place m_outputLength m_s m_parsed m_tried o8.2.2 m_slots m_kept m_away m_input m_halfway m_output)) (c_X12_ofService l hG D c9 v2 ho10) 1 (gS wm_76 wm_77 wm_37 wm_78) rfl rfl rfl pd_X12_ofService ⟨Nat.le_of_ble_eq_true rfl, Nat.le_of_ble_eq_true rfl⟩ rfl rfl (Nat.le_of_ble_eq_true rfl) ⟨Nat.zero_le _, Nat.zero_le _⟩ [] [0, 1, 2, 3, 4, 5, 6, 7, 8, 9, 10] [0, 1, 2, 3, 4, 5, 6, 7, 8, 9, 10] rfl rfl rfl rfl dX12_request_80 83 rfl ?_
          refine v_iconst X dX12_request_83 ic_1 84 rfl ?_
          refine v_iadd X dX12_request_84 85 rfl ?_
          obtain ⟨x11, hx11, hf⟩ := bnd hf
          refine v_iald X dX12_request_85 1 0 rfl rfl hx11 86 rfl ?_
          refine v_iload_n X dX12_request_86 2 rfl rfl 87 rfl ?_
          obtain ⟨o12, ho12, hf⟩ := bnd hf
          refine v_callSi X (As := [.ref (ad 1), .int o9, .int x11, .int v2]) (rest := []) (ws' := (wX12 ad c9 o8.1 o8.2.1 o7.2 m_inputLength m_position m_start m_token m_value m_letters m_code m_place m_outputLength o12.2 m_parsed m_tried o8.2.2 m_slots m_kept m_away m_input m_halfway m_output)) (c_X12_derive l hG D c9 (ad 1) m_s o9 x11 v2 ho12) 4 (gS wm_222 wm_223 wm_37 wm_224) rfl rfl rfl pd_X12_derive ⟨Nat.le_of_ble_eq_true rfl, Nat.le_of_ble_eq_true rfl⟩ rfl rfl (Nat.le_of_ble_eq_true rfl) ⟨Nat.zero_le _, Nat.zero_le _⟩ [1] [0, 2, 3, 4, 5, 6, 7, 8, 9, 10] [0, 10, 1, 2, 3, 4, 5, 6, 7, 8, 9] rfl rfl rfl rfl dX12_request_87 90 rfl ?_
          obtain rfl := Option.some.inj hf
          exact v_iret X (Nat.zero_le _) (Nat.zero_le _) dX12_request_90
        · refine v_iconst X dX12_request_57 ic_0 58 rfl ?_
          obtain rfl := Option.some.inj hf
          exact v_iret X (Nat.zero_le _) (Nat.zero_le _) dX12_request_58
      clear hf
      refine v_if_eq X (tgt := 49) dX12_request_42 rfl 45 rfl hj6 (fun hf => ?_) (fun hf => ?_)
      · refine v_iconst X dX12_request_49 ic_0 50 rfl ?_
        obtain rfl := Option.some.inj hf
        exact Jj6
      · refine v_iconst X dX12_request_45 ic_1 46 rfl ?_
        refine v_goto X (tgt := 50) dX12_request_46 rfl ?_
        obtain rfl := Option.some.inj hf
        exact Jj6
theorem pd_X12_request : yX12_request.cls ≠ "java/lang/invoke/MethodHandle" ∧ yX12_request.cls ≠ "java/lang/invoke/VarHandle" ∧ (parseMethodDescriptor yX12_request.desc).map (fun d => d.parameters.length) = some 2 := by decide +kernel
def f_X12_renew (m_undoable : Int32) (m_undoStart : Int32) (m_thrown : Int32) (m_s : Nat → Int32) (m_remembered : Nat → Int32) (v1 : Int32) : Option (Int32 × Int32 × Int32 × Int32 × (Nat → Int32) × (Nat → Int32)) :=
  (f_X12_noTicket m_thrown m_s v1).bind fun o1 =>
  if o1.1 = 0 then (
    (f_X12_find m_s v1).bind fun o2 =>
    (f_X12_whyNotRenew m_s o2).bind fun o3 =>
    Option.bind (if o3 = 0 then (
      some (0))
    else (
      some (1)) : Option (Int32)) fun j4 =>
    (f_X12_refuses o1.2 j4 2).bind fun o5 =>
    if o5.1 = 0 then (
      (f_X12_remember m_undoable m_undoStart m_s m_remembered).bind fun o6 =>
      (f_X12_find m_s v1).bind fun o7 =>
      (f_X12_renews m_s o7).bind fun o8 =>
      some (o8.1, o6.1, o6.2.1, o5.2, o8.2, o6.2.2))
    else (
      some (0, m_undoable, m_undoStart, o5.2, m_s, m_remembered)))
  else (
    some (0, m_undoable, m_undoStart, o1.2, m_s, m_remembered))
set_option maxRecDepth 100000 in
set_option maxHeartbeats 4000000 in
theorem c_X12_renew (l : Launch) {G : (Nat → Prop) → State → Heap → Prop} (hG : vG G) (D : va_G) (c9 : Nat → ClassId) (ad : Nat → Nat) (m_undoable : Int32) (m_undoStart : Int32) (m_thrown : Int32) (m_inputLength : Int32) (m_position : Int32) (m_start : Int32) (m_token : Int32) (m_value : Int32) (m_letters : Int32) (m_code : Int32) (m_place : Int32) (m_outputLength : Int32) (m_s : Nat → Int32) (m_parsed : Nat → Int32) (m_tried : Nat → Int32) (m_remembered : Nat → Int32) (m_slots : Nat → Int32) (m_kept : Nat → Int32) (m_away : Nat → Int32) (m_input : Nat → Int32) (m_halfway : Nat → Int32) (m_output : Nat → Int32) (v1 : Int32) {o : Int32 × Int32 × Int32 × Int32 × (Nat → Int32) × (Nat → Int32)} (hf : f_X12_renew m_undoable m_undoStart m_thrown m_s m_remembered v1 = some o) : mI l yX12_renew (wq yX12_renew cX12_renew 2 (some .int)) { frames := 3, cells := 0, slots := 0, locals := 65 } G D (tyA c9) [.ref (ad 0), .int v1] (wX12 ad c9 m_undoable m_undoStart m_thrown m_inputLength m_position m_start m_token m_value m_letters m_code m_place m_outputLength m_s m_parsed m_tried m_remembered m_slots m_kept m_away m_input m_halfway m_output) [] 0 0 o.1 (wX12 ad c9 o.2.1 o.2.2.1 o.2.2.2.1 m_inputLength m_position m_start m_token m_value m_letters m_code m_place m_outputLength o.2.2.2.2.1 m_parsed m_tried o.2.2.2.2.2 m_slots m_kept m_away m_input m_halfway m_output) := by
  refine mI_of hG (cc := cX12_renew) (maxL := 2) (ty := .int) (by decide) rfl (Nat.le_of_ble_eq_true rfl) ?_
  intro p e s m args below meth c A X
  have X : vX p s m args meth c cX12_renew 2 (some .int) RX12 (wq yX12_renew cX12_renew 2 (some .int)) D (tyA c9) G A := X
  refine v_eq (lv2 := [(0, .ref (ad 0)), (1, .int v1)]) rfl rfl rfl rfl ?_
  rw [f_X12_renew] at hf
  refine v_aload_n X dX12_renew_0 0 rfl rfl 1 rfl ?_
  refine v_iload_n X dX12_renew_1 1 rfl rfl 2 rfl ?_
  obtain ⟨o1, ho1, hf⟩ := bnd hf
  refine v_callVi X (ci := 11) (T := TX12) (C := RX12) (As := [.int v1]) (rest := []) (ws' := (wX12 ad c9 m_undoable m_undoStart o1.2 m_inputLength m_position m_start m_token m_value m_letters m_code m_place m_outputLength m_s m_parsed m_tried m_remembered m_slots m_kept m_away m_input m_halfway m_output)) (c_X12_noTicket l hG D c9 ad m_undoable m_undoStart m_thrown m_inputLength m_position m_start m_token m_value m_letters m_code m_place m_outputLength m_s m_parsed m_tried m_remembered m_slots m_kept m_away m_input m_halfway m_output v1 ho1) 1 (gV wm_337 wm_338 wm_339 wm_37 wm_340) rfl rfl rfl ⟨rfl, pd_X12_noTicket⟩ ⟨Nat.le_of_ble_eq_true rfl, Nat.le_of_ble_eq_true rfl⟩ 0 rfl rfl rfl rfl (Nat.le_of_ble_eq_true rfl) ⟨Nat.zero_le _, Nat.zero_le _⟩ [0, 1, 2, 3, 4, 5, 6, 7, 8, 9, 10] [] [0, 1, 2, 3, 4, 5, 6, 7, 8, 9, 10] rfl rfl rfl rfl dX12_renew_2 5 rfl ?_
  refine v_if_ne X (tgt := 39) dX12_renew_5 rfl 8 rfl hf (fun hf => ?_) (fun hf => ?_)
  · refine v_iconst X dX12_renew_39 ic_0 40 rfl ?_
    obtain rfl := Option.some.inj hf
    exact v_iret X (Nat.zero_le _) (Nat.zero_le _) dX12_renew_40
  · refine v_aload_n X dX12_renew_8 0 rfl rfl 9 rfl ?_
    refine v_aload_n X dX12_renew_9 0 rfl rfl 10 rfl ?_
    refine v_get X (C := RX12) (T := TX12) (N := 22) (ci := 11) (v := _) dX12_renew_10 (lay_of laym_X12) 0 rfl rfl 0 (by decide) (mw wm_304) rfl rfl 13 rfl ?_
    refine v_aload_n X dX12_renew_13 0 rfl rfl 14 rfl ?_
    refine v_get X (C := RX12) (T := TX12) (N := 22) (ci := 11) (v := _) dX12_renew_14 (lay_of laym_X12) 0 rfl rfl 0 (by decide) (mw wm_304) rfl rfl 17 rfl ?_
    refine v_iload_n X dX12_renew_17 1 rfl rfl 18 rfl ?_
    obtain ⟨o2, ho2, hf⟩ := bnd hf
    refine v_callSi X (As := [.ref (ad 1), .int v1]) (rest := [.ref (ad 1), .ref (ad 0)]) (ws' := (wX12 ad c9 m_undoable m_undoStart o1.2 m_inputLength m_position m_start m_token m_value m_letters m_code m_place m_outputLength m_s m_parsed m_tried m_remembered m_slots m_kept m_away m_input m_halfway m_output)) (c_X12_find l hG D c9 (ad 1) m_s v1 ho2) 2 (gS wm_174 wm_175 wm_37 wm_176) rfl rfl rfl pd_X12_find ⟨Nat.le_of_ble_eq_true rfl, Nat.le_of_ble_eq_true rfl⟩ rfl rfl (Nat.le_of_ble_eq_true rfl) ⟨Nat.zero_le _, Nat.zero_le _⟩ [1] [0, 2, 3, 4, 5, 6, 7, 8, 9, 10] [0, 10, 1, 2, 3, 4, 5, 6, 7, 8, 9] rfl rfl rfl rfl dX12_renew_18 21 rfl ?_
    obtain ⟨o3, ho3, hf⟩ := bnd hf
    refine v_callSi X (As := [.ref (ad 1), .int o2]) (rest := [.ref (ad 0)]) (ws' := (wX12 ad c9 m_undoable m_undoStart o1.2 m_inputLength m_position m_start m_token m_value m_letters m_code m_place m_outputLength m_s m_parsed m_tried m_remembered m_slots m_kept m_away m_input m_halfway m_output)) (c_X12_whyNotRenew l hG D c9 (ad 1) m_s o2 ho3) 2 (gS wm_232 wm_233 wm_37 wm_234) rfl rfl rfl pd_X12_whyNotRenew ⟨Nat.le_of_ble_eq_true rfl, Nat.le_of_ble_eq_true rfl⟩ rfl rfl (Nat.le_of_ble_eq_true rfl) ⟨Nat.zero_le _, Nat.zero_le _⟩ [1] [0, 2, 3, 4, 5, 6, 7, 8, 9, 10] [0, 10, 1, 2, 3, 4, 5, 6, 7, 8, 9] rfl rfl rfl rfl dX12_renew_21 24 rfl ?_
    obtain ⟨j4, hj4, hf⟩ := bnd hf
    have Jj4 : vW p l e { frames := 3, cells := 0, slots := 0, locals := 65 } s m args below meth c 2 D A [] 0 0 (MQ below (eI D (tyA c9) A o.1 ((wX12 ad c9 o.2.1 o.2.2.1 o.2.2.2.1 m_inputLength m_position m_start m_token m_value m_letters m_code m_place m_outputLength o.2.2.2.2.1 m_parsed m_tried o.2.2.2.2.2 m_slots m_kept m_away m_input m_halfway m_output) ++ [])) args s 0 0 A) (wX12 ad c9 m_undoable m_undoStart o1.2 m_inputLength m_position m_start m_token m_value m_letters m_code m_place m_outputLength m_s m_parsed m_tried m_remembered m_slots m_kept m_away m_input m_halfway m_output) 32 [(0, .ref (ad 0)), (1, .int v1)] [.int j4, .ref (ad 0)] := by
      refine v_iconst X dX12_renew_32 ic_2 33 rfl ?_
      obtain ⟨o5, ho5, hf⟩ := bnd hf
      refine v_callVi X (ci := 11) (T := TX12) (C := RX12) (As := [.int j4, .int 2]) (rest := []) (ws' := (wX12 ad c9 m_undoable m_undoStart o5.2 m_inputLength m_position m_start m_token m_value m_letters m_code m_place m_outputLength m_s m_parsed m_tried m_remembered m_slots m_kept m_away m_input m_halfway m_output)) (c_X12_refuses l hG D c9 ad m_undoable m_undoStart o1.2 m_inputLength m_position m_start m_token m_value m_letters m_code m_place m_outputLength m_s m_parsed m_tried m_remembered m_slots m_kept m_away m_input m_halfway m_output j4 2 ho5) 2 (gV wm_103 wm_104 wm_105 wm_37 wm_106) rfl rfl rfl ⟨rfl, pd_X12_refuses⟩ ⟨Nat.le_of_ble_eq_true rfl, Nat.le_of_ble_eq_true rfl⟩ 0 rfl rfl rfl rfl (Nat.le_of_ble_eq_true rfl) ⟨Nat.zero_le _, Nat.zero_le _⟩ [0, 1, 2, 3, 4, 5, 6, 7, 8, 9, 10] [] [0, 1, 2, 3, 4, 5, 6, 7, 8, 9, 10] rfl rfl rfl rfl dX12_renew_33 36 rfl ?_
      refine v_if_eq X (tgt := 41) dX12_renew_36 rfl 39 rfl hf (fun hf => ?_) (fun hf => ?_)
      · refine v_aload_n X dX12_renew_41 0 rfl rfl 42 rfl ?_
        obtain ⟨o6, ho6, hf⟩ := bnd hf
        refine v_callVv X (ci := 11) (T := TX12) (C := RX12) (As := []) (rest := []) (ws' := (wX12 ad c9 o6.1 o6.2.1 o5.2 m_inputLength m_position m_start m_token m_value m_letters m_code m_place m_outputLength m_s m_parsed m_tried o6.2.2 m_slots m_kept m_away m_input m_halfway m_output)) (c_X12_remember l hG D c9 ad m_undoable m_undoStart o5.2 m_inputLength m_position m_start m_token m_value m_letters m_code m_place m_outputLength m_s m_parsed m_tried m_remembered m_slots m_kept m_away m_input m_halfway m_output ho6) 0 (gV wm_313 wm_314 wm_315 wm_37 wm_316) rfl rfl rfl ⟨rfl, pd_X12_remember⟩ ⟨Nat.le_of_ble_eq_true rfl, Nat.le_of_ble_eq_true rfl⟩ 0 rfl rfl rfl rfl (Nat.le_of_ble_eq_true rfl) ⟨Nat.zero_le _, Nat.zero_le _⟩ [0, 1, 2, 3, 4, 5, 6, 7, 8, 9, 10] [] [0, 1, 2, 3, 4, 5, 6, 7, 8, 9, 10] rfl rfl rfl rfl dX12_renew_42 45 rfl ?_
        refine v_aload_n X dX12_renew_45 0 rfl rfl 46 rfl ?_
        refine v_get X (C := RX12) (T := TX12) (N := 22) (ci := 11) (v := _) dX12_renew_46 (lay_of laym_X12) 0 rfl rfl 0 (by decide) (mw wm_304) rfl rfl 49 rfl ?_
        refine v_aload_n X dX12_renew_49 0 rfl rfl 50 rfl ?_
        refine v_get X (C := RX12) (T := TX12) (N := 22) (ci := 11) (v := _) dX12_renew_50 (lay_of laym_X12) 0 rfl rfl 0 (by decide) (mw wm_304) rfl rfl 53 rfl ?_
        refine v_iload_n X dX12_renew_53 1 rfl rfl 54 rfl ?_
        obtain ⟨o7, ho7, hf⟩ := bnd hf
        refine v_callSi X (As := [.ref (ad 1), .int v1]) (rest := [.ref (ad 1)]) (ws' := (wX12 ad c9 o6.1 o6.2.1 o5.2 m_inputLength m_position m_start m_token m_value m_letters m_code m_place m_outputLength m_s m_parsed m_tried o6.2.2 m_slots m_kept m_away m_input m_halfway m_output)) (c_X12_find l hG D c9 (ad 1) m_s v1 ho7) 2 (gS wm_174 wm_175 wm_37 wm_176) rfl rfl rfl pd_X12_find ⟨Nat.le_of_ble_eq_true rfl, Nat.le_of_ble_eq_true rfl⟩ rfl rfl (Nat.le_of_ble_eq_true rfl) ⟨Nat.zero_le _, Nat.zero_le _⟩ [1] [0, 2, 3, 4, 5, 6, 7, 8, 9, 10] [0, 10, 1, 2, 3, 4, 5, 6, 7, 8, 9] rfl rfl rfl rfl dX12_renew_54 57 rfl ?_
        obtain ⟨o8, ho8, hf⟩ := bnd hf
        refine v_callSi X (As := [.ref (ad 1), .int o7]) (rest := []) (ws' := (wX12 ad c9 o6.1 o6.2.1 o5.2 m_inputLength m_position m_start m_token m_value m_letters m_code m_place m_outputLength o8.2 m_parsed m_tried o6.2.2 m_slots m_kept m_away m_input m_halfway m_output)) (c_X12_renews l hG D c9 (ad 1) m_s o7 ho8) 2 (gS wm_235 wm_236 wm_37 wm_237) rfl rfl rfl pd_X12_renews ⟨Nat.le_of_ble_eq_true rfl, Nat.le_of_ble_eq_true rfl⟩ rfl rfl (Nat.le_of_ble_eq_true rfl) ⟨Nat.zero_le _, Nat.zero_le _⟩ [1] [0, 2, 3, 4, 5, 6, 7, 8, 9, 10] [0, 10, 1, 2, 3, 4, 5, 6, 7, 8, 9] rfl rfl rfl rfl dX12_renew_57 60 rfl ?_
        obtain rfl := Option.some.inj hf
        exact v_iret X (Nat.zero_le _) (Nat.zero_le _) dX12_renew_60
      · refine v_iconst X dX12_renew_39 ic_0 40 rfl ?_
        obtain rfl := Option.some.inj hf
        exact v_iret X (Nat.zero_le _) (Nat.zero_le _) dX12_renew_40
    clear hf
    refine v_if_eq X (tgt := 31) dX12_renew_24 rfl 27 rfl hj4 (fun hf => ?_) (fun hf => ?_)
    · refine v_iconst X dX12_renew_31 ic_0 32 rfl ?_
      obtain rfl := Option.some.inj hf
      exact Jj4
    · refine v_iconst X dX12_renew_27 ic_1 28 rfl ?_
      refine v_goto X (tgt := 32) dX12_renew_28 rfl ?_
      obtain rfl := Option.some.inj hf
      exact Jj4
theorem pd_X12_renew : yX12_renew.cls ≠ "java/lang/invoke/MethodHandle" ∧ yX12_renew.cls ≠ "java/lang/invoke/VarHandle" ∧ (parseMethodDescriptor yX12_renew.desc).map (fun d => d.parameters.length) = some 1 := by decide +kernel
def f_X12_cheese (m_undoable : Int32) (m_undoStart : Int32) (m_thrown : Int32) (m_s : Nat → Int32) (m_remembered : Nat → Int32) (v1 : Int32) : Option (Int32 × Int32 × Int32 × Int32 × (Nat → Int32) × (Nat → Int32)) :=
  (f_X12_noTicket m_thrown m_s v1).bind fun o1 =>
  if o1.1 = 0 then (
    (f_X12_find m_s v1).bind fun o2 =>
    (f_X12_whyNotCheese m_s o2).bind fun o3 =>
    Option.bind (if o3 = 0 then (
      some (0))
    else (
      some (1)) : Option (Int32)) fun j4 =>
    (f_X12_refuses o1.2 j4 2).bind fun o5 =>
    if o5.1 = 0 then (
      (f_X12_remember m_undoable m_undoStart m_s m_remembered).bind fun o6 =>
      (f_X12_find m_s v1).bind fun o7 =>
      (f_X12_gives m_s o7).bind fun o8 =>
      some (o8.1, o6.1, o6.2.1, o5.2, o8.2, o6.2.2))
    else (
      some (0, m_undoable, m_undoStart, o5.2, m_s, m_remembered)))
  else (
    some (0, m_undoable, m_undoStart, o1.2, m_s, m_remembered))
set_option maxRecDepth 100000 in
set_option maxHeartbeats 4000000 in
theorem c_X12_cheese (l : Launch) {G : (Nat → Prop) → State → Heap → Prop} (hG : vG G) (D : va_G) (c9 : Nat → ClassId) (ad : Nat → Nat) (m_undoable : Int32) (m_undoStart : Int32) (m_thrown : Int32) (m_inputLength : Int32) (m_position : Int32) (m_start : Int32) (m_token : Int32) (m_value : Int32) (m_letters : Int32) (m_code : Int32) (m_place : Int32) (m_outputLength : Int32) (m_s : Nat → Int32) (m_parsed : Nat → Int32) (m_tried : Nat → Int32) (m_remembered : Nat → Int32) (m_slots : Nat → Int32) (m_kept : Nat → Int32) (m_away : Nat → Int32) (m_input : Nat → Int32) (m_halfway : Nat → Int32) (m_output : Nat → Int32) (v1 : Int32) {o : Int32 × Int32 × Int32 × Int32 × (Nat → Int32) × (Nat → Int32)} (hf : f_X12_cheese m_undoable m_undoStart m_thrown m_s m_remembered v1 = some o) : mI l yX12_cheese (wq yX12_cheese cX12_cheese 2 (some .int)) { frames := 4, cells := 0, slots := 0, locals := 87 } G D (tyA c9) [.ref (ad 0), .int v1] (wX12 ad c9 m_undoable m_undoStart m_thrown m_inputLength m_position m_start m_token m_value m_letters m_code m_place m_outputLength m_s m_parsed m_tried m_remembered m_slots m_kept m_away m_input m_halfway m_output) [] 0 0 o.1 (wX12 ad c9 o.2.1 o.2.2.1 o.2.2.2.1 m_inputLength m_position m_start m_token m_value m_letters m_code m_place m_outputLength o.2.2.2.2.1 m_parsed m_tried o.2.2.2.2.2 m_slots m_kept m_away m_input m_halfway m_output) := by
  refine mI_of hG (cc := cX12_cheese) (maxL := 2) (ty := .int) (by decide) rfl (Nat.le_of_ble_eq_true rfl) ?_
  intro p e s m args below meth c A X
  have X : vX p s m args meth c cX12_cheese 2 (some .int) RX12 (wq yX12_cheese cX12_cheese 2 (some .int)) D (tyA c9) G A := X
  refine v_eq (lv2 := [(0, .ref (ad 0)), (1, .int v1)]) rfl rfl rfl rfl ?_
  rw [f_X12_cheese] at hf
  refine v_aload_n X dX12_cheese_0 0 rfl rfl 1 rfl ?_
  refine v_iload_n X dX12_cheese_1 1 rfl rfl 2 rfl ?_
  obtain ⟨o1, ho1, hf⟩ := bnd hf
  refine v_callVi X (ci := 11) (T := TX12) (C := RX12) (As := [.int v1]) (rest := []) (ws' := (wX12 ad c9 m_undoable m_undoStart o1.2 m_inputLength m_position m_start m_token m_value m_letters m_code m_place m_outputLength m_s m_parsed m_tried m_remembered m_slots m_kept m_away m_input m_halfway m_output)) (c_X12_noTicket l hG D c9 ad m_undoable m_undoStart m_thrown m_inputLength m_position m_start m_token m_value m_letters m_code m_place m_outputLength m_s m_parsed m_tried m_remembered m_slots m_kept m_away m_input m_halfway m_output v1 ho1) 1 (gV wm_337 wm_338 wm_339 wm_37 wm_340) rfl rfl rfl ⟨rfl, pd_X12_noTicket⟩ ⟨Nat.le_of_ble_eq_true rfl, Nat.le_of_ble_eq_true rfl⟩ 0 rfl rfl rfl rfl (Nat.le_of_ble_eq_true rfl) ⟨Nat.zero_le _, Nat.zero_le _⟩ [0, 1, 2, 3, 4, 5, 6, 7, 8, 9, 10] [] [0, 1, 2, 3, 4, 5, 6, 7, 8, 9, 10] rfl rfl rfl rfl dX12_cheese_2 5 rfl ?_
  refine v_if_ne X (tgt := 39) dX12_cheese_5 rfl 8 rfl hf (fun hf => ?_) (fun hf => ?_)
  · refine v_iconst X dX12_cheese_39 ic_0 40 rfl ?_
    obtain rfl := Option.some.inj hf
    exact v_iret X (Nat.zero_le _) (Nat.zero_le _) dX12_cheese_40
  · refine v_aload_n X dX12_cheese_8 0 rfl rfl 9 rfl ?_
    refine v_aload_n X dX12_cheese_9 0 rfl rfl 10 rfl ?_
    refine v_get X (C := RX12) (T := TX12) (N := 22) (ci := 11) (v := _) dX12_cheese_10 (lay_of laym_X12) 0 rfl rfl 0 (by decide) (mw wm_304) rfl rfl 13 rfl ?_
    refine v_aload_n X dX12_cheese_13 0 rfl rfl 14 rfl ?_
    refine v_get X (C := RX12) (T := TX12) (N := 22) (ci := 11) (v := _) dX12_cheese_14 (lay_of laym_X12) 0 rfl rfl 0 (by decide) (mw wm_304) rfl rfl 17 rfl ?_
    refine v_iload_n X dX12_cheese_17 1 rfl rfl 18 rfl ?_
    obtain ⟨o2, ho2, hf⟩ := bnd hf
    refine v_callSi X (As := [.ref (ad 1), .int v1]) (rest := [.ref (ad 1), .ref (ad 0)]) (ws' := (wX12 ad c9 m_undoable m_undoStart o1.2 m_inputLength m_position m_start m_token m_value m_letters m_code m_place m_outputLength m_s m_parsed m_tried m_remembered m_slots m_kept m_away m_input m_halfway m_output)) (c_X12_find l hG D c9 (ad 1) m_s v1 ho2) 2 (gS wm_174 wm_175 wm_37 wm_176) rfl rfl rfl pd_X12_find ⟨Nat.le_of_ble_eq_true rfl, Nat.le_of_ble_eq_true rfl⟩ rfl rfl (Nat.le_of_ble_eq_true rfl) ⟨Nat.zero_le _, Nat.zero_le _⟩ [1] [0, 2, 3, 4, 5, 6, 7, 8, 9, 10] [0, 10, 1, 2, 3, 4, 5, 6, 7, 8, 9] rfl rfl rfl rfl dX12_cheese_18 21 rfl ?_
    obtain ⟨o3, ho3, hf⟩ := bnd hf
    refine v_callSi X (As := [.ref (ad 1), .int o2]) (rest := [.ref (ad 0)]) (ws' := (wX12 ad c9 m_undoable m_undoStart o1.2 m_inputLength m_position m_start m_token m_value m_letters m_code m_place m_outputLength m_s m_parsed m_tried m_remembered m_slots m_kept m_away m_input m_halfway m_output)) (c_X12_whyNotCheese l hG D c9 (ad 1) m_s o2 ho3) 2 (gS wm_238 wm_239 wm_37 wm_240) rfl rfl rfl pd_X12_whyNotCheese ⟨Nat.le_of_ble_eq_true rfl, Nat.le_of_ble_eq_true rfl⟩ rfl rfl (Nat.le_of_ble_eq_true rfl) ⟨Nat.zero_le _, Nat.zero_le _⟩ [1] [0, 2, 3, 4, 5, 6, 7, 8, 9, 10] [0, 10, 1, 2, 3, 4, 5, 6, 7, 8, 9] rfl rfl rfl rfl dX12_cheese_21 24 rfl ?_
    obtain ⟨j4, hj4, hf⟩ := bnd hf
    have Jj4 : vW p l e { frames := 4, cells := 0, slots := 0, locals := 87 } s m args below meth c 2 D A [] 0 0 (MQ below (eI D (tyA c9) A o.1 ((wX12 ad c9 o.2.1 o.2.2.1 o.2.2.2.1 m_inputLength m_position m_start m_token m_value m_letters m_code m_place m_outputLength o.2.2.2.2.1 m_parsed m_tried o.2.2.2.2.2 m_slots m_kept m_away m_input m_halfway m_output) ++ [])) args s 0 0 A) (wX12 ad c9 m_undoable m_undoStart o1.2 m_inputLength m_position m_start m_token m_value m_letters m_code m_place m_outputLength m_s m_parsed m_tried m_remembered m_slots m_kept m_away m_input m_halfway m_output) 32 [(0, .ref (ad 0)), (1, .int v1)] [.int j4, .ref (ad 0)] := by
      refine v_iconst X dX12_cheese_32 ic_2 33 rfl ?_
      obtain ⟨o5, ho5, hf⟩ := bnd hf
      refine v_callVi X (ci := 11) (T := TX12) (C := RX12) (As := [.int j4, .int 2]) (rest := []) (ws' := (wX12 ad c9 m_undoable m_undoStart o5.2 m_inputLength m_position m_start m_token m_value m_letters m_code m_place m_outputLength m_s m_parsed m_tried m_remembered m_slots m_kept m_away m_input m_halfway m_output)) (c_X12_refuses l hG D c9 ad m_undoable m_undoStart o1.2 m_inputLength m_position m_start m_token m_value m_letters m_code m_place m_outputLength m_s m_parsed m_tried m_remembered m_slots m_kept m_away m_input m_halfway m_output j4 2 ho5) 2 (gV wm_103 wm_104 wm_105 wm_37 wm_106) rfl rfl rfl ⟨rfl, pd_X12_refuses⟩ ⟨Nat.le_of_ble_eq_true rfl, Nat.le_of_ble_eq_true rfl⟩ 0 rfl rfl rfl rfl (Nat.le_of_ble_eq_true rfl) ⟨Nat.zero_le _, Nat.zero_le _⟩ [0, 1, 2, 3, 4, 5, 6, 7, 8, 9, 10] [] [0, 1, 2, 3, 4, 5, 6, 7, 8, 9, 10] rfl rfl rfl rfl dX12_cheese_33 36 rfl ?_
      refine v_if_eq X (tgt := 41) dX12_cheese_36 rfl 39 rfl hf (fun hf => ?_) (fun hf => ?_)
      · refine v_aload_n X dX12_cheese_41 0 rfl rfl 42 rfl ?_
        obtain ⟨o6, ho6, hf⟩ := bnd hf
        refine v_callVv X (ci := 11) (T := TX12) (C := RX12) (As := []) (rest := []) (ws' := (wX12 ad c9 o6.1 o6.2.1 o5.2 m_inputLength m_position m_start m_token m_value m_letters m_code m_place m_outputLength m_s m_parsed m_tried o6.2.2 m_slots m_kept m_away m_input m_halfway m_output)) (c_X12_remember l hG D c9 ad m_undoable m_undoStart o5.2 m_inputLength m_position m_start m_token m_value m_letters m_code m_place m_outputLength m_s m_parsed m_tried m_remembered m_slots m_kept m_away m_input m_halfway m_output ho6) 0 (gV wm_313 wm_314 wm_315 wm_37 wm_316) rfl rfl rfl ⟨rfl, pd_X12_remember⟩ ⟨Nat.le_of_ble_eq_true rfl, Nat.le_of_ble_eq_true rfl⟩ 0 rfl rfl rfl rfl (Nat.le_of_ble_eq_true rfl) ⟨Nat.zero_le _, Nat.zero_le _⟩ [0, 1, 2, 3, 4, 5, 6, 7, 8, 9, 10] [] [0, 1, 2, 3, 4, 5, 6, 7, 8, 9, 10] rfl rfl rfl rfl dX12_cheese_42 45 rfl ?_
        refine v_aload_n X dX12_cheese_45 0 rfl rfl 46 rfl ?_
        refine v_get X (C := RX12) (T := TX12) (N := 22) (ci := 11) (v := _) dX12_cheese_46 (lay_of laym_X12) 0 rfl rfl 0 (by decide) (mw wm_304) rfl rfl 49 rfl ?_
        refine v_aload_n X dX12_cheese_49 0 rfl rfl 50 rfl ?_
        refine v_get X (C := RX12) (T := TX12) (N := 22) (ci := 11) (v := _) dX12_cheese_50 (lay_of laym_X12) 0 rfl rfl 0 (by decide) (mw wm_304) rfl rfl 53 rfl ?_
        refine v_iload_n X dX12_cheese_53 1 rfl rfl 54 rfl ?_
        obtain ⟨o7, ho7, hf⟩ := bnd hf
        refine v_callSi X (As := [.ref (ad 1), .int v1]) (rest := [.ref (ad 1)]) (ws' := (wX12 ad c9 o6.1 o6.2.1 o5.2 m_inputLength m_position m_start m_token m_value m_letters m_code m_place m_outputLength m_s m_parsed m_tried o6.2.2 m_slots m_kept m_away m_input m_halfway m_output)) (c_X12_find l hG D c9 (ad 1) m_s v1 ho7) 2 (gS wm_174 wm_175 wm_37 wm_176) rfl rfl rfl pd_X12_find ⟨Nat.le_of_ble_eq_true rfl, Nat.le_of_ble_eq_true rfl⟩ rfl rfl (Nat.le_of_ble_eq_true rfl) ⟨Nat.zero_le _, Nat.zero_le _⟩ [1] [0, 2, 3, 4, 5, 6, 7, 8, 9, 10] [0, 10, 1, 2, 3, 4, 5, 6, 7, 8, 9] rfl rfl rfl rfl dX12_cheese_54 57 rfl ?_
        obtain ⟨o8, ho8, hf⟩ := bnd hf
        refine v_callSi X (As := [.ref (ad 1), .int o7]) (rest := []) (ws' := (wX12 ad c9 o6.1 o6.2.1 o5.2 m_inputLength m_position m_start m_token m_value m_letters m_code m_place m_outputLength o8.2 m_parsed m_tried o6.2.2 m_slots m_kept m_away m_input m_halfway m_output)) (c_X12_gives l hG D c9 (ad 1) m_s o7 ho8) 2 (gS wm_241 wm_242 wm_37 wm_243) rfl rfl rfl pd_X12_gives ⟨Nat.le_of_ble_eq_true rfl, Nat.le_of_ble_eq_true rfl⟩ rfl rfl (Nat.le_of_ble_eq_true rfl) ⟨Nat.zero_le _, Nat.zero_le _⟩ [1] [0, 2, 3, 4, 5, 6, 7, 8, 9, 10] [0, 10, 1, 2, 3, 4, 5, 6, 7, 8, 9] rfl rfl rfl rfl dX12_cheese_57 60 rfl ?_
        obtain rfl := Option.some.inj hf
        exact v_iret X (Nat.zero_le _) (Nat.zero_le _) dX12_cheese_60
      · refine v_iconst X dX12_cheese_39 ic_0 40 rfl ?_
        obtain rfl := Option.some.inj hf
        exact v_iret X (Nat.zero_le _) (Nat.zero_le _) dX12_cheese_40
    clear hf
    refine v_if_eq X (tgt := 31) dX12_cheese_24 rfl 27 rfl hj4 (fun hf => ?_) (fun hf => ?_)
    · refine v_iconst X dX12_cheese_31 ic_0 32 rfl ?_
      obtain rfl := Option.some.inj hf
      exact Jj4
    · refine v_iconst X dX12_cheese_27 ic_1 28 rfl ?_
      refine v_goto X (tgt := 32) dX12_cheese_28 rfl ?_
      obtain rfl := Option.some.inj hf
      exact Jj4
theorem pd_X12_cheese : yX12_cheese.cls ≠ "java/lang/invoke/MethodHandle" ∧ yX12_cheese.cls ≠ "java/lang/invoke/VarHandle" ∧ (parseMethodDescriptor yX12_cheese.desc).map (fun d => d.parameters.length) = some 1 := by decide +kernel
def f_X12_drop (m_undoable : Int32) (m_undoStart : Int32) (m_thrown : Int32) (m_s : Nat → Int32) (m_remembered : Nat → Int32) (v1 : Int32) : Option (Int32 × Int32 × Int32 × Int32 × (Nat → Int32) × (Nat → Int32)) :=
  (f_X12_noTicket m_thrown m_s v1).bind fun o1 =>
  if o1.1 = 0 then (
    (f_X12_remember m_undoable m_undoStart m_s m_remembered).bind fun o2 =>
    (f_X12_find m_s v1).bind fun o3 =>
    (f_X12_drops m_s o3).bind fun o4 =>
    some (o4.1, o2.1, o2.2.1, o1.2, o4.2, o2.2.2))
  else (
    some (0, m_undoable, m_undoStart, o1.2, m_s, m_remembered))
set_option maxRecDepth 100000 in
set_option maxHeartbeats 4000000 in
theorem c_X12_drop (l : Launch) {G : (Nat → Prop) → State → Heap → Prop} (hG : vG G) (D : va_G) (c9 : Nat → ClassId) (ad : Nat → Nat) (m_undoable : Int32) (m_undoStart : Int32) (m_thrown : Int32) (m_inputLength : Int32) (m_position : Int32) (m_start : Int32) (m_token : Int32) (m_value : Int32) (m_letters : Int32) (m_code : Int32) (m_place : Int32) (m_outputLength : Int32) (m_s : Nat → Int32) (m_parsed : Nat → Int32) (m_tried : Nat → Int32) (m_remembered : Nat → Int32) (m_slots : Nat → Int32) (m_kept : Nat → Int32) (m_away : Nat → Int32) (m_input : Nat → Int32) (m_halfway : Nat → Int32) (m_output : Nat → Int32) (v1 : Int32) {o : Int32 × Int32 × Int32 × Int32 × (Nat → Int32) × (Nat → Int32)} (hf : f_X12_drop m_undoable m_undoStart m_thrown m_s m_remembered v1 = some o) : mI l yX12_drop (wq yX12_drop cX12_drop 2 (some .int)) { frames := 3, cells := 0, slots := 0, locals := 63 } G D (tyA c9) [.ref (ad 0), .int v1] (wX12 ad c9 m_undoable m_undoStart m_thrown m_inputLength m_position m_start m_token m_value m_letters m_code m_place m_outputLength m_s m_parsed m_tried m_remembered m_slots m_kept m_away m_input m_halfway m_output) [] 0 0 o.1 (wX12 ad c9 o.2.1 o.2.2.1 o.2.2.2.1 m_inputLength m_position m_start m_token m_value m_letters m_code m_place m_outputLength o.2.2.2.2.1 m_parsed m_tried o.2.2.2.2.2 m_slots m_kept m_away m_input m_halfway m_output) := by
  refine mI_of hG (cc := cX12_drop) (maxL := 2) (ty := .int) (by decide) rfl (Nat.le_of_ble_eq_true rfl) ?_
  intro p e s m args below meth c A X
  have X : vX p s m args meth c cX12_drop 2 (some .int) RX12 (wq yX12_drop cX12_drop 2 (some .int)) D (tyA c9) G A := X
  refine v_eq (lv2 := [(0, .ref (ad 0)), (1, .int v1)]) rfl rfl rfl rfl ?_
  rw [f_X12_drop] at hf
  refine v_aload_n X dX12_drop_0 0 rfl rfl 1 rfl ?_
  refine v_iload_n X dX12_drop_1 1 rfl rfl 2 rfl ?_
  obtain ⟨o1, ho1, hf⟩ := bnd hf
  refine v_callVi X (ci := 11) (T := TX12) (C := RX12) (As := [.int v1]) (rest := []) (ws' := (wX12 ad c9 m_undoable m_undoStart o1.2 m_inputLength m_position m_start m_token m_value m_letters m_code m_place m_outputLength m_s m_parsed m_tried m_remembered m_slots m_kept m_away m_input m_halfway m_output)) (c_X12_noTicket l hG D c9 ad m_undoable m_undoStart m_thrown m_inputLength m_position m_start m_token m_value m_letters m_code m_place m_outputLength m_s m_parsed m_tried m_remembered m_slots m_kept m_away m_input m_halfway m_output v1 ho1) 1 (gV wm_337 wm_338 wm_339 wm_37 wm_340) rfl rfl rfl ⟨rfl, pd_X12_noTicket⟩ ⟨Nat.le_of_ble_eq_true rfl, Nat.le_of_ble_eq_true rfl⟩ 0 rfl rfl rfl rfl (Nat.le_of_ble_eq_true rfl) ⟨Nat.zero_le _, Nat.zero_le _⟩ [0, 1, 2, 3, 4, 5, 6, 7, 8, 9, 10] [] [0, 1, 2, 3, 4, 5, 6, 7, 8, 9, 10] rfl rfl rfl rfl dX12_drop_2 5 rfl ?_
  refine v_if_eq X (tgt := 10) dX12_drop_5 rfl 8 rfl hf (fun hf => ?_) (fun hf => ?_)
  · refine v_aload_n X dX12_drop_10 0 rfl rfl 11 rfl ?_
    obtain ⟨o2, ho2, hf⟩ := bnd hf
    refine v_callVv X (ci := 11) (T := TX12) (C := RX12) (As := []) (rest := []) (ws' := (wX12 ad c9 o2.1 o2.2.1 o1.2 m_inputLength m_position m_start m_token m_value m_letters m_code m_place m_outputLength m_s m_parsed m_tried o2.2.2 m_slots m_kept m_away m_input m_halfway m_output)) (c_X12_remember l hG D c9 ad m_undoable m_undoStart o1.2 m_inputLength m_position m_start m_token m_value m_letters m_code m_place m_outputLength m_s m_parsed m_tried m_remembered m_slots m_kept m_away m_input m_halfway m_output ho2) 0 (gV wm_313 wm_314 wm_315 wm_37 wm_316) rfl rfl rfl ⟨rfl, pd_X12_remember⟩ ⟨Nat.le_of_ble_eq_true rfl, Nat.le_of_ble_eq_true rfl⟩ 0 rfl rfl rfl rfl (Nat.le_of_ble_eq_true rfl) ⟨Nat.zero_le _, Nat.zero_le _⟩ [0, 1, 2, 3, 4, 5, 6, 7, 8, 9, 10] [] [0, 1, 2, 3, 4, 5, 6, 7, 8, 9, 10] rfl rfl rfl rfl dX12_drop_11 14 rfl ?_
    refine v_aload_n X dX12_drop_14 0 rfl rfl 15 rfl ?_
    refine v_get X (C := RX12) (T := TX12) (N := 22) (ci := 11) (v := _) dX12_drop_15 (lay_of laym_X12) 0 rfl rfl 0 (by decide) (mw wm_304) rfl rfl 18 rfl ?_
    refine v_aload_n X dX12_drop_18 0 rfl rfl 19 rfl ?_
    refine v_get X (C := RX12) (T := TX12) (N := 22) (ci := 11) (v := _) dX12_drop_19 (lay_of laym_X12) 0 rfl rfl 0 (by decide) (mw wm_304) rfl rfl 22 rfl ?_
    refine v_iload_n X dX12_drop_22 1 rfl rfl 23 rfl ?_
    obtain ⟨o3, ho3, hf⟩ := bnd hf
    refine v_callSi X (As := [.ref (ad 1), .int v1]) (rest := [.ref (ad 1)]) (ws' := (wX12 ad c9 o2.1 o2.2.1 o1.2 m_inputLength m_position m_start m_token m_value m_letters m_code m_place m_outputLength m_s m_parsed m_tried o2.2.2 m_slots m_kept m_away m_input m_halfway m_output)) (c_X12_find l hG D c9 (ad 1) m_s v1 ho3) 2 (gS wm_174 wm_175 wm_37 wm_176) rfl rfl rfl pd_X12_find ⟨Nat.le_of_ble_eq_true rfl, Nat.le_of_ble_eq_true rfl⟩ rfl rfl (Nat.le_of_ble_eq_true rfl) ⟨Nat.zero_le _, Nat.zero_le _⟩ [1] [0, 2, 3, 4, 5, 6, 7, 8, 9, 10] [0, 10, 1, 2, 3, 4, 5, 6, 7, 8, 9] rfl rfl rfl rfl dX12_drop_23 26 rfl ?_
    obtain ⟨o4, ho4, hf⟩ := bnd hf
    refine v_callSi X (As := [.ref (ad 1), .int o3]) (rest := []) (ws' := (wX12 ad c9 o2.1 o2.2.1 o1.2 m_inputLength m_position m_start m_token m_value m_letters m_code m_place m_outputLength o4.2 m_parsed m_tried o2.2.2 m_slots m_kept m_away m_input m_halfway m_output)) (c_X12_drops l hG D c9 (ad 1) m_s o3 ho4) 2 (gS wm_94 wm_95 wm_37 wm_96) rfl rfl rfl pd_X12_drops ⟨Nat.le_of_ble_eq_true rfl, Nat.le_of_ble_eq_true rfl⟩ rfl rfl (Nat.le_of_ble_eq_true rfl) ⟨Nat.zero_le _, Nat.zero_le _⟩ [1] [0, 2, 3, 4, 5, 6, 7, 8, 9, 10] [0, 10, 1, 2, 3, 4, 5, 6, 7, 8, 9] rfl rfl rfl rfl dX12_drop_26 29 rfl ?_
    obtain rfl := Option.some.inj hf
    exact v_iret X (Nat.zero_le _) (Nat.zero_le _) dX12_drop_29
  · refine v_iconst X dX12_drop_8 ic_0 9 rfl ?_
    obtain rfl := Option.some.inj hf
    exact v_iret X (Nat.zero_le _) (Nat.zero_le _) dX12_drop_9
theorem pd_X12_drop : yX12_drop.cls ≠ "java/lang/invoke/MethodHandle" ∧ yX12_drop.cls ≠ "java/lang/invoke/VarHandle" ∧ (parseMethodDescriptor yX12_drop.desc).map (fun d => d.parameters.length) = some 1 := by decide +kernel
def f_X12_sweep (m_undoable : Int32) (m_undoStart : Int32) (m_thrown : Int32) (m_s : Nat → Int32) (m_remembered : Nat → Int32) : Option (Int32 × Int32 × Int32 × Int32 × (Nat → Int32) × (Nat → Int32)) :=
  (f_X12_remember m_undoable m_undoStart m_s m_remembered).bind fun o1 =>
  (f_X12_sweeps m_s).bind fun o2 =>
  some (o2.1, o1.1, o1.2.1, 0, o2.2, o1.2.2)
set_option maxRecDepth 100000 in
set_option maxHeartbeats 4000000 in
theorem c_X12_sweep (l : Launch) {G : (Nat → Prop) → State → Heap → Prop} (hG : vG G) (D : va_G) (c9 : Nat → ClassId) (ad : Nat → Nat) (m_undoable : Int32) (m_undoStart : Int32) (m_thrown : Int32) (m_inputLength : Int32) (m_position : Int32) (m_start : Int32) (m_token : Int32) (m_value : Int32) (m_letters : Int32) (m_code : Int32) (m_place : Int32) (m_outputLength : Int32) (m_s : Nat → Int32) (m_parsed : Nat → Int32) (m_tried : Nat → Int32) (m_remembered : Nat → Int32) (m_slots : Nat → Int32) (m_kept : Nat → Int32) (m_away : Nat → Int32) (m_input : Nat → Int32) (m_halfway : Nat → Int32) (m_output : Nat → Int32)  {o : Int32 × Int32 × Int32 × Int32 × (Nat → Int32) × (Nat → Int32)} (hf : f_X12_sweep m_undoable m_undoStart m_thrown m_s m_remembered = some o) : mI l yX12_sweep (wq yX12_sweep cX12_sweep 1 (some .int)) { frames := 3, cells := 0, slots := 0, locals := 64 } G D (tyA c9) [.ref (ad 0)] (wX12 ad c9 m_undoable m_undoStart m_thrown m_inputLength m_position m_start m_token m_value m_letters m_code m_place m_outputLength m_s m_parsed m_tried m_remembered m_slots m_kept m_away m_input m_halfway m_output) [] 0 0 o.1 (wX12 ad c9 o.2.1 o.2.2.1 o.2.2.2.1 m_inputLength m_position m_start m_token m_value m_letters m_code m_place m_outputLength o.2.2.2.2.1 m_parsed m_tried o.2.2.2.2.2 m_slots m_kept m_away m_input m_halfway m_output) := by
  refine mI_of hG (cc := cX12_sweep) (maxL := 1) (ty := .int) (by decide) rfl (Nat.le_of_ble_eq_true rfl) ?_
  intro p e s m args below meth c A X
  have X : vX p s m args meth c cX12_sweep 1 (some .int) RX12 (wq yX12_sweep cX12_sweep 1 (some .int)) D (tyA c9) G A := X
  refine v_eq (lv2 := [(0, .ref (ad 0))]) rfl rfl rfl rfl ?_
  rw [f_X12_sweep] at hf
  refine v_aload_n X dX12_sweep_0 0 rfl rfl 1 rfl ?_
  refine v_iconst X dX12_sweep_1 ic_0 2 rfl ?_
  refine v_put X (C := RX12) (T := TX12) (N := 22) (ci := 11) (ty := tyX12 8) (ws' := (wX12 ad c9 m_undoable m_undoStart 0 m_inputLength m_position m_start m_token m_value m_letters m_code m_place m_outputLength m_s m_parsed m_tried m_remembered m_slots m_kept m_away m_input m_halfway m_output)) dX12_sweep_2 (lay_of laym_X12) 0 rfl rfl 8 (by decide) tyX12 tyX12_ok nmX12 (mw wm_33) rfl rfl (tyX12_ok 8 (by decide)) rfl rfl (Nat.le_of_ble_eq_true rfl) rfl 5 rfl ?_
  refine v_aload_n X dX12_sweep_5 0 rfl rfl 6 rfl ?_
  obtain ⟨o1, ho1, hf⟩ := bnd hf
  refine v_callVv X (ci := 11) (T := TX12) (C := RX12) (As := []) (rest := []) (ws' := (wX12 ad c9 o1.1 o1.2.1 0 m_inputLength m_position m_start m_token m_value m_letters m_code m_place m_outputLength m_s m_parsed m_tried o1.2.2 m_slots m_kept m_away m_input m_halfway m_output)) (c_X12_remember l hG D c9 ad m_undoable m_undoStart 0 m_inputLength m_position m_start m_token m_value m_letters m_code m_place m_outputLength m_s m_parsed m_tried m_remembered m_slots m_kept m_away m_input m_halfway m_output ho1) 0 (gV wm_313 wm_314 wm_315 wm_37 wm_316) rfl rfl rfl ⟨rfl, pd_X12_remember⟩ ⟨Nat.le_of_ble_eq_true rfl, Nat.le_of_ble_eq_true rfl⟩ 0 rfl rfl rfl rfl (Nat.le_of_ble_eq_true rfl) ⟨Nat.zero_le _, Nat.zero_le _⟩ [0, 1, 2, 3, 4, 5, 6, 7, 8, 9, 10] [] [0, 1, 2, 3, 4, 5, 6, 7, 8, 9, 10] rfl rfl rfl rfl dX12_sweep_6 9 rfl ?_
  refine v_aload_n X dX12_sweep_9 0 rfl rfl 10 rfl ?_
  refine v_get X (C := RX12) (T := TX12) (N := 22) (ci := 11) (v := _) dX12_sweep_10 (lay_of laym_X12) 0 rfl rfl 0 (by decide) (mw wm_304) rfl rfl 13 rfl ?_
  obtain ⟨o2, ho2, hf⟩ := bnd hf
  refine v_callSi X (As := [.ref (ad 1)]) (rest := []) (ws' := (wX12 ad c9 o1.1 o1.2.1 0 m_inputLength m_position m_start m_token m_value m_letters m_code m_place m_outputLength o2.2 m_parsed m_tried o1.2.2 m_slots m_kept m_away m_input m_halfway m_output)) (c_X12_sweeps l hG D c9 (ad 1) m_s ho2) 1 (gS wm_244 wm_245 wm_37 wm_246) rfl rfl rfl pd_X12_sweeps ⟨Nat.le_of_ble_eq_true rfl, Nat.le_of_ble_eq_true rfl⟩ rfl rfl (Nat.le_of_ble_eq_true rfl) ⟨Nat.zero_le _, Nat.zero_le _⟩ [1] [0, 2, 3, 4, 5, 6, 7, 8, 9, 10] [0, 10, 1, 2, 3, 4, 5, 6, 7, 8, 9] rfl rfl rfl rfl dX12_sweep_13 16 rfl ?_
  obtain rfl := Option.some.inj hf
  exact v_iret X (Nat.zero_le _) (Nat.zero_le _) dX12_sweep_16
theorem pd_X12_sweep : yX12_sweep.cls ≠ "java/lang/invoke/MethodHandle" ∧ yX12_sweep.cls ≠ "java/lang/invoke/VarHandle" ∧ (parseMethodDescriptor yX12_sweep.desc).map (fun d => d.parameters.length) = some 0 := by decide +kernel
def f_X12_setOf (m_undoable : Int32) (m_undoStart : Int32) (m_s : Nat → Int32) (m_remembered : Nat → Int32) (v1 : Int32) (v2 : Int32) (v3 : Int32) : Option (Int32 × Int32 × Int32 × (Nat → Int32) × (Nat → Int32)) :=
  (f_X12_remember m_undoable m_undoStart m_s m_remembered).bind fun o1 =>
  (f_X12_ofUser v1).bind fun o2 =>
  (rd m_s 463 (o2 + v2)).bind fun x3 =>
  (f_X12_ofUser v1).bind fun o4 =>
  (wr m_s 463 (o4 + v2) v3).bind fun g5 =>
  some (x3, o1.1, o1.2.1, g5, o1.2.2)
set_option maxRecDepth 100000 in
set_option maxHeartbeats 4000000 in
theorem c_X12_setOf (l : Launch) {G : (Nat → Prop) → State → Heap → Prop} (hG : vG G) (D : va_G) (c9 : Nat → ClassId) (ad : Nat → Nat) (m_undoable : Int32) (m_undoStart : Int32) (m_thrown : Int32) (m_inputLength : Int32) (m_position : Int32) (m_start : Int32) (m_token : Int32) (m_value : Int32) (m_letters : Int32) (m_code : Int32) (m_place : Int32) (m_outputLength : Int32) (m_s : Nat → Int32) (m_parsed : Nat → Int32) (m_tried : Nat → Int32) (m_remembered : Nat → Int32) (m_slots : Nat → Int32) (m_kept : Nat → Int32) (m_away : Nat → Int32) (m_input : Nat → Int32) (m_halfway : Nat → Int32) (m_output : Nat → Int32) (v1 : Int32) (v2 : Int32) (v3 : Int32) {o : Int32 × Int32 × Int32 × (Nat → Int32) × (Nat → Int32)} (hf : f_X12_setOf m_undoable m_undoStart m_s m_remembered v1 v2 v3 = some o) : mI l yX12_setOf (wq yX12_setOf cX12_setOf 5 (some .int)) { frames := 2, cells := 0, slots := 0, locals := 44 } G D (tyA c9) [.ref (ad 0), .int v1, .int v2, .int v3] (wX12 ad c9 m_undoable m_undoStart m_thrown m_inputLength m_position m_start m_token m_value m_letters m_code m_place m_outputLength m_s m_parsed m_tried m_remembered m_slots m_kept m_away m_input m_halfway m_output) [] 0 0 o.1 (wX12 ad c9 o.2.1 o.2.2.1 m_thrown m_inputLength m_position m_start m_token m_value m_letters m_code m_place m_outputLength o.2.2.2.1 m_parsed m_tried o.2.2.2.2 m_slots m_kept m_away m_input m_halfway m_output) := by
  refine mI_of hG (cc := cX12_setOf) (maxL := 5) (ty := .int) (by decide) rfl (Nat.le_of_ble_eq_true rfl) ?_
  intro p e s m args below meth c A X
  have X : vX p s m args meth c cX12_setOf 5 (some .int) RX12 (wq yX12_setOf cX12_setOf 5 (some .int)) D (tyA c9) G A := X
  refine v_eq (lv2 := [(0, .ref (ad 0)), (1, .int v1), (2, .int v2), (3, .int v3)]) rfl rfl rfl rfl ?_
  rw [f_X12_setOf] at hf
  refine v_aload_n X dX12_setOf_0 0 rfl rfl 1 rfl ?_
  obtain ⟨o1, ho1, hf⟩ := bnd hf
  refine v_callVv X (ci := 11) (T := TX12) (C := RX12) (As := []) (rest := []) (ws' := (wX12 ad c9 o1.1 o1.2.1 m_thrown m_inputLength m_position m_start m_token m_value m_letters m_code m_place m_outputLength m_s m_parsed m_tried o1.2.2 m_slots m_kept m_away m_input m_halfway m_output)) (c_X12_remember l hG D c9 ad m_undoable m_undoStart m_thrown m_inputLength m_position m_start m_token m_value m_letters m_code m_place m_outputLength m_s m_parsed m_tried m_remembered m_slots m_kept m_away m_input m_halfway m_output ho1) 0 (gV wm_313 wm_314 wm_315 wm_37 wm_316) rfl rfl rfl ⟨rfl, pd_X12_remember⟩ ⟨Nat.le_of_ble_eq_true rfl, Nat.le_of_ble_eq_true rfl⟩ 0 rfl rfl rfl rfl (Nat.le_of_ble_eq_true rfl) ⟨Nat.zero_le _, Nat.zero_le _⟩ [0, 1, 2, 3, 4, 5, 6, 7, 8, 9, 10] [] [0, 1, 2, 3, 4, 5, 6, 7, 8, 9, 10] rfl rfl rfl rfl dX12_setOf_1 4 rfl ?_
  refine v_aload_n X dX12_setOf_4 0 rfl rfl 5 rfl ?_
  refine v_get X (C := RX12) (T := TX12) (N := 22) (ci := 11) (v := _) dX12_setOf_5 (lay_of laym_X12) 0 rfl rfl 0 (by decide) (mw wm_304) rfl rfl 8 rfl ?_
  refine v_iload_n X dX12_setOf_8 1 rfl rfl 9 rfl ?_
  obtain ⟨o2, ho2, hf⟩ := bnd hf
  refine v_callSi X (As := [.int v1]) (rest := [.ref (ad 1)]) (ws' := (wX12 ad c9 o1.1 o1.2.1 m_thrown m_inputLength m_position m_start m_token m_value m_letters m_code m_place m_outputLength m_s m_parsed m_tried o1.2.2 m_slots m_kept m_away m_input m_halfway m_output)) (c_X12_ofUser l hG D c9 v1 ho2) 1 (gS wm_46 wm_47 wm_37 wm_48) rfl rfl rfl pd_X12_ofUser ⟨Nat.le_of_ble_eq_true rfl, Nat.le_of_ble_eq_true rfl⟩ rfl rfl (Nat.le_of_ble_eq_true rfl) ⟨Nat.zero_le _, Nat.zero_le _⟩ [] [0, 1, 2, 3, 4, 5, 6, 7, 8, 9, 10] [0, 1, 2, 3, 4, 5, 6, 7, 8, 9, 10] rfl rfl rfl rfl dX12_setOf_9 12 rfl ?_
  refine v_iload_n X dX12_setOf_12 2 rfl rfl 13 rfl ?_
  refine v_iadd X dX12_setOf_13 14 rfl ?_
  obtain ⟨x3, hx3, hf⟩ := bnd hf
  refine v_iald X dX12_setOf_14 1 0 rfl rfl hx3 15 rfl ?_
  refine v_istore X (lv' := [(4, .int x3), (0, .ref (ad 0)), (1, .int v1), (2, .int v2), (3, .int v3)]) dX12_setOf_15 (by decide) rfl 17 rfl ?_
  refine v_aload_n X dX12_setOf_17 1 rfl rfl 18 rfl ?_
  refine v_get X (C := RX12) (T := TX12) (N := 22) (ci := 11) (v := _) dX12_setOf_18 (lay_of laym_X12) 0 rfl rfl 0 (by decide) (mw wm_304) rfl rfl 21 rfl ?_
  refine v_iload_n X dX12_setOf_21 2 rfl rfl 22 rfl ?_
  obtain ⟨o4, ho4, hf⟩ := bnd hf
  refine v_callSi X (As := [.int v1]) (rest := [.ref (ad 1)]) (ws' := (wX12 ad c9 o1.1 o1.2.1 m_thrown m_inputLength m_position m_start m_token m_value m_letters m_code m_place m_outputLength m_s m_parsed m_tried o1.2.2 m_slots m_kept m_away m_input m_halfway m_output)) (c_X12_ofUser l hG D c9 v1 ho4) 1 (gS wm_46 wm_47 wm_37 wm_48) rfl rfl rfl pd_X12_ofUser ⟨Nat.le_of_ble_eq_true rfl, Nat.le_of_ble_eq_true rfl⟩ rfl rfl (Nat.le_of_ble_eq_true rfl) ⟨Nat.zero_le _, Nat.zero_le _⟩ [] [0, 1, 2, 3, 4, 5, 6, 7, 8, 9, 10] [0, 1, 2, 3, 4, 5, 6, 7, 8, 9, 10] rfl rfl rfl rfl dX12_setOf_22 25 rfl ?_
  refine v_iload_n X dX12_setOf_25 3 rfl rfl 26 rfl ?_
  refine v_iadd X dX12_setOf_26 27 rfl ?_
  refine v_iload_n X dX12_setOf_27 4 rfl rfl 28 rfl ?_
  obtain ⟨g5, hg5, hf⟩ := bnd hf
  refine v_iast X (ws' := (wX12 ad c9 o1.1 o1.2.1 m_thrown m_inputLength m_position m_start m_token m_value m_letters m_code m_place m_outputLength g5 m_parsed m_tried o1.2.2 m_slots m_kept m_away m_input m_halfway m_output)) dX12_setOf_28 1 0 rfl rfl hg5 rfl 29 rfl ?_
  refine v_iload X dX12_setOf_29 0 rfl 31 rfl ?_
  obtain rfl := Option.some.inj hf
  exact v_iret X (Nat.zero_le _) (Nat.zero_le _) dX12_setOf_31
theorem pd_X12_setOf : yX12_setOf.cls ≠ "java/lang/invoke/MethodHandle" ∧ yX12_setOf.cls ≠ "java/lang/invoke/VarHandle" ∧ (parseMethodDescriptor yX12_setOf.desc).map (fun d => d.parameters.length) = some 3 := by decide +kernel
def f_X12_setPassword (m_undoable : Int32) (m_undoStart : Int32) (m_thrown : Int32) (m_s : Nat → Int32) (m_remembered : Nat → Int32) (v1 : Int32) (v2 : Int32) : Option (Int32 × Int32 × Int32 × Int32 × (Nat → Int32) × (Nat → Int32)) :=
  (f_X12_noUser m_thrown m_s v1).bind fun o1 =>
  if o1.1 = 0 then (
    (f_X12_out o1.2 v2 0 9999).bind fun o2 =>
    if o2.1 = 0 then (
      (f_X12_setOf m_undoable m_undoStart m_s m_remembered v1 2 v2).bind fun o3 =>
      some (o3.1, o3.2.1, o3.2.2.1, o2.2, o3.2.2.2.1, o3.2.2.2.2))
    else (
      some (0, m_undoable, m_undoStart, o2.2, m_s, m_remembered)))
  else (
    some (0, m_undoable, m_undoStart, o1.2, m_s, m_remembered))
set_option maxRecDepth 100000 in
set_option maxHeartbeats 4000000 in
theorem c_X12_setPassword (l : Launch) {G : (Nat → Prop) → State → Heap → Prop} (hG : vG G) (D : va_G) (c9 : Nat → ClassId) (ad : Nat → Nat) (m_undoable : Int32) (m_undoStart : Int32) (m_thrown : Int32) (m_inputLength : Int32) (m_position : Int32) (m_start : Int32) (m_token : Int32) (m_value : Int32) (m_letters : Int32) (m_code : Int32) (m_place : Int32) (m_outputLength : Int32) (m_s : Nat → Int32) (m_parsed : Nat → Int32) (m_tried : Nat → Int32) (m_remembered : Nat → Int32) (m_slots : Nat → Int32) (m_kept : Nat → Int32) (m_away : Nat → Int32) (m_input : Nat → Int32) (m_halfway : Nat → Int32) (m_output : Nat → Int32) (v1 : Int32) (v2 : Int32) {o : Int32 × Int32 × Int32 × Int32 × (Nat → Int32) × (Nat → Int32)} (hf : f_X12_setPassword m_undoable m_undoStart m_thrown m_s m_remembered v1 v2 = some o) : mI l yX12_setPassword (wq yX12_setPassword cX12_setPassword 3 (some .int)) { frames := 3, cells := 0, slots := 0, locals := 68 } G D (tyA c9) [.ref (ad 0), .int v1, .int v2] (wX12 ad c9 m_undoable m_undoStart m_thrown m_inputLength m_position m_start m_token m_value m_letters m_code m_place m_outputLength m_s m_parsed m_tried m_remembered m_slots m_kept m_away m_input m_halfway m_output) [] 0 0 o.1 (wX12 ad c9 o.2.1 o.2.2.1 o.2.2.2.1 m_inputLength m_position m_start m_token m_value m_letters m_code m_place m_outputLength o.2.2.2.2.1 m_parsed m_tried o.2.2.2.2.2 m_slots m_kept m_away m_input m_halfway m_output) := by
  refine mI_of hG (cc := cX12_setPassword) (maxL := 3) (ty := .int) (by decide) rfl (Nat.le_of_ble_eq_true rfl) ?_
  intro p e s m args below meth c A X
  have X : vX p s m args meth c cX12_setPassword 3 (some .int) RX12 (wq yX12_setPassword cX12_setPassword 3 (some .int)) D (tyA c9) G A := X
  refine v_eq (lv2 := [(0, .ref (ad 0)), (1, .int v1), (2, .int v2)]) rfl rfl rfl rfl ?_
  rw [f_X12_setPassword] at hf
  refine v_aload_n X dX12_setPassword_0 0 rfl rfl 1 rfl ?_
  refine v_iload_n X dX12_setPassword_1 1 rfl rfl 2 rfl ?_
  obtain ⟨o1, ho1, hf⟩ := bnd hf
  refine v_callVi X (ci := 11) (T := TX12) (C := RX12) (As := [.int v1]) (rest := []) (ws' := (wX12 ad c9 m_undoable m_undoStart o1.2 m_inputLength m_position m_start m_token m_value m_letters m_code m_place m_outputLength m_s m_parsed m_tried m_remembered m_slots m_kept m_away m_input m_halfway m_output)) (c_X12_noUser l hG D c9 ad m_undoable m_undoStart m_thrown m_inputLength m_position m_start m_token m_value m_letters m_code m_place m_outputLength m_s m_parsed m_tried m_remembered m_slots m_kept m_away m_input m_halfway m_output v1 ho1) 1 (gV wm_329 wm_330 wm_331 wm_37 wm_332) rfl rfl rfl ⟨rfl, pd_X12_noUser⟩ ⟨Nat.le_of_ble_eq_true rfl, Nat.le_of_ble_eq_true rfl⟩ 0 rfl rfl rfl rfl (Nat.le_of_ble_eq_true rfl) ⟨Nat.zero_le _, Nat.zero_le _⟩ [0, 1, 2, 3, 4, 5, 6, 7, 8, 9, 10] [] [0, 1, 2, 3, 4, 5, 6, 7, 8, 9, 10] rfl rfl rfl rfl dX12_setPassword_2 5 rfl ?_
  refine v_if_ne X (tgt := 20) dX12_setPassword_5 rfl 8 rfl hf (fun hf => ?_) (fun hf => ?_)
  · refine v_iconst X dX12_setPassword_20 ic_0 21 rfl ?_
    obtain rfl := Option.some.inj hf
    exact v_iret X (Nat.zero_le _) (Nat.zero_le _) dX12_setPassword_21
  · refine v_aload_n X dX12_setPassword_8 0 rfl rfl 9 rfl ?_
    refine v_iload_n X dX12_setPassword_9 2 rfl rfl 10 rfl ?_
    refine v_iconst X dX12_setPassword_10 ic_0 11 rfl ?_
    refine v_sipush X dX12_setPassword_11 sp_9999 14 rfl ?_
    obtain ⟨o2, ho2, hf⟩ := bnd hf
    refine v_callVi X (ci := 11) (T := TX12) (C := RX12) (As := [.int v2, .int 0, .int 9999]) (rest := []) (ws' := (wX12 ad c9 m_undoable m_undoStart o2.2 m_inputLength m_position m_start m_token m_value m_letters m_code m_place m_outputLength m_s m_parsed m_tried m_remembered m_slots m_kept m_away m_input m_halfway m_output)) (c_X12_out l hG D c9 ad m_undoable m_undoStart o1.2 m_inputLength m_position m_start m_token m_value m_letters m_code m_place m_outputLength m_s m_parsed m_tried m_remembered m_slots m_kept m_away m_input m_halfway m_output v2 0 9999 ho2) 3 (gV wm_345 wm_346 wm_347 wm_37 wm_348) rfl rfl rfl ⟨rfl, pd_X12_out⟩ ⟨Nat.le_of_ble_eq_true rfl, Nat.le_of_ble_eq_true rfl⟩ 0 rfl rfl rfl rfl (Nat.le_of_ble_eq_true rfl) ⟨Nat.zero_le _, Nat.zero_le _⟩ [0, 1, 2, 3, 4, 5, 6, 7, 8, 9, 10] [] [0, 1, 2, 3, 4, 5, 6, 7, 8, 9, 10] rfl rfl rfl rfl dX12_setPassword_14 17 rfl ?_
    refine v_if_eq X (tgt := 22) dX12_setPassword_17 rfl 20 rfl hf (fun hf => ?_) (fun hf => ?_)
    · refine v_aload_n X dX12_setPassword_22 0 rfl rfl 23 rfl ?_
      refine v_iload_n X dX12_setPassword_23 1 rfl rfl 24 rfl ?_
      refine v_iconst X dX12_setPassword_24 ic_2 25 rfl ?_
      refine v_iload_n X dX12_setPassword_25 2 rfl rfl 26 rfl ?_
      obtain ⟨o3, ho3, hf⟩ := bnd hf
      refine v_callVi X (ci := 11) (T := TX12) (C := RX12) (As := [.int v1, .int 2, .int v2]) (rest := []) (ws' := (wX12 ad c9 o3.2.1 o3.2.2.1 o2.2 m_inputLength m_position m_start m_token m_value m_letters m_code m_place m_outputLength o3.2.2.2.1 m_parsed m_tried o3.2.2.2.2 m_slots m_kept m_away m_input m_halfway m_output)) (c_X12_setOf l hG D c9 ad m_undoable m_undoStart o2.2 m_inputLength m_position m_start m_token m_value m_letters m_code m_place m_outputLength m_s m_parsed m_tried m_remembered m_slots m_kept m_away m_input m_halfway m_output v1 2 v2 ho3) 3 (gV wm_355 wm_356 wm_357 wm_37 wm_358) rfl rfl rfl ⟨rfl, pd_X12_setOf⟩ ⟨Nat.le_of_ble_eq_true rfl, Nat.le_of_ble_eq_true rfl⟩ 0 rfl rfl rfl rfl (Nat.le_of_ble_eq_true rfl) ⟨Nat.zero_le _, Nat.zero_le _⟩ [0, 1, 2, 3, 4, 5, 6, 7, 8, 9, 10] [] [0, 1, 2, 3, 4, 5, 6, 7, 8, 9, 10] rfl rfl rfl rfl dX12_setPassword_26 29 rfl ?_
      obtain rfl := Option.some.inj hf
      exact v_iret X (Nat.zero_le _) (Nat.zero_le _) dX12_setPassword_29
    · refine v_iconst X dX12_setPassword_20 ic_0 21 rfl ?_
      obtain rfl := Option.some.inj hf
      exact v_iret X (Nat.zero_le _) (Nat.zero_le _) dX12_setPassword_21
theorem pd_X12_setPassword : yX12_setPassword.cls ≠ "java/lang/invoke/MethodHandle" ∧ yX12_setPassword.cls ≠ "java/lang/invoke/VarHandle" ∧ (parseMethodDescriptor yX12_setPassword.desc).map (fun d => d.parameters.length) = some 2 := by decide +kernel
def f_X12_setClock (m_undoable : Int32) (m_undoStart : Int32) (m_thrown : Int32) (m_s : Nat → Int32) (m_remembered : Nat → Int32) (v1 : Int32) (v2 : Int32) : Option (Int32 × Int32 × Int32 × Int32 × (Nat → Int32) × (Nat → Int32)) :=
  (f_X12_noUser m_thrown m_s v1).bind fun o1 =>
  if o1.1 = 0 then (
    (f_X12_out o1.2 v2 (-9) 9).bind fun o2 =>
    if o2.1 = 0 then (
      (f_X12_setOf m_undoable m_undoStart m_s m_remembered v1 3 v2).bind fun o3 =>
      some (o3.1, o3.2.1, o3.2.2.1, o2.2, o3.2.2.2.1, o3.2.2.2.2))
    else (
      some (0, m_undoable, m_undoStart, o2.2, m_s, m_remembered)))
  else (
    some (0, m_undoable, m_undoStart, o1.2, m_s, m_remembered))
set_option maxRecDepth 100000 in
set_option maxHeartbeats 4000000 in
theorem c_X12_setClock (l : Launch) {G : (Nat → Prop) → State → Heap → Prop} (hG : vG G) (D : va_G) (c9 : Nat → ClassId) (ad : Nat → Nat) (m_undoable : Int32) (m_undoStart : Int32) (m_thrown : Int32) (m_inputLength : Int32) (m_position : Int32) (m_start : Int32) (m_token : Int32) (m_value : Int32) (m_letters : Int32) (m_code : Int32) (m_place : Int32) (m_outputLength : Int32) (m_s : Nat → Int32) (m_parsed : Nat → Int32) (m_tried : Nat → Int32) (m_remembered : Nat → Int32) (m_slots : Nat → Int32) (m_kept : Nat → Int32) (m_away : Nat → Int32) (m_input : Nat → Int32) (m_halfway : Nat → Int32) (m_output : Nat → Int32) (v1 : Int32) (v2 : Int32) {o : Int32 × Int32 × Int32 × Int32 × (Nat → Int32) × (Nat → Int32)} (hf : f_X12_setClock m_undoable m_undoStart m_thrown m_s m_remembered v1 v2 = some o) : mI l yX12_setClock (wq yX12_setClock cX12_setClock 3 (some .int)) { frames := 3, cells := 0, slots := 0, locals := 68 } G D (tyA c9) [.ref (ad 0), .int v1, .int v2] (wX12 ad c9 m_undoable m_undoStart m_thrown m_inputLength m_position m_start m_token m_value m_letters m_code m_place m_outputLength m_s m_parsed m_tried m_remembered m_slots m_kept m_away m_input m_halfway m_output) [] 0 0 o.1 (wX12 ad c9 o.2.1 o.2.2.1 o.2.2.2.1 m_inputLength m_position m_start m_token m_value m_letters m_code m_place m_outputLength o.2.2.2.2.1 m_parsed m_tried o.2.2.2.2.2 m_slots m_kept m_away m_input m_halfway m_output) := by
  refine mI_of hG (cc := cX12_setClock) (maxL := 3) (ty := .int) (by decide) rfl (Nat.le_of_ble_eq_true rfl) ?_
  intro p e s m args below meth c A X
  have X : vX p s m args meth c cX12_setClock 3 (some .int) RX12 (wq yX12_setClock cX12_setClock 3 (some .int)) D (tyA c9) G A := X
  refine v_eq (lv2 := [(0, .ref (ad 0)), (1, .int v1), (2, .int v2)]) rfl rfl rfl rfl ?_
  rw [f_X12_setClock] at hf
  refine v_aload_n X dX12_setClock_0 0 rfl rfl 1 rfl ?_
  refine v_iload_n X dX12_setClock_1 1 rfl rfl 2 rfl ?_
  obtain ⟨o1, ho1, hf⟩ := bnd hf
  refine v_callVi X (ci := 11) (T := TX12) (C := RX12) (As := [.int v1]) (rest := []) (ws' := (wX12 ad c9 m_undoable m_undoStart o1.2 m_inputLength m_position m_start m_token m_value m_letters m_code m_place m_outputLength m_s m_parsed m_tried m_remembered m_slots m_kept m_away m_input m_halfway m_output)) (c_X12_noUser l hG D c9 ad m_undoable m_undoStart m_thrown m_inputLength m_position m_start m_token m_value m_letters m_code m_place m_outputLength m_s m_parsed m_tried m_remembered m_slots m_kept m_away m_input m_halfway m_output v1 ho1) 1 (gV wm_329 wm_330 wm_331 wm_37 wm_332) rfl rfl rfl ⟨rfl, pd_X12_noUser⟩ ⟨Nat.le_of_ble_eq_true rfl, Nat.le_of_ble_eq_true rfl⟩ 0 rfl rfl rfl rfl (Nat.le_of_ble_eq_true rfl) ⟨Nat.zero_le _, Nat.zero_le _⟩ [0, 1, 2, 3, 4, 5, 6, 7, 8, 9, 10] [] [0, 1, 2, 3, 4, 5, 6, 7, 8, 9, 10] rfl rfl rfl rfl dX12_setClock_2 5 rfl ?_
  refine v_if_ne X (tgt := 20) dX12_setClock_5 rfl 8 rfl hf (fun hf => ?_) (fun hf => ?_)
  · refine v_iconst X dX12_setClock_20 ic_0 21 rfl ?_
    obtain rfl := Option.some.inj hf
    exact v_iret X (Nat.zero_le _) (Nat.zero_le _) dX12_setClock_21
  · refine v_aload_n X dX12_setClock_8 0 rfl rfl 9 rfl ?_
    refine v_iload_n X dX12_setClock_9 2 rfl rfl 10 rfl ?_
    refine v_bipush X dX12_setClock_10 bp_m9 12 rfl ?_
    refine v_bipush X dX12_setClock_12 bp_9 14 rfl ?_
    obtain ⟨o2, ho2, hf⟩ := bnd hf
    refine v_callVi X (ci := 11) (T := TX12) (C := RX12) (As := [.int v2, .int (-9), .int 9]) (rest := []) (ws' := (wX12 ad c9 m_undoable m_undoStart o2.2 m_inputLength m_position m_start m_token m_value m_letters m_code m_place m_outputLength m_s m_parsed m_tried m_remembered m_slots m_kept m_away m_input m_halfway m_output)) (c_X12_out l hG D c9 ad m_undoable m_undoStart o1.2 m_inputLength m_position m_start m_token m_value m_letters m_code m_place m_outputLength m_s m_parsed m_tried m_remembered m_slots m_kept m_away m_input m_halfway m_output v2 (-9) 9 ho2) 3 (gV wm_345 wm_346 wm_347 wm_37 wm_348) rfl rfl rfl ⟨rfl, pd_X12_out⟩ ⟨Nat.le_of_ble_eq_true rfl, Nat.le_of_ble_eq_true rfl⟩ 0 rfl rfl rfl rfl (Nat.le_of_ble_eq_true rfl) ⟨Nat.zero_le _, Nat.zero_le _⟩ [0, 1, 2, 3, 4, 5, 6, 7, 8, 9, 10] [] [0, 1, 2, 3, 4, 5, 6, 7, 8, 9, 10] rfl rfl rfl rfl dX12_setClock_14 17 rfl ?_
    refine v_if_eq X (tgt := 22) dX12_setClock_17 rfl 20 rfl hf (fun hf => ?_) (fun hf => ?_)
    · refine v_aload_n X dX12_setClock_22 0 rfl rfl 23 rfl ?_
      refine v_iload_n X dX12_setClock_23 1 rfl rfl 24 rfl ?_
      refine v_iconst X dX12_setClock_24 ic_3 25 rfl ?_
      refine v_iload_n X dX12_setClock_25 2 rfl rfl 26 rfl ?_
      obtain ⟨o3, ho3, hf⟩ := bnd hf
      refine v_callVi X (ci := 11) (T := TX12) (C := RX12) (As := [.int v1, .int 3, .int v2]) (rest := []) (ws' := (wX12 ad c9 o3.2.1 o3.2.2.1 o2.2 m_inputLength m_position m_start m_token m_value m_letters m_code m_place m_outputLength o3.2.2.2.1 m_parsed m_tried o3.2.2.2.2 m_slots m_kept m_away m_input m_halfway m_output)) (c_X12_setOf l hG D c9 ad m_undoable m_undoStart o2.2 m_inputLength m_position m_start m_token m_value m_letters m_code m_place m_outputLength m_s m_parsed m_tried m_remembered m_slots m_kept m_away m_input m_halfway m_output v1 3 v2 ho3) 3 (gV wm_355 wm_356 wm_357 wm_37 wm_358) rfl rfl rfl ⟨rfl, pd_X12_setOf⟩ ⟨Nat.le_of_ble_eq_true rfl, Nat.le_of_ble_eq_true rfl⟩ 0 rfl rfl rfl rfl (Nat.le_of_ble_eq_true rfl) ⟨Nat.zero_le _, Nat.zero_le _⟩ [0, 1, 2, 3, 4, 5, 6, 7, 8, 9, 10] [] [0, 1, 2, 3, 4, 5, 6, 7, 8, 9, 10] rfl rfl rfl rfl dX12_setClock_26 29 rfl ?_
      obtain rfl := Option.some.inj hf
      exact v_iret X (Nat.zero_le _) (Nat.zero_le _) dX12_setClock_29
    · refine v_iconst X dX12_setClock_20 ic_0 21 rfl ?_
      obtain rfl := Option.some.inj hf
      exact v_iret X (Nat.zero_le _) (Nat.zero_le _) dX12_setClock_21
theorem pd_X12_setClock : yX12_setClock.cls ≠ "java/lang/invoke/MethodHandle" ∧ yX12_setClock.cls ≠ "java/lang/invoke/VarHandle" ∧ (parseMethodDescriptor yX12_setClock.desc).map (fun d => d.parameters.length) = some 2 := by decide +kernel
def f_X12_pass (m_undoable : Int32) (m_undoStart : Int32) (m_thrown : Int32) (m_s : Nat → Int32) (m_remembered : Nat → Int32) (v1 : Int32) : Option (Int32 × Int32 × Int32 × Int32 × (Nat → Int32) × (Nat → Int32)) :=
  (f_X12_noNumber m_thrown v1 1 999).bind fun o1 =>
  if o1.1 = 0 then (
    (f_X12_remember m_undoable m_undoStart m_s m_remembered).bind fun o2 =>
    (f_X12_passes m_s v1).bind fun o3 =>
    some (o3.1, o2.1, o2.2.1, o1.2, o3.2, o2.2.2))
  else (
    some (0, m_undoable, m_undoStart, o1.2, m_s, m_remembered))
set_option maxRecDepth 100000 in
set_option maxHeartbeats 4000000 in
theorem c_X12_pass (l : Launch) {G : (Nat → Prop) → State → Heap → Prop} (hG : vG G) (D : va_G) (c9 : Nat → ClassId) (ad : Nat → Nat) (m_undoable : Int32) (m_undoStart : Int32) (m_thrown : Int32) (m_inputLength : Int32) (m_position : Int32) (m_start : Int32) (m_token : Int32) (m_value : Int32) (m_letters : Int32) (m_code : Int32) (m_place : Int32) (m_outputLength : Int32) (m_s : Nat → Int32) (m_parsed : Nat → Int32) (m_tried : Nat → Int32) (m_remembered : Nat → Int32) (m_slots : Nat → Int32) (m_kept : Nat → Int32) (m_away : Nat → Int32) (m_input : Nat → Int32) (m_halfway : Nat → Int32) (m_output : Nat → Int32) (v1 : Int32) {o : Int32 × Int32 × Int32 × Int32 × (Nat → Int32) × (Nat → Int32)} (hf : f_X12_pass m_undoable m_undoStart m_thrown m_s m_remembered v1 = some o) : mI l yX12_pass (wq yX12_pass cX12_pass 2 (some .int)) { frames := 4, cells := 0, slots := 0, locals := 85 } G D (tyA c9) [.ref (ad 0), .int v1] (wX12 ad c9 m_undoable m_undoStart m_thrown m_inputLength m_position m_start m_token m_value m_letters m_code m_place m_outputLength m_s m_parsed m_tried m_remembered m_slots m_kept m_away m_input m_halfway m_output) [] 0 0 o.1 (wX12 ad c9 o.2.1 o.2.2.1 o.2.2.2.1 m_inputLength m_position m_start m_token m_value m_letters m_code m_place m_outputLength o.2.2.2.2.1 m_parsed m_tried o.2.2.2.2.2 m_slots m_kept m_away m_input m_halfway m_output) := by
  refine mI_of hG (cc := cX12_pass) (maxL := 2) (ty := .int) (by decide) rfl (Nat.le_of_ble_eq_true rfl) ?_
  intro p e s m args below meth c A X
  have X : vX p s m args meth c cX12_pass 2 (some .int) RX12 (wq yX12_pass cX12_pass 2 (some .int)) D (tyA c9) G A := X
  refine v_eq (lv2 := [(0, .ref (ad 0)), (1, .int v1)]) rfl rfl rfl rfl ?_
  rw [f_X12_pass] at hf
  refine v_aload_n X dX12_pass_0 0 rfl rfl 1 rfl ?_
  refine v_iload_n X dX12_pass_1 1 rfl rfl 2 rfl ?_
  refine v_iconst X dX12_pass_2 ic_1 3 rfl ?_
  refine v_sipush X dX12_pass_3 sp_999 6 rfl ?_
  obtain ⟨o1, ho1, hf⟩ := bnd hf
  refine v_callVi X (ci := 11) (T := TX12) (C := RX12) (As := [.int v1, .int 1, .int 999]) (rest := []) (ws' := (wX12 ad c9 m_undoable m_undoStart o1.2 m_inputLength m_position m_start m_token m_value m_letters m_code m_place m_outputLength m_s m_parsed m_tried m_remembered m_slots m_kept m_away m_input m_halfway m_output)) (c_X12_noNumber l hG D c9 ad m_undoable m_undoStart m_thrown m_inputLength m_position m_start m_token m_value m_letters m_code m_place m_outputLength m_s m_parsed m_tried m_remembered m_slots m_kept m_away m_input m_halfway m_output v1 1 999 ho1) 3 (gV wm_114 wm_115 wm_116 wm_37 wm_117) rfl rfl rfl ⟨rfl, pd_X12_noNumber⟩ ⟨Nat.le_of_ble_eq_true rfl, Nat.le_of_ble_eq_true rfl⟩ 0 rfl rfl rfl rfl (Nat.le_of_ble_eq_true rfl) ⟨Nat.zero_le _, Nat.zero_le _⟩ [0, 1, 2, 3, 4, 5, 6, 7, 8, 9, 10] [] [0, 1, 2, 3, 4, 5, 6, 7, 8, 9, 10] rfl rfl rfl rfl dX12_pass_6 9 rfl ?_
  refine v_if_eq X (tgt := 14) dX12_pass_9 rfl 12 rfl hf (fun hf => ?_) (fun hf => ?_)
  · refine v_aload_n X dX12_pass_14 0 rfl rfl 15 rfl ?_
    obtain ⟨o2, ho2, hf⟩ := bnd hf
    refine v_callVv X (ci := 11) (T := TX12) (C := RX12) (As := []) (rest := []) (ws' := (wX12 ad c9 o2.1 o2.2.1 o1.2 m_inputLength m_position m_start m_token m_value m_letters m_code m_place m_outputLength m_s m_parsed m_tried o2.2.2 m_slots m_kept m_away m_input m_halfway m_output)) (c_X12_remember l hG D c9 ad m_undoable m_undoStart o1.2 m_inputLength m_position m_start m_token m_value m_letters m_code m_place m_outputLength m_s m_parsed m_tried m_remembered m_slots m_kept m_away m_input m_halfway m_output ho2) 0 (gV wm_313 wm_314 wm_315 wm_37 wm_316) rfl rfl rfl ⟨rfl, pd_X12_remember⟩ ⟨Nat.le_of_ble_eq_true rfl, Nat.le_of_ble_eq_true rfl⟩ 0 rfl rfl rfl rfl (Nat.le_of_ble_eq_true rfl) ⟨Nat.zero_le _, Nat.zero_le _⟩ [0, 1, 2, 3, 4, 5, 6, 7, 8, 9, 10] [] [0, 1, 2, 3, 4, 5, 6, 7, 8, 9, 10] rfl rfl rfl rfl dX12_pass_15 18 rfl ?_
    refine v_aload_n X dX12_pass_18 0 rfl rfl 19 rfl ?_
    refine v_get X (C := RX12) (T := TX12) (N := 22) (ci := 11) (v := _) dX12_pass_19 (lay_of laym_X12) 0 rfl rfl 0 (by decide) (mw wm_304) rfl rfl 22 rfl ?_
    refine v_iload_n X dX12_pass_22 1 rfl rfl 23 rfl ?_
    obtain ⟨o3, ho3, hf⟩ := bnd hf
    refine v_callSi X (As := [.ref (ad 1), .int v1]) (rest := []) (ws' := (wX12 ad c9 o2.1 o2.2.1 o1.2 m_inputLength m_position m_start m_token m_value m_letters m_code m_place m_outputLength o3.2 m_parsed m_tried o2.2.2 m_slots m_kept m_away m_input m_halfway m_output)) (c_X12_passes l hG D c9 (ad 1) m_s v1 ho3) 2 (gS wm_247 wm_248 wm_37 wm_249) rfl rfl rfl pd_X12_passes ⟨Nat.le_of_ble_eq_true rfl, Nat.le_of_ble_eq_true rfl⟩ rfl rfl (Nat.le_of_ble_eq_true rfl) ⟨Nat.zero_le _, Nat.zero_le _⟩ [1] [0, 2, 3, 4, 5, 6, 7, 8, 9, 10] [0, 10, 1, 2, 3, 4, 5, 6, 7, 8, 9] rfl rfl rfl rfl dX12_pass_23 26 rfl ?_
    obtain rfl := Option.some.inj hf
    exact v_iret X (Nat.zero_le _) (Nat.zero_le _) dX12_pass_26
  · refine v_iconst X dX12_pass_12 ic_0 13 rfl ?_
    obtain rfl := Option.some.inj hf
    exact v_iret X (Nat.zero_le _) (Nat.zero_le _) dX12_pass_13
theorem pd_X12_pass : yX12_pass.cls ≠ "java/lang/invoke/MethodHandle" ∧ yX12_pass.cls ≠ "java/lang/invoke/VarHandle" ∧ (parseMethodDescriptor yX12_pass.desc).map (fun d => d.parameters.length) = some 1 := by decide +kernel
