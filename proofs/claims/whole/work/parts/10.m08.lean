def f_X12_cheesesOf (m_thrown : Int32) (m_s : Nat → Int32) (v1 : Int32) : Option (Int32 × Int32) :=
  (f_X12_noUser m_thrown m_s v1).bind fun o1 =>
  if o1.1 = 0 then (
    (f_X12_ofUser v1).bind fun o2 =>
    (rd m_s 463 (o2 + 4)).bind fun x3 =>
    some (x3, o1.2))
  else (
    some (0, o1.2))
set_option maxRecDepth 100000 in
set_option maxHeartbeats 4000000 in
theorem c_X12_cheesesOf (l : Launch) {G : (Nat → Prop) → State → Heap → Prop} (hG : vG G) (D : va_G) (c9 : Nat → ClassId) (ad : Nat → Nat) (m_undoable : Int32) (m_undoStart : Int32) (m_thrown : Int32) (m_inputLength : Int32) (m_position : Int32) (m_start : Int32) (m_token : Int32) (m_value : Int32) (m_letters : Int32) (m_code : Int32) (m_place : Int32) (m_outputLength : Int32) (m_s : Nat → Int32) (m_parsed : Nat → Int32) (m_tried : Nat → Int32) (m_remembered : Nat → Int32) (m_slots : Nat → Int32) (m_kept : Nat → Int32) (m_away : Nat → Int32) (m_input : Nat → Int32) (m_halfway : Nat → Int32) (m_output : Nat → Int32) (v1 : Int32) {o : Int32 × Int32} (hf : f_X12_cheesesOf m_thrown m_s v1 = some o) : mI l yX12_cheesesOf (wq yX12_cheesesOf cX12_cheesesOf 2 (some .int)) { frames := 3, cells := 0, slots := 0, locals := 66 } G D (tyA c9) [.ref (ad 0), .int v1] (wX12 ad c9 m_undoable m_undoStart m_thrown m_inputLength m_position m_start m_token m_value m_letters m_code m_place m_outputLength m_s m_parsed m_tried m_remembered m_slots m_kept m_away m_input m_halfway m_output) [] 0 0 o.1 (wX12 ad c9 m_undoable m_undoStart o.2 m_inputLength m_position m_start m_token m_value m_letters m_code m_place m_outputLength m_s m_parsed m_tried m_remembered m_slots m_kept m_away m_input m_halfway m_output) := by
  refine mI_of hG (cc := cX12_cheesesOf) (maxL := 2) (ty := .int) (by decide) rfl (Nat.le_of_ble_eq_true rfl) ?_
  intro p e s m args below meth c A X
  have X : vX p s m args meth c cX12_cheesesOf 2 (some .int) RX12 (wq yX12_cheesesOf cX12_cheesesOf 2 (some .int)) D (tyA c9) G A := X
  refine v_eq (lv2 := [(0, .ref (ad 0)), (1, .int v1)]) rfl rfl rfl rfl ?_
  rw [f_X12_cheesesOf] at hf
  refine v_aload_n X dX12_cheesesOf_0 0 rfl rfl 1 rfl ?_
  refine v_iload_n X dX12_cheesesOf_1 1 rfl rfl 2 rfl ?_
  obtain ⟨o1, ho1, hf⟩ := bnd hf
  refine v_callVi X (ci := 11) (T := TX12) (C := RX12) (As := [.int v1]) (rest := []) (ws' := (wX12 ad c9 m_undoable m_undoStart o1.2 m_inputLength m_position m_start m_token m_value m_letters m_code m_place m_outputLength m_s m_parsed m_tried m_remembered m_slots m_kept m_away m_input m_halfway m_output)) (c_X12_noUser l hG D c9 ad m_undoable m_undoStart m_thrown m_inputLength m_position m_start m_token m_value m_letters m_code m_place m_outputLength m_s m_parsed m_tried m_remembered m_slots m_kept m_away m_input m_halfway m_output v1 ho1) 1 (gV wm_329 wm_330 wm_331 wm_37 wm_332) rfl rfl rfl ⟨rfl, pd_X12_noUser⟩ ⟨Nat.le_of_ble_eq_true rfl, Nat.le_of_ble_eq_true rfl⟩ 0 rfl rfl rfl rfl (Nat.le_of_ble_eq_true rfl) ⟨Nat.zero_le _, Nat.zero_le _⟩ [0, 1, 2, 3, 4, 5, 6, 7, 8, 9, 10] [] [0, 1, 2, 3, 4, 5, 6, 7, 8, 9, 10] rfl rfl rfl rfl dX12_cheesesOf_2 5 rfl ?_
  refine v_if_eq X (tgt := 10) dX12_cheesesOf_5 rfl 8 rfl hf (fun hf => ?_) (fun hf => ?_)
  · refine v_aload_n X dX12_cheesesOf_10 0 rfl rfl 11 rfl ?_
    refine v_get X (C := RX12) (T := TX12) (N := 22) (ci := 11) (v := _) dX12_cheesesOf_11 (lay_of laym_X12) 0 rfl rfl 0 (by decide) (mw wm_304) rfl rfl 14 rfl ?_
    refine v_iload_n X dX12_cheesesOf_14 1 rfl rfl 15 rfl ?_
    obtain ⟨o2, ho2, hf⟩ := bnd hf
    refine v_callSi X (As := [.int v1]) (rest := [.ref (ad 1)]) (ws' := (wX12 ad c9 m_undoable m_undoStart o1.2 m_inputLength m_position m_start m_token m_value m_letters m_code m_place m_outputLength m_s m_parsed m_tried m_remembered m_slots m_kept m_away m_input m_halfway m_output)) (c_X12_ofUser l hG D c9 v1 ho2) 1 (gS wm_46 wm_47 wm_37 wm_48) rfl rfl rfl pd_X12_ofUser ⟨Nat.le_of_ble_eq_true rfl, Nat.le_of_ble_eq_true rfl⟩ rfl rfl (Nat.le_of_ble_eq_true rfl) ⟨Nat.zero_le _, Nat.zero_le _⟩ [] [0, 1, 2, 3, 4, 5, 6, 7, 8, 9, 10] [0, 1, 2, 3, 4, 5, 6, 7, 8, 9, 10] rfl rfl rfl rfl dX12_cheesesOf_15 18 rfl ?_
    refine v_iconst X dX12_cheesesOf_18 ic_4 19 rfl ?_
    refine v_iadd X dX12_cheesesOf_19 20 rfl ?_
    obtain ⟨x3, hx3, hf⟩ := bnd hf
    refine v_iald X dX12_cheesesOf_20 1 0 rfl rfl hx3 21 rfl ?_
    obtain rfl := Option.some.inj hf
    exact v_iret X (Nat.zero_le _) (Nat.zero_le _) dX12_cheesesOf_21
  · refine v_iconst X dX12_cheesesOf_8 ic_0 9 rfl ?_
    obtain rfl := Option.some.inj hf
    exact v_iret X (Nat.zero_le _) (Nat.zero_le _) dX12_cheesesOf_9
theorem pd_X12_cheesesOf : yX12_cheesesOf.cls ≠ "java/lang/invoke/MethodHandle" ∧ yX12_cheesesOf.cls ≠ "java/lang/invoke/VarHandle" ∧ (parseMethodDescriptor yX12_cheesesOf.desc).map (fun d => d.parameters.length) = some 1 := by decide +kernel
def f_X12_skew (m_thrown : Int32) (m_s : Nat → Int32) (v1 : Int32) (v2 : Int32) : Option (Int32 × Int32) :=
  (f_X12_noUser m_thrown m_s v1).bind fun o1 =>
  if o1.1 = 0 then (
    (f_X12_noRealm o1.2 m_s v2).bind fun o2 =>
    if o2.1 = 0 then (
      (f_X12_skewOf m_s v1 v2).bind fun o3 =>
      some (o3, o2.2))
    else (
      some (0, o2.2)))
  else (
    some (0, o1.2))
set_option maxRecDepth 100000 in
set_option maxHeartbeats 4000000 in
theorem c_X12_skew (l : Launch) {G : (Nat → Prop) → State → Heap → Prop} (hG : vG G) (D : va_G) (c9 : Nat → ClassId) (ad : Nat → Nat) (m_undoable : Int32) (m_undoStart : Int32) (m_thrown : Int32) (m_inputLength : Int32) (m_position : Int32) (m_start : Int32) (m_token : Int32) (m_value : Int32) (m_letters : Int32) (m_code : Int32) (m_place : Int32) (m_outputLength : Int32) (m_s : Nat → Int32) (m_parsed : Nat → Int32) (m_tried : Nat → Int32) (m_remembered : Nat → Int32) (m_slots : Nat → Int32) (m_kept : Nat → Int32) (m_away : Nat → Int32) (m_input : Nat → Int32) (m_halfway : Nat → Int32) (m_output : Nat → Int32) (v1 : Int32) (v2 : Int32) {o : Int32 × Int32} (hf : f_X12_skew m_thrown m_s v1 v2 = some o) : mI l yX12_skew (wq yX12_skew cX12_skew 3 (some .int)) { frames := 3, cells := 0, slots := 0, locals := 66 } G D (tyA c9) [.ref (ad 0), .int v1, .int v2] (wX12 ad c9 m_undoable m_undoStart m_thrown m_inputLength m_position m_start m_token m_value m_letters m_code m_place m_outputLength m_s m_parsed m_tried m_remembered m_slots m_kept m_away m_input m_halfway m_output) [] 0 0 o.1 (wX12 ad c9 m_undoable m_undoStart o.2 m_inputLength m_position m_start m_token m_value m_letters m_code m_place m_outputLength m_s m_parsed m_tried m_remembered m_slots m_kept m_away m_input m_halfway m_output) := by
  refine mI_of hG (cc := cX12_skew) (maxL := 3) (ty := .int) (by decide) rfl (Nat.le_of_ble_eq_true rfl) ?_
  intro p e s m args below meth c A X
  have X : vX p s m args meth c cX12_skew 3 (some .int) RX12 (wq yX12_skew cX12_skew 3 (some .int)) D (tyA c9) G A := X
  refine v_eq (lv2 := [(0, .ref (ad 0)), (1, .int v1), (2, .int v2)]) rfl rfl rfl rfl ?_
  rw [f_X12_skew] at hf
  refine v_aload_n X dX12_skew_0 0 rfl rfl 1 rfl ?_
  refine v_iload_n X dX12_skew_1 1 rfl rfl 2 rfl ?_
  obtain ⟨o1, ho1, hf⟩ := bnd hf
  refine v_callVi X (ci := 11) (T := TX12) (C := RX12) (As := [.int v1]) (rest := []) (ws' := (wX12 ad c9 m_undoable m_undoStart o1.2 m_inputLength m_position m_start m_token m_value m_letters m_code m_place m_outputLength m_s m_parsed m_tried m_remembered m_slots m_kept m_away m_input m_halfway m_output)) (c_X12_noUser l hG D c9 ad m_undoable m_undoStart m_thrown m_inputLength m_position m_start m_token m_value m_letters m_code m_place m_outputLength m_s m_parsed m_tried m_remembered m_slots m_kept m_away m_input m_halfway m_output v1 ho1) 1 (gV wm_329 wm_330 wm_331 wm_37 wm_332) rfl rfl rfl ⟨rfl, pd_X12_noUser⟩ ⟨Nat.le_of_ble_eq_true rfl, Nat.le_of_ble_eq_true rfl⟩ 0 rfl rfl rfl rfl (Nat.le_of_ble_eq_true rfl) ⟨Nat.zero_le _, Nat.zero_le _⟩ [0, 1, 2, 3, 4, 5, 6, 7, 8, 9, 10] [] [0, 1, 2, 3, 4, 5, 6, 7, 8, 9, 10] rfl rfl rfl rfl dX12_skew_2 5 rfl ?_
  refine v_if_ne X (tgt := 16) dX12_skew_5 rfl 8 rfl hf (fun hf => ?_) (fun hf => ?_)
  · refine v_iconst X dX12_skew_16 ic_0 17 rfl ?_
    obtain rfl := Option.some.inj hf
    exact v_iret X (Nat.zero_le _) (Nat.zero_le _) dX12_skew_17
  · refine v_aload_n X dX12_skew_8 0 rfl rfl 9 rfl ?_
    refine v_iload_n X dX12_skew_9 2 rfl rfl 10 rfl ?_
    obtain ⟨o2, ho2, hf⟩ := bnd hf
    refine v_callVi X (ci := 11) (T := TX12) (C := RX12) (As := [.int v2]) (rest := []) (ws' := (wX12 ad c9 m_undoable m_undoStart o2.2 m_inputLength m_position m_start m_token m_value m_letters m_code m_place m_outputLength m_s m_parsed m_tried m_remembered m_slots m_kept m_away m_input m_halfway m_output)) (c_X12_noRealm l hG D c9 ad m_undoable m_undoStart o1.2 m_inputLength m_position m_start m_token m_value m_letters m_code m_place m_outputLength m_s m_parsed m_tried m_remembered m_slots m_kept m_away m_input m_halfway m_output v2 ho2) 1 (gV wm_317 wm_318 wm_319 wm_37 wm_320) rfl rfl rfl ⟨rfl, pd_X12_noRealm⟩ ⟨Nat.le_of_ble_eq_true rfl, Nat.le_of_ble_eq_true rfl⟩ 0 rfl rfl rfl rfl (Nat.le_of_ble_eq_true rfl) ⟨Nat.zero_le _, Nat.zero_le _⟩ [0, 1, 2, 3, 4, 5, 6, 7, 8, 9, 10] [] [0, 1, 2, 3, 4, 5, 6, 7, 8, 9, 10] rfl rfl rfl rfl dX12_skew_10 13 rfl ?_
    refine v_if_eq X (tgt := 18) dX12_skew_13 rfl 16 rfl hf (fun hf => ?_) (fun hf => ?_)
    · refine v_aload_n X dX12_skew_18 0 rfl rfl 19 rfl ?_
      refine v_get X (C := RX12) (T := TX12) (N := 22) (ci := 11) (v := _) dX12_skew_19 (lay_of laym_X12) 0 rfl rfl 0 (by decide) (mw wm_304) rfl rfl 22 rfl ?_
      refine v_iload_n X dX12_skew_22 1 rfl rfl 23 rfl ?_
      refine v_iload_n X dX12_skew_23 2 rfl rfl 24 rfl ?_
      obtain ⟨o3, ho3, hf⟩ := bnd hf
      refine v_callSi X (As := [.ref (ad 1), .int v1, .int v2]) (rest := []) (ws' := (wX12 ad c9 m_undoable m_undoStart o2.2 m_inputLength m_position m_start m_token m_value m_letters m_code m_place m_outputLength m_s m_parsed m_tried m_remembered m_slots m_kept m_away m_input m_halfway m_output)) (c_X12_skewOf l hG D c9 (ad 1) m_s v1 v2 ho3) 3 (gS wm_52 wm_53 wm_37 wm_54) rfl rfl rfl pd_X12_skewOf ⟨Nat.le_of_ble_eq_true rfl, Nat.le_of_ble_eq_true rfl⟩ rfl rfl (Nat.le_of_ble_eq_true rfl) ⟨Nat.zero_le _, Nat.zero_le _⟩ [1] [0, 2, 3, 4, 5, 6, 7, 8, 9, 10] [0, 10, 1, 2, 3, 4, 5, 6, 7, 8, 9] rfl rfl rfl rfl dX12_skew_24 27 rfl ?_
      obtain rfl := Option.some.inj hf
      exact v_iret X (Nat.zero_le _) (Nat.zero_le _) dX12_skew_27
    · refine v_iconst X dX12_skew_16 ic_0 17 rfl ?_
      obtain rfl := Option.some.inj hf
      exact v_iret X (Nat.zero_le _) (Nat.zero_le _) dX12_skew_17
theorem pd_X12_skew : yX12_skew.cls ≠ "java/lang/invoke/MethodHandle" ∧ yX12_skew.cls ≠ "java/lang/invoke/VarHandle" ∧ (parseMethodDescriptor yX12_skew.desc).map (fun d => d.parameters.length) = some 2 := by decide +kernel
def f_X12_realmOfService (m_thrown : Int32) (m_s : Nat → Int32) (v1 : Int32) : Option (Int32 × Int32) :=
  (f_X12_noService m_thrown m_s v1).bind fun o1 =>
  if o1.1 = 0 then (
    (f_X12_ofService v1).bind fun o2 =>
    (rd m_s 463 (o2 + 1)).bind fun x3 =>
    some (x3, o1.2))
  else (
    some (0, o1.2))
set_option maxRecDepth 100000 in
set_option maxHeartbeats 4000000 in
theorem c_X12_realmOfService (l : Launch) {G : (Nat → Prop) → State → Heap → Prop} (hG : vG G) (D : va_G) (c9 : Nat → ClassId) (ad : Nat → Nat) (m_undoable : Int32) (m_undoStart : Int32) (m_thrown : Int32) (m_inputLength : Int32) (m_position : Int32) (m_start : Int32) (m_token : Int32) (m_value : Int32) (m_letters : Int32) (m_code : Int32) (m_place : Int32) (m_outputLength : Int32) (m_s : Nat → Int32) (m_parsed : Nat → Int32) (m_tried : Nat → Int32) (m_remembered : Nat → Int32) (m_slots : Nat → Int32) (m_kept : Nat → Int32) (m_away : Nat → Int32) (m_input : Nat → Int32) (m_halfway : Nat → Int32) (m_output : Nat → Int32) (v1 : Int32) {o : Int32 × Int32} (hf : f_X12_realmOfService m_thrown m_s v1 = some o) : mI l yX12_realmOfService (wq yX12_realmOfService cX12_realmOfService 2 (some .int)) { frames := 3, cells := 0, slots := 0, locals := 66 } G D (tyA c9) [.ref (ad 0), .int v1] (wX12 ad c9 m_undoable m_undoStart m_thrown m_inputLength m_position m_start m_token m_value m_letters m_code m_place m_outputLength m_s m_parsed m_tried m_remembered m_slots m_kept m_away m_input m_halfway m_output) [] 0 0 o.1 (wX12 ad c9 m_undoable m_undoStart o.2 m_inputLength m_position m_start m_token m_value m_letters m_code m_place m_outputLength m_s m_parsed m_tried m_remembered m_slots m_kept m_away m_input m_halfway m_output) := by
  refine mI_of hG (cc := cX12_realmOfService) (maxL := 2) (ty := .int) (by decide) rfl (Nat.le_of_ble_eq_true rfl) ?_
  intro p e s m args below meth c A X
  have X : vX p s m args meth c cX12_realmOfService 2 (some .int) RX12 (wq yX12_realmOfService cX12_realmOfService 2 (some .int)) D (tyA c9) G A := X
  refine v_eq (lv2 := [(0, .ref (ad 0)), (1, .int v1)]) rfl rfl rfl rfl ?_
  rw [f_X12_realmOfService] at hf
  refine v_aload_n X dX12_realmOfService_0 0 rfl rfl 1 rfl ?_
  refine v_iload_n X dX12_realmOfService_1 1 rfl rfl 2 rfl ?_
  obtain ⟨o1, ho1, hf⟩ := bnd hf
  refine v_callVi X (ci := 11) (T := TX12) (C := RX12) (As := [.int v1]) (rest := []) (ws' := (wX12 ad c9 m_undoable m_undoStart o1.2 m_inputLength m_position m_start m_token m_value m_letters m_code m_place m_outputLength m_s m_parsed m_tried m_remembered m_slots m_kept m_away m_input m_halfway m_output)) (c_X12_noService l hG D c9 ad m_undoable m_undoStart m_thrown m_inputLength m_position m_start m_token m_value m_letters m_code m_place m_outputLength m_s m_parsed m_tried m_remembered m_slots m_kept m_away m_input m_halfway m_output v1 ho1) 1 (gV wm_333 wm_334 wm_335 wm_37 wm_336) rfl rfl rfl ⟨rfl, pd_X12_noService⟩ ⟨Nat.le_of_ble_eq_true rfl, Nat.le_of_ble_eq_true rfl⟩ 0 rfl rfl rfl rfl (Nat.le_of_ble_eq_true rfl) ⟨Nat.zero_le _, Nat.zero_le _⟩ [0, 1, 2, 3, 4, 5, 6, 7, 8, 9, 10] [] [0, 1, 2, 3, 4, 5, 6, 7, 8, 9, 10] rfl rfl rfl rfl dX12_realmOfService_2 5 rfl ?_
  refine v_if_eq X (tgt := 10) dX12_realmOfService_5 rfl 8 rfl hf (fun hf => ?_) (fun hf => ?_)
  · refine v_aload_n X dX12_realmOfService_10 0 rfl rfl 11 rfl ?_
    refine v_get X (C := RX12) (T := TX12) (N := 22) (ci := 11) (v := _) dX12_realmOfService_11 (lay_of laym_X12) 0 rfl rfl 0 (by decide) (mw wm_304) rfl rfl 14 rfl ?_
    refine v_iload_n X dX12_realmOfService_14 1 rfl rfl 15 rfl ?_
    obtain ⟨o2, ho2, hf⟩ := bnd hf
    refine v_callSi X (As := [.int v1]) (rest := [.ref (ad 1)]) (ws' := (wX12 ad c9 m_undoable m_undoStart o1.2 m_inputLength m_position m_start m_token m_value m_letters m_code m_place m_outputLength m_s m_parsed m_tried m_remembered m_slots m_kept m_away m_input m_halfway m_output)) (c_X12_ofService l hG D c9 v1 ho2) 1 (gS wm_76 wm_77 wm_37 wm_78) rfl rfl rfl pd_X12_ofService ⟨Nat.le_of_ble_eq_true rfl, Nat.le_of_ble_eq_true rfl⟩ rfl rfl (Nat.le_of_ble_eq_true rfl) ⟨Nat.zero_le _, Nat.zero_le _⟩ [] [0, 1, 2, 3, 4, 5, 6, 7, 8, 9, 10] [0, 1, 2, 3, 4, 5, 6, 7, 8, 9, 10] rfl rfl rfl rfl dX12_realmOfService_15 18 rfl ?_
    refine v_iconst X dX12_realmOfService_18 ic_1 19 rfl ?_
    refine v_iadd X dX12_realmOfService_19 20 rfl ?_
    obtain ⟨x3, hx3, hf⟩ := bnd hf
    refine v_iald X dX12_realmOfService_20 1 0 rfl rfl hx3 21 rfl ?_
    obtain rfl := Option.some.inj hf
    exact v_iret X (Nat.zero_le _) (Nat.zero_le _) dX12_realmOfService_21
  · refine v_iconst X dX12_realmOfService_8 ic_0 9 rfl ?_
    obtain rfl := Option.some.inj hf
    exact v_iret X (Nat.zero_le _) (Nat.zero_le _) dX12_realmOfService_9
theorem pd_X12_realmOfService : yX12_realmOfService.cls ≠ "java/lang/invoke/MethodHandle" ∧ yX12_realmOfService.cls ≠ "java/lang/invoke/VarHandle" ∧ (parseMethodDescriptor yX12_realmOfService.desc).map (fun d => d.parameters.length) = some 1 := by decide +kernel
def f_X12_cheesesLeft (m_thrown : Int32) (m_s : Nat → Int32) (v1 : Int32) : Option (Int32 × Int32) :=
  (f_X12_noService m_thrown m_s v1).bind fun o1 =>
  if o1.1 = 0 then (
    (f_X12_ofService v1).bind fun o2 =>
    (rd m_s 463 (o2 + 2)).bind fun x3 =>
    some (x3, o1.2))
  else (
    some (0, o1.2))
set_option maxRecDepth 100000 in
set_option maxHeartbeats 4000000 in
theorem c_X12_cheesesLeft (l : Launch) {G : (Nat → Prop) → State → Heap → Prop} (hG : vG G) (D : va_G) (c9 : Nat → ClassId) (ad : Nat → Nat) (m_undoable : Int32) (m_undoStart : Int32) (m_thrown : Int32) (m_inputLength : Int32) (m_position : Int32) (m_start : Int32) (m_token : Int32) (m_value : Int32) (m_letters : Int32) (m_code : Int32) (m_place : Int32) (m_outputLength : Int32) (m_s : Nat → Int32) (m_parsed : Nat → Int32) (m_tried : Nat → Int32) (m_remembered : Nat → Int32) (m_slots : Nat → Int32) (m_kept : Nat → Int32) (m_away : Nat → Int32) (m_input : Nat → Int32) (m_halfway : Nat → Int32) (m_output : Nat → Int32) (v1 : Int32) {o : Int32 × Int32} (hf : f_X12_cheesesLeft m_thrown m_s v1 = some o) : mI l yX12_cheesesLeft (wq yX12_cheesesLeft cX12_cheesesLeft 2 (some .int)) { frames := 3, cells := 0, slots := 0, locals := 66 } G D (tyA c9) [.ref (ad 0), .int v1] (wX12 ad c9 m_undoable m_undoStart m_thrown m_inputLength m_position m_start m_token m_value m_letters m_code m_place m_outputLength m_s m_parsed m_tried m_remembered m_slots m_kept m_away m_input m_halfway m_output) [] 0 0 o.1 (wX12 ad c9 m_undoable m_undoStart o.2 m_inputLength m_position m_start m_token m_value m_letters m_code m_place m_outputLength m_s m_parsed m_tried m_remembered m_slots m_kept m_away m_input m_halfway m_output) := by
  refine mI_of hG (cc := cX12_cheesesLeft) (maxL := 2) (ty := .int) (by decide) rfl (Nat.le_of_ble_eq_true rfl) ?_
  intro p e s m args below meth c A X
  have X : vX p s m args meth c cX12_cheesesLeft 2 (some .int) RX12 (wq yX12_cheesesLeft cX12_cheesesLeft 2 (some .int)) D (tyA c9) G A := X
  refine v_eq (lv2 := [(0, .ref (ad 0)), (1, .int v1)]) rfl rfl rfl rfl ?_
  rw [f_X12_cheesesLeft] at hf
  refine v_aload_n X dX12_cheesesLeft_0 0 rfl rfl 1 rfl ?_
  refine v_iload_n X dX12_cheesesLeft_1 1 rfl rfl 2 rfl ?_
  obtain ⟨o1, ho1, hf⟩ := bnd hf
  refine v_callVi X (ci := 11) (T := TX12) (C := RX12) (As := [.int v1]) (rest := []) (ws' := (wX12 ad c9 m_undoable m_undoStart o1.2 m_inputLength m_position m_start m_token m_value m_letters m_code m_place m_outputLength m_s m_parsed m_tried m_remembered m_slots m_kept m_away m_input m_halfway m_output)) (c_X12_noService l hG D c9 ad m_undoable m_undoStart m_thrown m_inputLength m_position m_start m_token m_value m_letters m_code m_place m_outputLength m_s m_parsed m_tried m_remembered m_slots m_kept m_away m_input m_halfway m_output v1 ho1) 1 (gV wm_333 wm_334 wm_335 wm_37 wm_336) rfl rfl rfl ⟨rfl, pd_X12_noService⟩ ⟨Nat.le_of_ble_eq_true rfl, Nat.le_of_ble_eq_true rfl⟩ 0 rfl rfl rfl rfl (Nat.le_of_ble_eq_true rfl) ⟨Nat.zero_le _, Nat.zero_le _⟩ [0, 1, 2, 3, 4, 5, 6, 7, 8, 9, 10] [] [0, 1, 2, 3, 4, 5, 6, 7, 8, 9, 10] rfl rfl rfl rfl dX12_cheesesLeft_2 5 rfl ?_
  refine v_if_eq X (tgt := 10) dX12_cheesesLeft_5 rfl 8 rfl hf (fun hf => ?_) (fun hf => ?_)
  · refine v_aload_n X dX12_cheesesLeft_10 0 rfl rfl 11 rfl ?_
    refine v_get X (C := RX12) (T := TX12) (N := 22) (ci := 11) (v := _) dX12_cheesesLeft_11 (lay_of laym_X12) 0 rfl rfl 0 (by decide) (mw wm_304) rfl rfl 14 rfl ?_
    refine v_iload_n X dX12_cheesesLeft_14 1 rfl rfl 15 rfl ?_
    obtain ⟨o2, ho2, hf⟩ := bnd hf
    refine v_callSi X (As := [.int v1]) (rest := [.ref (ad 1)]) (ws' := (wX12 ad c9 m_undoable m_undoStart o1.2 m_inputLength m_position m_start m_token m_value m_letters m_code m_place m_outputLength m_s m_parsed m_tried m_remembered m_slots m_kept m_away m_input m_halfway m_output)) (c_X12_ofService l hG D c9 v1 ho2) 1 (gS wm_76 wm_77 wm_37 wm_78) rfl rfl rfl pd_X12_ofService ⟨Nat.le_of_ble_eq_true rfl, Nat.le_of_ble_eq_true rfl⟩ rfl rfl (Nat.le_of_ble_eq_true rfl) ⟨Nat.zero_le _, Nat.zero_le _⟩ [] [0, 1, 2, 3, 4, 5, 6, 7, 8, 9, 10] [0, 1, 2, 3, 4, 5, 6, 7, 8, 9, 10] rfl rfl rfl rfl dX12_cheesesLeft_15 18 rfl ?_
    refine v_iconst X dX12_cheesesLeft_18 ic_2 19 rfl ?_
    refine v_iadd X dX12_cheesesLeft_19 20 rfl ?_
    obtain ⟨x3, hx3, hf⟩ := bnd hf
    refine v_iald X dX12_cheesesLeft_20 1 0 rfl rfl hx3 21 rfl ?_
    obtain rfl := Option.some.inj hf
    exact v_iret X (Nat.zero_le _) (Nat.zero_le _) dX12_cheesesLeft_21
  · refine v_iconst X dX12_cheesesLeft_8 ic_0 9 rfl ?_
    obtain rfl := Option.some.inj hf
    exact v_iret X (Nat.zero_le _) (Nat.zero_le _) dX12_cheesesLeft_9
theorem pd_X12_cheesesLeft : yX12_cheesesLeft.cls ≠ "java/lang/invoke/MethodHandle" ∧ yX12_cheesesLeft.cls ≠ "java/lang/invoke/VarHandle" ∧ (parseMethodDescriptor yX12_cheesesLeft.desc).map (fun d => d.parameters.length) = some 1 := by decide +kernel
def f_X12_ticketCount (m_thrown : Int32) (m_s : Nat → Int32) : Option (Int32 × Int32) :=
  (rd m_s 463 6).bind fun x1 =>
  some (x1, 0)
set_option maxRecDepth 100000 in
set_option maxHeartbeats 4000000 in
theorem c_X12_ticketCount (l : Launch) {G : (Nat → Prop) → State → Heap → Prop} (hG : vG G) (D : va_G) (c9 : Nat → ClassId) (ad : Nat → Nat) (m_undoable : Int32) (m_undoStart : Int32) (m_thrown : Int32) (m_inputLength : Int32) (m_position : Int32) (m_start : Int32) (m_token : Int32) (m_value : Int32) (m_letters : Int32) (m_code : Int32) (m_place : Int32) (m_outputLength : Int32) (m_s : Nat → Int32) (m_parsed : Nat → Int32) (m_tried : Nat → Int32) (m_remembered : Nat → Int32) (m_slots : Nat → Int32) (m_kept : Nat → Int32) (m_away : Nat → Int32) (m_input : Nat → Int32) (m_halfway : Nat → Int32) (m_output : Nat → Int32)  {o : Int32 × Int32} (hf : f_X12_ticketCount m_thrown m_s = some o) : mI l yX12_ticketCount (wq yX12_ticketCount cX12_ticketCount 1 (some .int)) { frames := 0, cells := 0, slots := 0, locals := 0 } G D (tyA c9) [.ref (ad 0)] (wX12 ad c9 m_undoable m_undoStart m_thrown m_inputLength m_position m_start m_token m_value m_letters m_code m_place m_outputLength m_s m_parsed m_tried m_remembered m_slots m_kept m_away m_input m_halfway m_output) [] 0 0 o.1 (wX12 ad c9 m_undoable m_undoStart o.2 m_inputLength m_position m_start m_token m_value m_letters m_code m_place m_outputLength m_s m_parsed m_tried m_remembered m_slots m_kept m_away m_input m_halfway m_output) := by
  refine mI_of hG (cc := cX12_ticketCount) (maxL := 1) (ty := .int) (by decide) rfl (Nat.le_of_ble_eq_true rfl) ?_
  intro p e s m args below meth c A X
  have X : vX p s m args meth c cX12_ticketCount 1 (some .int) RX12 (wq yX12_ticketCount cX12_ticketCount 1 (some .int)) D (tyA c9) G A := X
  refine v_eq (lv2 := [(0, .ref (ad 0))]) rfl rfl rfl rfl ?_
  rw [f_X12_ticketCount] at hf
  refine v_aload_n X dX12_ticketCount_0 0 rfl rfl 1 rfl ?_
  refine v_iconst X dX12_ticketCount_1 ic_0 2 rfl ?_
  refine v_put X (C := RX12) (T := TX12) (N := 22) (ci := 11) (ty := tyX12 8) (ws' := (wX12 ad c9 m_undoable m_undoStart 0 m_inputLength m_position m_start m_token m_value m_letters m_code m_place m_outputLength m_s m_parsed m_tried m_remembered m_slots m_kept m_away m_input m_halfway m_output)) dX12_ticketCount_2 (lay_of laym_X12) 0 rfl rfl 8 (by decide) tyX12 tyX12_ok nmX12 (mw wm_33) rfl rfl (tyX12_ok 8 (by decide)) rfl rfl (Nat.le_of_ble_eq_true rfl) rfl 5 rfl ?_
  refine v_aload_n X dX12_ticketCount_5 0 rfl rfl 6 rfl ?_
  refine v_get X (C := RX12) (T := TX12) (N := 22) (ci := 11) (v := _) dX12_ticketCount_6 (lay_of laym_X12) 0 rfl rfl 0 (by decide) (mw wm_304) rfl rfl 9 rfl ?_
  refine v_bipush X dX12_ticketCount_9 bp_6 11 rfl ?_
  obtain ⟨x1, hx1, hf⟩ := bnd hf
  refine v_iald X dX12_ticketCount_11 1 0 rfl rfl hx1 12 rfl ?_
  obtain rfl := Option.some.inj hf
  exact v_iret X (Nat.zero_le _) (Nat.zero_le _) dX12_ticketCount_12
theorem pd_X12_ticketCount : yX12_ticketCount.cls ≠ "java/lang/invoke/MethodHandle" ∧ yX12_ticketCount.cls ≠ "java/lang/invoke/VarHandle" ∧ (parseMethodDescriptor yX12_ticketCount.desc).map (fun d => d.parameters.length) = some 0 := by decide +kernel
def f_X12_ticketAt (m_thrown : Int32) (m_s : Nat → Int32) (v1 : Int32) : Option (Int32 × Int32) :=
  (rd m_s 463 6).bind fun x1 =>
  (f_X12_noNumber m_thrown v1 0 (x1 - 1)).bind fun o2 =>
  if o2.1 = 0 then (
    (f_X12_ofTicket v1).bind fun o3 =>
    (rd m_s 463 (o3 + 0)).bind fun x4 =>
    some (x4, o2.2))
  else (
    some (0, o2.2))
set_option maxRecDepth 100000 in
set_option maxHeartbeats 4000000 in
theorem c_X12_ticketAt (l : Launch) {G : (Nat → Prop) → State → Heap → Prop} (hG : vG G) (D : va_G) (c9 : Nat → ClassId) (ad : Nat → Nat) (m_undoable : Int32) (m_undoStart : Int32) (m_thrown : Int32) (m_inputLength : Int32) (m_position : Int32) (m_start : Int32) (m_token : Int32) (m_value : Int32) (m_letters : Int32) (m_code : Int32) (m_place : Int32) (m_outputLength : Int32) (m_s : Nat → Int32) (m_parsed : Nat → Int32) (m_tried : Nat → Int32) (m_remembered : Nat → Int32) (m_slots : Nat → Int32) (m_kept : Nat → Int32) (m_away : Nat → Int32) (m_input : Nat → Int32) (m_halfway : Nat → Int32) (m_output : Nat → Int32) (v1 : Int32) {o : Int32 × Int32} (hf : f_X12_ticketAt m_thrown m_s v1 = some o) : mI l yX12_ticketAt (wq yX12_ticketAt cX12_ticketAt 2 (some .int)) { frames := 2, cells := 0, slots := 0, locals := 45 } G D (tyA c9) [.ref (ad 0), .int v1] (wX12 ad c9 m_undoable m_undoStart m_thrown m_inputLength m_position m_start m_token m_value m_letters m_code m_place m_outputLength m_s m_parsed m_tried m_remembered m_slots m_kept m_away m_input m_halfway m_output) [] 0 0 o.1 (wX12 ad c9 m_undoable m_undoStart o.2 m_inputLength m_position m_start m_token m_value m_letters m_code m_place m_outputLength m_s m_parsed m_tried m_remembered m_slots m_kept m_away m_input m_halfway m_output) := by
  refine mI_of hG (cc := cX12_ticketAt) (maxL := 2) (ty := .int) (by decide) rfl (Nat.le_of_ble_eq_true rfl) ?_
  intro p e s m args below meth c A X
  have X : vX p s m args meth c cX12_ticketAt 2 (some .int) RX12 (wq yX12_ticketAt cX12_ticketAt 2 (some .int)) D (tyA c9) G A := X
  refine v_eq (lv2 := [(0, .ref (ad 0)), (1, .int v1)]) rfl rfl rfl rfl ?_
  rw [f_X12_ticketAt] at hf
  refine v_aload_n X dX12_ticketAt_0 0 rfl rfl 1 rfl ?_
  refine v_iload_n X dX12_ticketAt_1 1 rfl rfl 2 rfl ?_
  refine v_iconst X dX12_ticketAt_2 ic_0 3 rfl ?_
  refine v_aload_n X dX12_ticketAt_3 0 rfl rfl 4 rfl ?_
  refine v_get X (C := RX12) (T := TX12) (N := 22) (ci := 11) (v := _) dX12_ticketAt_4 (lay_of laym_X12) 0 rfl rfl 0 (by decide) (mw wm_304) rfl rfl 7 rfl ?_
  refine v_bipush X dX12_ticketAt_7 bp_6 9 rfl ?_
  obtain ⟨x1, hx1, hf⟩ := bnd hf
  refine v_iald X dX12_ticketAt_9 1 0 rfl rfl hx1 10 rfl ?_
  refine v_iconst X dX12_ticketAt_10 ic_1 11 rfl ?_
  refine v_isub X dX12_ticketAt_11 12 rfl ?_
  obtain ⟨o2, ho2, hf⟩ := bnd hf
  refine v_callVi X (ci := 11) (T := TX12) (C := RX12) (As := [.int v1, .int 0, .int (x1 - 1)]) (rest := []) (ws' := (wX12 ad c9 m_undoable m_undoStart o2.2 m_inputLength m_position m_start m_token m_value m_letters m_code m_place m_outputLength m_s m_parsed m_tried m_remembered m_slots m_kept m_away m_input m_halfway m_output)) (c_X12_noNumber l hG D c9 ad m_undoable m_undoStart m_thrown m_inputLength m_position m_start m_token m_value m_letters m_code m_place m_outputLength m_s m_parsed m_tried m_remembered m_slots m_kept m_away m_input m_halfway m_output v1 0 (x1 - 1) ho2) 3 (gV wm_114 wm_115 wm_116 wm_37 wm_117) rfl rfl rfl ⟨rfl, pd_X12_noNumber⟩ ⟨Nat.le_of_ble_eq_true rfl, Nat.le_of_ble_eq_true rfl⟩ 0 rfl rfl rfl rfl (Nat.le_of_ble_eq_true rfl) ⟨Nat.zero_le _, Nat.zero_le _⟩ [0, 1, 2, 3, 4, 5, 6, 7, 8, 9, 10] [] [0, 1, 2, 3, 4, 5, 6, 7, 8, 9, 10] rfl rfl rfl rfl dX12_ticketAt_12 15 rfl ?_
  refine v_if_eq X (tgt := 20) dX12_ticketAt_15 rfl 18 rfl hf (fun hf => ?_) (fun hf => ?_)
  · refine v_aload_n X dX12_ticketAt_20 0 rfl rfl 21 rfl ?_
    refine v_get X (C := RX12) (T := TX12) (N := 22) (ci := 11) (v := _) dX12_ticketAt_21 (lay_of laym_X12) 0 rfl rfl 0 (by decide) (mw wm_304) rfl rfl 24 rfl ?_
    refine v_iload_n X dX12_ticketAt_24 1 rfl rfl 25 rfl ?_
    obtain ⟨o3, ho3, hf⟩ := bnd hf
    refine v_callSi X (As := [.int v1]) (rest := [.ref (ad 1)]) (ws' := (wX12 ad c9 m_undoable m_undoStart o2.2 m_inputLength m_position m_start m_token m_value m_letters m_code m_place m_outputLength m_s m_parsed m_tried m_remembered m_slots m_kept m_away m_input m_halfway m_output)) (c_X12_ofTicket l hG D c9 v1 ho3) 1 (gS wm_55 wm_56 wm_37 wm_57) rfl rfl rfl pd_X12_ofTicket ⟨Nat.le_of_ble_eq_true rfl, Nat.le_of_ble_eq_true rfl⟩ rfl rfl (Nat.le_of_ble_eq_true rfl) ⟨Nat.zero_le _, Nat.zero_le _⟩ [] [0, 1, 2, 3, 4, 5, 6, 7, 8, 9, 10] [0, 1, 2, 3, 4, 5, 6, 7, 8, 9, 10] rfl rfl rfl rfl dX12_ticketAt_25 28 rfl ?_
    refine v_iconst X dX12_ticketAt_28 ic_0 29 rfl ?_
    refine v_iadd X dX12_ticketAt_29 30 rfl ?_
    obtain ⟨x4, hx4, hf⟩ := bnd hf
    refine v_iald X dX12_ticketAt_30 1 0 rfl rfl hx4 31 rfl ?_
    obtain rfl := Option.some.inj hf
    exact v_iret X (Nat.zero_le _) (Nat.zero_le _) dX12_ticketAt_31
  · refine v_iconst X dX12_ticketAt_18 ic_0 19 rfl ?_
    obtain rfl := Option.some.inj hf
    exact v_iret X (Nat.zero_le _) (Nat.zero_le _) dX12_ticketAt_19
theorem pd_X12_ticketAt : yX12_ticketAt.cls ≠ "java/lang/invoke/MethodHandle" ∧ yX12_ticketAt.cls ≠ "java/lang/invoke/VarHandle" ∧ (parseMethodDescriptor yX12_ticketAt.desc).map (fun d => d.parameters.length) = some 1 := by decide +kernel
def f_X12_ofIt (m_thrown : Int32) (m_s : Nat → Int32) (v1 : Int32) (v2 : Int32) : Option (Int32 × Int32) :=
  (f_X12_noTicket m_thrown m_s v1).bind fun o1 =>
  if o1.1 = 0 then (
    (f_X12_find m_s v1).bind fun o2 =>
    (f_X12_ofTicket o2).bind fun o3 =>
    (rd m_s 463 (o3 + v2)).bind fun x4 =>
    some (x4, o1.2))
  else (
    some (0, o1.2))
set_option maxRecDepth 100000 in
set_option maxHeartbeats 4000000 in
theorem c_X12_ofIt (l : Launch) {G : (Nat → Prop) → State → Heap → Prop} (hG : vG G) (D : va_G) (c9 : Nat → ClassId) (ad : Nat → Nat) (m_undoable : Int32) (m_undoStart : Int32) (m_thrown : Int32) (m_inputLength : Int32) (m_position : Int32) (m_start : Int32) (m_token : Int32) (m_value : Int32) (m_letters : Int32) (m_code : Int32) (m_place : Int32) (m_outputLength : Int32) (m_s : Nat → Int32) (m_parsed : Nat → Int32) (m_tried : Nat → Int32) (m_remembered : Nat → Int32) (m_slots : Nat → Int32) (m_kept : Nat → Int32) (m_away : Nat → Int32) (m_input : Nat → Int32) (m_halfway : Nat → Int32) (m_output : Nat → Int32) (v1 : Int32) (v2 : Int32) {o : Int32 × Int32} (hf : f_X12_ofIt m_thrown m_s v1 v2 = some o) : mI l yX12_ofIt (wq yX12_ofIt cX12_ofIt 3 (some .int)) { frames := 3, cells := 0, slots := 0, locals := 63 } G D (tyA c9) [.ref (ad 0), .int v1, .int v2] (wX12 ad c9 m_undoable m_undoStart m_thrown m_inputLength m_position m_start m_token m_value m_letters m_code m_place m_outputLength m_s m_parsed m_tried m_remembered m_slots m_kept m_away m_input m_halfway m_output) [] 0 0 o.1 (wX12 ad c9 m_undoable m_undoStart o.2 m_inputLength m_position m_start m_token m_value m_letters m_code m_place m_outputLength m_s m_parsed m_tried m_remembered m_slots m_kept m_away m_input m_halfway m_output) := by
  refine mI_of hG (cc := cX12_ofIt) (maxL := 3) (ty := .int) (by decide) rfl (Nat.le_of_ble_eq_true rfl) ?_
  intro p e s m args below meth c A X
  have X : vX p s m args meth c cX12_ofIt 3 (some .int) RX12 (wq yX12_ofIt cX12_ofIt 3 (some .int)) D (tyA c9) G A := X
  refine v_eq (lv2 := [(0, .ref (ad 0)), (1, .int v1), (2, .int v2)]) rfl rfl rfl rfl ?_
  rw [f_X12_ofIt] at hf
  refine v_aload_n X dX12_ofIt_0 0 rfl rfl 1 rfl ?_
  refine v_iload_n X dX12_ofIt_1 1 rfl rfl 2 rfl ?_
  obtain ⟨o1, ho1, hf⟩ := bnd hf
  refine v_callVi X (ci := 11) (T := TX12) (C := RX12) (As := [.int v1]) (rest := []) (ws' := (wX12 ad c9 m_undoable m_undoStart o1.2 m_inputLength m_position m_start m_token m_value m_letters m_code m_place m_outputLength m_s m_parsed m_tried m_remembered m_slots m_kept m_away m_input m_halfway m_output)) (c_X12_noTicket l hG D c9 ad m_undoable m_undoStart m_thrown m_inputLength m_position m_start m_token m_value m_letters m_code m_place m_outputLength m_s m_parsed m_tried m_remembered m_slots m_kept m_away m_input m_halfway m_output v1 ho1) 1 (gV wm_337 wm_338 wm_339 wm_37 wm_340) rfl rfl rfl ⟨rfl, pd_X12_noTicket⟩ ⟨Nat.le_of_ble_eq_true rfl, Nat.le_of_ble_eq_true rfl⟩ 0 rfl rfl rfl rfl (Nat.le_of_ble_eq_true rfl) ⟨Nat.zero_le _, Nat.zero_le _⟩ [0, 1, 2, 3, 4, 5, 6, 7, 8, 9, 10] [] [0, 1, 2, 3, 4, 5, 6, 7, 8, 9, 10] rfl rfl rfl rfl dX12_ofIt_2 5 rfl ?_
  refine v_if_eq X (tgt := 10) dX12_ofIt_5 rfl 8 rfl hf (fun hf => ?_) (fun hf => ?_)
  · refine v_aload_n X dX12_ofIt_10 0 rfl rfl 11 rfl ?_
    refine v_get X (C := RX12) (T := TX12) (N := 22) (ci := 11) (v := _) dX12_ofIt_11 (lay_of laym_X12) 0 rfl rfl 0 (by decide) (mw wm_304) rfl rfl 14 rfl ?_
    refine v_aload_n X dX12_ofIt_14 0 rfl rfl 15 rfl ?_
    refine v_get X (C := RX12) (T := TX12) (N := 22) (ci := 11) (v := _) dX12_ofIt_15 (lay_of laym_X12) 0 rfl rfl 0 (by decide) (mw wm_304) rfl rfl 18 rfl ?_
    refine v_iload_n X dX12_ofIt_18 1 rfl rfl 19 rfl ?_
    obtain ⟨o2, ho2, hf⟩ := bnd hf
    refine v_callSi X (As := [.ref (ad 1), .int v1]) (rest := [.ref (ad 1)]) (ws' := (wX12 ad c9 m_undoable m_undoStart o1.2 m_inputLength m_position m_start m_token m_value m_letters m_code m_place m_outputLength m_s m_parsed m_tried m_remembered m_slots m_kept m_away m_input m_halfway m_output)) (c_X12_find l hG D c9 (ad 1) m_s v1 ho2) 2 (gS wm_174 wm_175 wm_37 wm_176) rfl rfl rfl pd_X12_find ⟨Nat.le_of_ble_eq_true rfl, Nat.le_of_ble_eq_true rfl⟩ rfl rfl (Nat.le_of_ble_eq_true rfl) ⟨Nat.zero_le _, Nat.zero_le _⟩ [1] [0, 2, 3, 4, 5, 6, 7, 8, 9, 10] [0, 10, 1, 2, 3, 4, 5, 6, 7, 8, 9] rfl rfl rfl rfl dX12_ofIt_19 22 rfl ?_
    obtain ⟨o3, ho3, hf⟩ := bnd hf
    refine v_callSi X (As := [.int o2]) (rest := [.ref (ad 1)]) (ws' := (wX12 ad c9 m_undoable m_undoStart o1.2 m_inputLength m_position m_start m_token m_value m_letters m_code m_place m_outputLength m_s m_parsed m_tried m_remembered m_slots m_kept m_away m_input m_halfway m_output)) (c_X12_ofTicket l hG D c9 o2 ho3) 1 (gS wm_55 wm_56 wm_37 wm_57) rfl rfl rfl pd_X12_ofTicket ⟨Nat.le_of_ble_eq_true rfl, Nat.le_of_ble_eq_true rfl⟩ rfl rfl (Nat.le_of_ble_eq_true rfl) ⟨Nat.zero_le _, Nat.zero_le _⟩ [] [0, 1, 2, 3, 4, 5, 6, 7, 8, 9, 10] [0, 1, 2, 3, 4, 5, 6, 7, 8, 9, 10] rfl rfl rfl rfl dX12_ofIt_22 25 rfl ?_
    refine v_iload_n X dX12_ofIt_25 2 rfl rfl 26 rfl ?_
    refine v_iadd X dX12_ofIt_26 27 rfl ?_
    obtain ⟨x4, hx4, hf⟩ := bnd hf
    refine v_iald X dX12_ofIt_27 1 0 rfl rfl hx4 28 rfl ?_
    obtain rfl := Option.some.inj hf
    exact v_iret X (Nat.zero_le _) (Nat.zero_le _) dX12_ofIt_28
  · refine v_iconst X dX12_ofIt_8 ic_0 9 rfl ?_
    obtain rfl := Option.some.inj hf
    exact v_iret X (Nat.zero_le _) (Nat.zero_le _) dX12_ofIt_9
theorem pd_X12_ofIt : yX12_ofIt.cls ≠ "java/lang/invoke/MethodHandle" ∧ yX12_ofIt.cls ≠ "java/lang/invoke/VarHandle" ∧ (parseMethodDescriptor yX12_ofIt.desc).map (fun d => d.parameters.length) = some 2 := by decide +kernel
def f_X12_kindOf (m_thrown : Int32) (m_s : Nat → Int32) (v1 : Int32) : Option (Int32 × Int32) :=
  (f_X12_ofIt m_thrown m_s v1 1).bind fun o1 =>
  some (o1.1, o1.2)
set_option maxRecDepth 100000 in
set_option maxHeartbeats 4000000 in
theorem c_X12_kindOf (l : Launch) {G : (Nat → Prop) → State → Heap → Prop} (hG : vG G) (D : va_G) (c9 : Nat → ClassId) (ad : Nat → Nat) (m_undoable : Int32) (m_undoStart : Int32) (m_thrown : Int32) (m_inputLength : Int32) (m_position : Int32) (m_start : Int32) (m_token : Int32) (m_value : Int32) (m_letters : Int32) (m_code : Int32) (m_place : Int32) (m_outputLength : Int32) (m_s : Nat → Int32) (m_parsed : Nat → Int32) (m_tried : Nat → Int32) (m_remembered : Nat → Int32) (m_slots : Nat → Int32) (m_kept : Nat → Int32) (m_away : Nat → Int32) (m_input : Nat → Int32) (m_halfway : Nat → Int32) (m_output : Nat → Int32) (v1 : Int32) {o : Int32 × Int32} (hf : f_X12_kindOf m_thrown m_s v1 = some o) : mI l yX12_kindOf (wq yX12_kindOf cX12_kindOf 2 (some .int)) { frames := 4, cells := 0, slots := 0, locals := 85 } G D (tyA c9) [.ref (ad 0), .int v1] (wX12 ad c9 m_undoable m_undoStart m_thrown m_inputLength m_position m_start m_token m_value m_letters m_code m_place m_outputLength m_s m_parsed m_tried m_remembered m_slots m_kept m_away m_input m_halfway m_output) [] 0 0 o.1 (wX12 ad c9 m_undoable m_undoStart o.2 m_inputLength m_position m_start m_token m_value m_letters m_code m_place m_outputLength m_s m_parsed m_tried m_remembered m_slots m_kept m_away m_input m_halfway m_output) := by
  refine mI_of hG (cc := cX12_kindOf) (maxL := 2) (ty := .int) (by decide) rfl (Nat.le_of_ble_eq_true rfl) ?_
  intro p e s m args below meth c A X
  have X : vX p s m args meth c cX12_kindOf 2 (some .int) RX12 (wq yX12_kindOf cX12_kindOf 2 (some .int)) D (tyA c9) G A := X
  refine v_eq (lv2 := [(0, .ref (ad 0)), (1, .int v1)]) rfl rfl rfl rfl ?_
  rw [f_X12_kindOf] at hf
  refine v_aload_n X dX12_kindOf_0 0 rfl rfl 1 rfl ?_
  refine v_iload_n X dX12_kindOf_1 1 rfl rfl 2 rfl ?_
  refine v_iconst X dX12_kindOf_2 ic_1 3 rfl ?_
  obtain ⟨o1, ho1, hf⟩ := bnd hf
  refine v_callVi X (ci := 11) (T := TX12) (C := RX12) (As := [.int v1, .int 1]) (rest := []) (ws' := (wX12 ad c9 m_undoable m_undoStart o1.2 m_inputLength m_position m_start m_token m_value m_letters m_code m_place m_outputLength m_s m_parsed m_tried m_remembered m_slots m_kept m_away m_input m_halfway m_output)) (c_X12_ofIt l hG D c9 ad m_undoable m_undoStart m_thrown m_inputLength m_position m_start m_token m_value m_letters m_code m_place m_outputLength m_s m_parsed m_tried m_remembered m_slots m_kept m_away m_input m_halfway m_output v1 1 ho1) 2 (gV wm_341 wm_342 wm_343 wm_37 wm_344) rfl rfl rfl ⟨rfl, pd_X12_ofIt⟩ ⟨Nat.le_of_ble_eq_true rfl, Nat.le_of_ble_eq_true rfl⟩ 0 rfl rfl rfl rfl (Nat.le_of_ble_eq_true rfl) ⟨Nat.zero_le _, Nat.zero_le _⟩ [0, 1, 2, 3, 4, 5, 6, 7, 8, 9, 10] [] [0, 1, 2, 3, 4, 5, 6, 7, 8, 9, 10] rfl rfl rfl rfl dX12_kindOf_3 6 rfl ?_
  obtain rfl := Option.some.inj hf
  exact v_iret X (Nat.zero_le _) (Nat.zero_le _) dX12_kindOf_6
theorem pd_X12_kindOf : yX12_kindOf.cls ≠ "java/lang/invoke/MethodHandle" ∧ yX12_kindOf.cls ≠ "java/lang/invoke/VarHandle" ∧ (parseMethodDescriptor yX12_kindOf.desc).map (fun d => d.parameters.length) = some 1 := by decide +kernel
def f_X12_ownerOf (m_thrown : Int32) (m_s : Nat → Int32) (v1 : Int32) : Option (Int32 × Int32) :=
  (f_X12_ofIt m_thrown m_s v1 2).bind fun o1 =>
  some (o1.1, o1.2)
set_option maxRecDepth 100000 in
set_option maxHeartbeats 4000000 in
theorem c_X12_ownerOf (l : Launch) {G : (Nat → Prop) → State → Heap → Prop} (hG : vG G) (D : va_G) (c9 : Nat → ClassId) (ad : Nat → Nat) (m_undoable : Int32) (m_undoStart : Int32) (m_thrown : Int32) (m_inputLength : Int32) (m_position : Int32) (m_start : Int32) (m_token : Int32) (m_value : Int32) (m_letters : Int32) (m_code : Int32) (m_place : Int32) (m_outputLength : Int32) (m_s : Nat → Int32) (m_parsed : Nat → Int32) (m_tried : Nat → Int32) (m_remembered : Nat → Int32) (m_slots : Nat → Int32) (m_kept : Nat → Int32) (m_away : Nat → Int32) (m_input : Nat → Int32) (m_halfway : Nat → Int32) (m_output : Nat → Int32) (v1 : Int32) {o : Int32 × Int32} (hf : f_X12_ownerOf m_thrown m_s v1 = some o) : mI l yX12_ownerOf (wq yX12_ownerOf cX12_ownerOf 2 (some .int)) { frames := 4, cells := 0, slots := 0, locals := 85 } G D (tyA c9) [.ref (ad 0), .int v1] (wX12 ad c9 m_undoable m_undoStart m_thrown m_inputLength m_position m_start m_token m_value m_letters m_code m_place m_outputLength m_s m_parsed m_tried m_remembered m_slots m_kept m_away m_input m_halfway m_output) [] 0 0 o.1 (wX12 ad c9 m_undoable m_undoStart o.2 m_inputLength m_position m_start m_token m_value m_letters m_code m_place m_outputLength m_s m_parsed m_tried m_remembered m_slots m_kept m_away m_input m_halfway m_output) := by
  refine mI_of hG (cc := cX12_ownerOf) (maxL := 2) (ty := .int) (by decide) rfl (Nat.le_of_ble_eq_true rfl) ?_
  intro p e s m args below meth c A X
  have X : vX p s m args meth c cX12_ownerOf 2 (some .int) RX12 (wq yX12_ownerOf cX12_ownerOf 2 (some .int)) D (tyA c9) G A := X
  refine v_eq (lv2 := [(0, .ref (ad 0)), (1, .int v1)]) rfl rfl rfl rfl ?_
  rw [f_X12_ownerOf] at hf
  refine v_aload_n X dX12_ownerOf_0 0 rfl rfl 1 rfl ?_
  refine v_iload_n X dX12_ownerOf_1 1 rfl rfl 2 rfl ?_
  refine v_iconst X dX12_ownerOf_2 ic_2 3 rfl ?_
  obtain ⟨o1, ho1, hf⟩ := bnd hf
  refine v_callVi X (ci := 11) (T := TX12) (C := RX12) (As := [.int v1, .int 2]) (rest := []) (ws' := (wX12 ad c9 m_undoable m_undoStart o1.2 m_inputLength m_position m_start m_token m_value m_letters m_code m_place m_outputLength m_s m_parsed m_tried m_remembered m_slots m_kept m_away m_input m_halfway m_output)) (c_X12_ofIt l hG D c9 ad m_undoable m_undoStart m_thrown m_inputLength m_position m_start m_token m_value m_letters m_code m_place m_outputLength m_s m_parsed m_tried m_remembered m_slots m_kept m_away m_input m_halfway m_output v1 2 ho1) 2 (gV wm_341 wm_342 wm_343 wm_37 wm_344) rfl rfl rfl ⟨rfl, pd_X12_ofIt⟩ ⟨Nat.le_of_ble_eq_true rfl, Nat.le_of_ble_eq_true rfl⟩ 0 rfl rfl rfl rfl (Nat.le_of_ble_eq_true rfl) ⟨Nat.zero_le _, Nat.zero_le _⟩ [0, 1, 2, 3, 4, 5, 6, 7, 8, 9, 10] [] [0, 1, 2, 3, 4, 5, 6, 7, 8, 9, 10] rfl rfl rfl rfl dX12_ownerOf_3 6 rfl ?_
  obtain rfl := Option.some.inj hf
  exact v_iret X (Nat.zero_le _) (Nat.zero_le _) dX12_ownerOf_6
theorem pd_X12_ownerOf : yX12_ownerOf.cls ≠ "java/lang/invoke/MethodHandle" ∧ yX12_ownerOf.cls ≠ "java/lang/invoke/VarHandle" ∧ (parseMethodDescriptor yX12_ownerOf.desc).map (fun d => d.parameters.length) = some 1 := by decide +kernel
def f_X12_realmOf (m_thrown : Int32) (m_s : Nat → Int32) (v1 : Int32) : Option (Int32 × Int32) :=
  (f_X12_ofIt m_thrown m_s v1 3).bind fun o1 =>
  some (o1.1, o1.2)
set_option maxRecDepth 100000 in
set_option maxHeartbeats 4000000 in
theorem c_X12_realmOf (l : Launch) {G : (Nat → Prop) → State → Heap → Prop} (hG : vG G) (D : va_G) (c9 : Nat → ClassId) (ad : Nat → Nat) (m_undoable : Int32) (m_undoStart : Int32) (m_thrown : Int32) (m_inputLength : Int32) (m_position : Int32) (m_start : Int32) (m_token : Int32) (m_value : Int32) (m_letters : Int32) (m_code : Int32) (m_place : Int32) (m_outputLength : Int32) (m_s : Nat → Int32) (m_parsed : Nat → Int32) (m_tried : Nat → Int32) (m_remembered : Nat → Int32) (m_slots : Nat → Int32) (m_kept : Nat → Int32) (m_away : Nat → Int32) (m_input : Nat → Int32) (m_halfway : Nat → Int32) (m_output : Nat → Int32) (v1 : Int32) {o : Int32 × Int32} (hf : f_X12_realmOf m_thrown m_s v1 = some o) : mI l yX12_realmOf (wq yX12_realmOf cX12_realmOf 2 (some .int)) { frames := 4, cells := 0, slots := 0, locals := 85 } G D (tyA c9) [.ref (ad 0), .int v1] (wX12 ad c9 m_undoable m_undoStart m_thrown m_inputLength m_position m_start m_token m_value m_letters m_code m_place m_outputLength m_s m_parsed m_tried m_remembered m_slots m_kept m_away m_input m_halfway m_output) [] 0 0 o.1 (wX12 ad c9 m_undoable m_undoStart o.2 m_inputLength m_position m_start m_token m_value m_letters m_code m_place m_outputLength m_s m_parsed m_tried m_remembered m_slots m_kept m_away m_input m_halfway m_output) := by
  refine mI_of hG (cc := cX12_realmOf) (maxL := 2) (ty := .int) (by decide) rfl (Nat.le_of_ble_eq_true rfl) ?_
  intro p e s m args below meth c A X
  have X : vX p s m args meth c cX12_realmOf 2 (some .int) RX12 (wq yX12_realmOf cX12_realmOf 2 (some .int)) D (tyA c9) G A := X
  refine v_eq (lv2 := [(0, .ref (ad 0)), (1, .int v1)]) rfl rfl rfl rfl ?_
  rw [f_X12_realmOf] at hf
  refine v_aload_n X dX12_realmOf_0 0 rfl rfl 1 rfl ?_
  refine v_iload_n X dX12_realmOf_1 1 rfl rfl 2 rfl ?_
  refine v_iconst X dX12_realmOf_2 ic_3 3 rfl ?_
  obtain ⟨o1, ho1, hf⟩ := bnd hf
  refine v_callVi X (ci := 11) (T := TX12) (C := RX12) (As := [.int v1, .int 3]) (rest := []) (ws' := (wX12 ad c9 m_undoable m_undoStart o1.2 m_inputLength m_position m_start m_token m_value m_letters m_code m_place m_outputLength m_s m_parsed m_tried m_remembered m_slots m_kept m_away m_input m_halfway m_output)) (c_X12_ofIt l hG D c9 ad m_undoable m_undoStart m_thrown m_inputLength m_position m_start m_token m_value m_letters m_code m_place m_outputLength m_s m_parsed m_tried m_remembered m_slots m_kept m_away m_input m_halfway m_output v1 3 ho1) 2 (gV wm_341 wm_342 wm_343 wm_37 wm_344) rfl rfl rfl ⟨rfl, pd_X12_ofIt⟩ ⟨Nat.le_of_ble_eq_true rfl, Nat.le_of_ble_eq_true rfl⟩ 0 rfl rfl rfl rfl (Nat.le_of_ble_eq_true rfl) ⟨Nat.zero_le _, Nat.zero_le _⟩ [0, 1, 2, 3, 4, 5, 6, 7, 8, 9, 10] [] [0, 1, 2, 3, 4, 5, 6, 7, 8, 9, 10] rfl rfl rfl rfl dX12_realmOf_3 6 rfl ?_
  obtain rfl := Option.some.inj hf
  exact v_iret X (Nat.zero_le _) (Nat.zero_le _) dX12_realmOf_6
theorem pd_X12_realmOf : yX12_realmOf.cls ≠ "java/lang/invoke/MethodHandle" ∧ yX12_realmOf.cls ≠ "java/lang/invoke/VarHandle" ∧ (parseMethodDescriptor yX12_realmOf.desc).map (fun d => d.parameters.length) = some 1 := by decide +kernel
def f_X12_serviceOf (m_thrown : Int32) (m_s : Nat → Int32) (v1 : Int32) : Option (Int32 × Int32) :=
  (f_X12_ofIt m_thrown m_s v1 4).bind fun o1 =>
  some (o1.1, o1.2)
set_option maxRecDepth 100000 in
set_option maxHeartbeats 4000000 in
theorem c_X12_serviceOf (l : Launch) {G : (Nat → Prop) → State → Heap → Prop} (hG : vG G) (D : va_G) (c9 : Nat → ClassId) (ad : Nat → Nat) (m_undoable : Int32) (m_undoStart : Int32) (m_thrown : Int32) (m_inputLength : Int32) (m_position : Int32) (m_start : Int32) (m_token : Int32) (m_value : Int32) (m_letters : Int32) (m_code : Int32) (m_place : Int32) (m_outputLength : Int32) (m_s : Nat → Int32) (m_parsed : Nat → Int32) (m_tried : Nat → Int32) (m_remembered : Nat → Int32) (m_slots : Nat → Int32) (m_kept : Nat → Int32) (m_away : Nat → Int32) (m_input : Nat → Int32) (m_halfway : Nat → Int32) (m_output : Nat → Int32) (v1 : Int32) {o : Int32 × Int32} (hf : f_X12_serviceOf m_thrown m_s v1 = some o) : mI l yX12_serviceOf (wq yX12_serviceOf cX12_serviceOf 2 (some .int)) { frames := 4, cells := 0, slots := 0, locals := 85 } G D (tyA c9) [.ref (ad 0), .int v1] (wX12 ad c9 m_undoable m_undoStart m_thrown m_inputLength m_position m_start m_token m_value m_letters m_code m_place m_outputLength m_s m_parsed m_tried m_remembered m_slots m_kept m_away m_input m_halfway m_output) [] 0 0 o.1 (wX12 ad c9 m_undoable m_undoStart o.2 m_inputLength m_position m_start m_token m_value m_letters m_code m_place m_outputLength m_s m_parsed m_tried m_remembered m_slots m_kept m_away m_input m_halfway m_output) := by
  refine mI_of hG (cc := cX12_serviceOf) (maxL := 2) (ty := .int) (by decide) rfl (Nat.le_of_ble_eq_true rfl) ?_
  intro p e s m args below meth c A X
  have X : vX p s m args meth c cX12_serviceOf 2 (some .int) RX12 (wq yX12_serviceOf cX12_serviceOf 2 (some .int)) D (tyA c9) G A := X
  refine v_eq (lv2 := [(0, .ref (ad 0)), (1, .int v1)]) rfl rfl rfl rfl ?_
  rw [f_X12_serviceOf] at hf
  refine v_aload_n X dX12_serviceOf_0 0 rfl rfl 1 rfl ?_
  refine v_iload_n X dX12_serviceOf_1 1 rfl rfl 2 rfl ?_
  refine v_iconst X dX12_serviceOf_2 ic_4 3 rfl ?_
  obtain ⟨o1, ho1, hf⟩ := bnd hf
  refine v_callVi X (ci := 11) (T := TX12) (C := RX12) (As := [.int v1, .int 4]) (rest := []) (ws' := (wX12 ad c9 m_undoable m_undoStart o1.2 m_inputLength m_position m_start m_token m_value m_letters m_code m_place m_outputLength m_s m_parsed m_tried m_remembered m_slots m_kept m_away m_input m_halfway m_output)) (c_X12_ofIt l hG D c9 ad m_undoable m_undoStart m_thrown m_inputLength m_position m_start m_token m_value m_letters m_code m_place m_outputLength m_s m_parsed m_tried m_remembered m_slots m_kept m_away m_input m_halfway m_output v1 4 ho1) 2 (gV wm_341 wm_342 wm_343 wm_37 wm_344) rfl rfl rfl ⟨rfl, pd_X12_ofIt⟩ ⟨Nat.le_of_ble_eq_true rfl, Nat.le_of_ble_eq_true rfl⟩ 0 rfl rfl rfl rfl (Nat.le_of_ble_eq_true rfl) ⟨Nat.zero_le _, Nat.zero_le _⟩ [0, 1, 2, 3, 4, 5, 6, 7, 8, 9, 10] [] [0, 1, 2, 3, 4, 5, 6, 7, 8, 9, 10] rfl rfl rfl rfl dX12_serviceOf_3 6 rfl ?_
  obtain rfl := Option.some.inj hf
  exact v_iret X (Nat.zero_le _) (Nat.zero_le _) dX12_serviceOf_6
theorem pd_X12_serviceOf : yX12_serviceOf.cls ≠ "java/lang/invoke/MethodHandle" ∧ yX12_serviceOf.cls ≠ "java/lang/invoke/VarHandle" ∧ (parseMethodDescriptor yX12_serviceOf.desc).map (fun d => d.parameters.length) = some 1 := by decide +kernel
def f_X12_startOf (m_thrown : Int32) (m_s : Nat → Int32) (v1 : Int32) : Option (Int32 × Int32) :=
  (f_X12_ofIt m_thrown m_s v1 5).bind fun o1 =>
  some (o1.1, o1.2)
set_option maxRecDepth 100000 in
set_option maxHeartbeats 4000000 in
theorem c_X12_startOf (l : Launch) {G : (Nat → Prop) → State → Heap → Prop} (hG : vG G) (D : va_G) (c9 : Nat → ClassId) (ad : Nat → Nat) (m_undoable : Int32) (m_undoStart : Int32) (m_thrown : Int32) (m_inputLength : Int32) (m_position : Int32) (m_start : Int32) (m_token : Int32) (m_value : Int32) (m_letters : Int32) (m_code : Int32) (m_place : Int32) (m_outputLength : Int32) (m_s : Nat → Int32) (m_parsed : Nat → Int32) (m_tried : Nat → Int32) (m_remembered : Nat → Int32) (m_slots : Nat → Int32) (m_kept : Nat → Int32) (m_away : Nat → Int32) (m_input : Nat → Int32) (m_halfway : Nat → Int32) (m_output : Nat → Int32) (v1 : Int32) {o : Int32 × Int32} (hf : f_X12_startOf m_thrown m_s v1 = some o) : mI l yX12_startOf (wq yX12_startOf cX12_startOf 2 (some .int)) { frames := 4, cells := 0, slots := 0, locals := 85 } G D (tyA c9) [.ref (ad 0), .int v1] (wX12 ad c9 m_undoable m_undoStart m_thrown m_inputLength m_position m_start m_token m_value m_letters m_code m_place m_outputLength m_s m_parsed m_tried m_remembered m_slots m_kept m_away m_input m_halfway m_output) [] 0 0 o.1 (wX12 ad c9 m_undoable m_undoStart o.2 m_inputLength m_position m_start m_token m_value m_letters m_code m_place m_outputLength m_s m_parsed m_tried m_remembered m_slots m_kept m_away m_input m_halfway m_output) := by
  refine mI_of hG (cc := cX12_startOf) (maxL := 2) (ty := .int) (by decide) rfl (Nat.le_of_ble_eq_true rfl) ?_
  intro p e s m args below meth c A X
  have X : vX p s m args meth c cX12_startOf 2 (some .int) RX12 (wq yX12_startOf cX12_startOf 2 (some .int)) D (tyA c9) G A := X
  refine v_eq (lv2 := [(0, .ref (ad 0)), (1, .int v1)]) rfl rfl rfl rfl ?_
  rw [f_X12_startOf] at hf
  refine v_aload_n X dX12_startOf_0 0 rfl rfl 1 rfl ?_
  refine v_iload_n X dX12_startOf_1 1 rfl rfl 2 rfl ?_
  refine v_iconst X dX12_startOf_2 ic_5 3 rfl ?_
  obtain ⟨o1, ho1, hf⟩ := bnd hf
  refine v_callVi X (ci := 11) (T := TX12) (C := RX12) (As := [.int v1, .int 5]) (rest := []) (ws' := (wX12 ad c9 m_undoable m_undoStart o1.2 m_inputLength m_position m_start m_token m_value m_letters m_code m_place m_outputLength m_s m_parsed m_tried m_remembered m_slots m_kept m_away m_input m_halfway m_output)) (c_X12_ofIt l hG D c9 ad m_undoable m_undoStart m_thrown m_inputLength m_position m_start m_token m_value m_letters m_code m_place m_outputLength m_s m_parsed m_tried m_remembered m_slots m_kept m_away m_input m_halfway m_output v1 5 ho1) 2 (gV wm_341 wm_342 wm_343 wm_37 wm_344) rfl rfl rfl ⟨rfl, pd_X12_ofIt⟩ ⟨Nat.le_of_ble_eq_true rfl, Nat.le_of_ble_eq_true rfl⟩ 0 rfl rfl rfl rfl (Nat.le_of_ble_eq_true rfl) ⟨Nat.zero_le _, Nat.zero_le _⟩ [0, 1, 2, 3, 4, 5, 6, 7, 8, 9, 10] [] [0, 1, 2, 3, 4, 5, 6, 7, 8, 9, 10] rfl rfl rfl rfl dX12_startOf_3 6 rfl ?_
  obtain rfl := Option.some.inj hf
  exact v_iret X (Nat.zero_le _) (Nat.zero_le _) dX12_startOf_6
theorem pd_X12_startOf : yX12_startOf.cls ≠ "java/lang/invoke/MethodHandle" ∧ yX12_startOf.cls ≠ "java/lang/invoke/VarHandle" ∧ (parseMethodDescriptor yX12_startOf.desc).map (fun d => d.parameters.length) = some 1 := by decide +kernel
def f_X12_endOf (m_thrown : Int32) (m_s : Nat → Int32) (v1 : Int32) : Option (Int32 × Int32) :=
  (f_X12_ofIt m_thrown m_s v1 6).bind fun o1 =>
  some (o1.1, o1.2)
set_option maxRecDepth 100000 in
set_option maxHeartbeats 4000000 in
theorem c_X12_endOf (l : Launch) {G : (Nat → Prop) → State → Heap → Prop} (hG : vG G) (D : va_G) (c9 : Nat → ClassId) (ad : Nat → Nat) (m_undoable : Int32) (m_undoStart : Int32) (m_thrown : Int32) (m_inputLength : Int32) (m_position : Int32) (m_start : Int32) (m_token : Int32) (m_value : Int32) (m_letters : Int32) (m_code : Int32) (m_place : Int32) (m_outputLength : Int32) (m_s : Nat → Int32) (m_parsed : Nat → Int32) (m_tried : Nat → Int32) (m_remembered : Nat → Int32) (m_slots : Nat → Int32) (m_kept : Nat → Int32) (m_away : Nat → Int32) (m_input : Nat → Int32) (m_halfway : Nat → Int32) (m_output : Nat → Int32) (v1 : Int32) {o : Int32 × Int32} (hf : f_X12_endOf m_thrown m_s v1 = some o) : mI l yX12_endOf (wq yX12_endOf cX12_endOf 2 (some .int)) { frames := 4, cells := 0, slots := 0, locals := 85 } G D (tyA c9) [.ref (ad 0), .int v1] (wX12 ad c9 m_undoable m_undoStart m_thrown m_inputLength m_position m_start m_token m_value m_letters m_code m_place m_outputLength m_s m_parsed m_tried m_remembered m_slots m_kept m_away m_input m_halfway m_output) [] 0 0 o.1 (wX12 ad c9 m_undoable m_undoStart o.2 m_inputLength m_position m_start m_token m_value m_letters m_code m_place m_outputLength m_s m_parsed m_tried m_remembered m_slots m_kept m_away m_input m_halfway m_output) := by
  refine mI_of hG (cc := cX12_endOf) (maxL := 2) (ty := .int) (by decide) rfl (Nat.le_of_ble_eq_true rfl) ?_
  intro p e s m args below meth c A X
  have X : vX p s m args meth c cX12_endOf 2 (some .int) RX12 (wq yX12_endOf cX12_endOf 2 (some .int)) D (tyA c9) G A := X
  refine v_eq (lv2 := [(0, .ref (ad 0)), (1, .int v1)]) rfl rfl rfl rfl ?_
  rw [f_X12_endOf] at hf
  refine v_aload_n X dX12_endOf_0 0 rfl rfl 1 rfl ?_
  refine v_iload_n X dX12_endOf_1 1 rfl rfl 2 rfl ?_
  refine v_bipush X dX12_endOf_2 bp_6 4 rfl ?_
  obtain ⟨o1, ho1, hf⟩ := bnd hf
  refine v_callVi X (ci := 11) (T := TX12) (C := RX12) (As := [.int v1, .int 6]) (rest := []) (ws' := (wX12 ad c9 m_undoable m_undoStart o1.2 m_inputLength m_position m_start m_token m_value m_letters m_code m_place m_outputLength m_s m_parsed m_tried m_remembered m_slots m_kept m_away m_input m_halfway m_output)) (c_X12_ofIt l hG D c9 ad m_undoable m_undoStart m_thrown m_inputLength m_position m_start m_token m_value m_letters m_code m_place m_outputLength m_s m_parsed m_tried m_remembered m_slots m_kept m_away m_input m_halfway m_output v1 6 ho1) 2 (gV wm_341 wm_342 wm_343 wm_37 wm_344) rfl rfl rfl ⟨rfl, pd_X12_ofIt⟩ ⟨Nat.le_of_ble_eq_true rfl, Nat.le_of_ble_eq_true rfl⟩ 0 rfl rfl rfl rfl (Nat.le_of_ble_eq_true rfl) ⟨Nat.zero_le _, Nat.zero_le _⟩ [0, 1, 2, 3, 4, 5, 6, 7, 8, 9, 10] [] [0, 1, 2, 3, 4, 5, 6, 7, 8, 9, 10] rfl rfl rfl rfl dX12_endOf_4 7 rfl ?_
  obtain rfl := Option.some.inj hf
  exact v_iret X (Nat.zero_le _) (Nat.zero_le _) dX12_endOf_7
theorem pd_X12_endOf : yX12_endOf.cls ≠ "java/lang/invoke/MethodHandle" ∧ yX12_endOf.cls ≠ "java/lang/invoke/VarHandle" ∧ (parseMethodDescriptor yX12_endOf.desc).map (fun d => d.parameters.length) = some 1 := by decide +kernel
def f_X12_lastEndOf (m_thrown : Int32) (m_s : Nat → Int32) (v1 : Int32) : Option (Int32 × Int32) :=
  (f_X12_ofIt m_thrown m_s v1 7).bind fun o1 =>
  some (o1.1, o1.2)
set_option maxRecDepth 100000 in
set_option maxHeartbeats 4000000 in
theorem c_X12_lastEndOf (l : Launch) {G : (Nat → Prop) → State → Heap → Prop} (hG : vG G) (D : va_G) (c9 : Nat → ClassId) (ad : Nat → Nat) (m_undoable : Int32) (m_undoStart : Int32) (m_thrown : Int32) (m_inputLength : Int32) (m_position : Int32) (m_start : Int32) (m_token : Int32) (m_value : Int32) (m_letters : Int32) (m_code : Int32) (m_place : Int32) (m_outputLength : Int32) (m_s : Nat → Int32) (m_parsed : Nat → Int32) (m_tried : Nat → Int32) (m_remembered : Nat → Int32) (m_slots : Nat → Int32) (m_kept : Nat → Int32) (m_away : Nat → Int32) (m_input : Nat → Int32) (m_halfway : Nat → Int32) (m_output : Nat → Int32) (v1 : Int32) {o : Int32 × Int32} (hf : f_X12_lastEndOf m_thrown m_s v1 = some o) : mI l yX12_lastEndOf (wq yX12_lastEndOf cX12_lastEndOf 2 (some .int)) { frames := 4, cells := 0, slots := 0, locals := 85 } G D (tyA c9) [.ref (ad 0), .int v1] (wX12 ad c9 m_undoable m_undoStart m_thrown m_inputLength m_position m_start m_token m_value m_letters m_code m_place m_outputLength m_s m_parsed m_tried m_remembered m_slots m_kept m_away m_input m_halfway m_output) [] 0 0 o.1 (wX12 ad c9 m_undoable m_undoStart o.2 m_inputLength m_position m_start m_token m_value m_letters m_code m_place m_outputLength m_s m_parsed m_tried m_remembered m_slots m_kept m_away m_input m_halfway m_output) := by
  refine mI_of hG (cc := cX12_lastEndOf) (maxL := 2) (ty := .int) (by decide) rfl (Nat.le_of_ble_eq_true rfl) ?_
  intro p e s m args below meth c A X
  have X : vX p s m args meth c cX12_lastEndOf 2 (some .int) RX12 (wq yX12_lastEndOf cX12_lastEndOf 2 (some .int)) D (tyA c9) G A := X
  refine v_eq (lv2 := [(0, .ref (ad 0)), (1, .int v1)]) rfl rfl rfl rfl ?_
  rw [f_X12_lastEndOf] at hf
  refine v_aload_n X dX12_lastEndOf_0 0 rfl rfl 1 rfl ?_
  refine v_iload_n X dX12_lastEndOf_1 1 rfl rfl 2 rfl ?_
  refine v_bipush X dX12_lastEndOf_2 bp_7 4 rfl ?_
  obtain ⟨o1, ho1, hf⟩ := bnd hf
  refine v_callVi X (ci := 11) (T := TX12) (C := RX12) (As := [.int v1, .int 7]) (rest := []) (ws' := (wX12 ad c9 m_undoable m_undoStart o1.2 m_inputLength m_position m_start m_token m_value m_letters m_code m_place m_outputLength m_s m_parsed m_tried m_remembered m_slots m_kept m_away m_input m_halfway m_output)) (c_X12_ofIt l hG D c9 ad m_undoable m_undoStart m_thrown m_inputLength m_position m_start m_token m_value m_letters m_code m_place m_outputLength m_s m_parsed m_tried m_remembered m_slots m_kept m_away m_input m_halfway m_output v1 7 ho1) 2 (gV wm_341 wm_342 wm_343 wm_37 wm_344) rfl rfl rfl ⟨rfl, pd_X12_ofIt⟩ ⟨Nat.le_of_ble_eq_true rfl, Nat.le_of_ble_eq_true rfl⟩ 0 rfl rfl rfl rfl (Nat.le_of_ble_eq_true rfl) ⟨Nat.zero_le _, Nat.zero_le _⟩ [0, 1, 2, 3, 4, 5, 6, 7, 8, 9, 10] [] [0, 1, 2, 3, 4, 5, 6, 7, 8, 9, 10] rfl rfl rfl rfl dX12_lastEndOf_4 7 rfl ?_
  obtain rfl := Option.some.inj hf
  exact v_iret X (Nat.zero_le _) (Nat.zero_le _) dX12_lastEndOf_7
theorem pd_X12_lastEndOf : yX12_lastEndOf.cls ≠ "java/lang/invoke/MethodHandle" ∧ yX12_lastEndOf.cls ≠ "java/lang/invoke/VarHandle" ∧ (parseMethodDescriptor yX12_lastEndOf.desc).map (fun d => d.parameters.length) = some 1 := by decide +kernel
def f_X12_keyOf (m_thrown : Int32) (m_s : Nat → Int32) (v1 : Int32) : Option (Int32 × Int32) :=
  (f_X12_ofIt m_thrown m_s v1 8).bind fun o1 =>
  some (o1.1, o1.2)
set_option maxRecDepth 100000 in
set_option maxHeartbeats 4000000 in
theorem c_X12_keyOf (l : Launch) {G : (Nat → Prop) → State → Heap → Prop} (hG : vG G) (D : va_G) (c9 : Nat → ClassId) (ad : Nat → Nat) (m_undoable : Int32) (m_undoStart : Int32) (m_thrown : Int32) (m_inputLength : Int32) (m_position : Int32) (m_start : Int32) (m_token : Int32) (m_value : Int32) (m_letters : Int32) (m_code : Int32) (m_place : Int32) (m_outputLength : Int32) (m_s : Nat → Int32) (m_parsed : Nat → Int32) (m_tried : Nat → Int32) (m_remembered : Nat → Int32) (m_slots : Nat → Int32) (m_kept : Nat → Int32) (m_away : Nat → Int32) (m_input : Nat → Int32) (m_halfway : Nat → Int32) (m_output : Nat → Int32) (v1 : Int32) {o : Int32 × Int32} (hf : f_X12_keyOf m_thrown m_s v1 = some o) : mI l yX12_keyOf (wq yX12_keyOf cX12_keyOf 2 (some .int)) { frames := 4, cells := 0, slots := 0, locals := 85 } G D (tyA c9) [.ref (ad 0), .int v1] (wX12 ad c9 m_undoable m_undoStart m_thrown m_inputLength m_position m_start m_token m_value m_letters m_code m_place m_outputLength m_s m_parsed m_tried m_remembered m_slots m_kept m_away m_input m_halfway m_output) [] 0 0 o.1 (wX12 ad c9 m_undoable m_undoStart o.2 m_inputLength m_position m_start m_token m_value m_letters m_code m_place m_outputLength m_s m_parsed m_tried m_remembered m_slots m_kept m_away m_input m_halfway m_output) := by
  refine mI_of hG (cc := cX12_keyOf) (maxL := 2) (ty := .int) (by decide) rfl (Nat.le_of_ble_eq_true rfl) ?_
  intro p e s m args below meth c A X
  have X : vX p s m args meth c cX12_keyOf 2 (some .int) RX12 (wq yX12_keyOf cX12_keyOf 2 (some .int)) D (tyA c9) G A := X
  refine v_eq (lv2 := [(0, .ref (ad 0)), (1, .int v1)]) rfl rfl rfl rfl ?_
  rw [f_X12_keyOf] at hf
  refine v_aload_n X dX12_keyOf_0 0 rfl rfl 1 rfl ?_
  refine v_iload_n X dX12_keyOf_1 1 rfl rfl 2 rfl ?_
  refine v_bipush X dX12_keyOf_2 bp_8 4 rfl ?_
  obtain ⟨o1, ho1, hf⟩ := bnd hf
  refine v_callVi X (ci := 11) (T := TX12) (C := RX12) (As := [.int v1, .int 8]) (rest := []) (ws' := (wX12 ad c9 m_undoable m_undoStart o1.2 m_inputLength m_position m_start m_token m_value m_letters m_code m_place m_outputLength m_s m_parsed m_tried m_remembered m_slots m_kept m_away m_input m_halfway m_output)) (c_X12_ofIt l hG D c9 ad m_undoable m_undoStart m_thrown m_inputLength m_position m_start m_token m_value m_letters m_code m_place m_outputLength m_s m_parsed m_tried m_remembered m_slots m_kept m_away m_input m_halfway m_output v1 8 ho1) 2 (gV wm_341 wm_342 wm_343 wm_37 wm_344) rfl rfl rfl ⟨rfl, pd_X12_ofIt⟩ ⟨Nat.le_of_ble_eq_true rfl, Nat.le_of_ble_eq_true rfl⟩ 0 rfl rfl rfl rfl (Nat.le_of_ble_eq_true rfl) ⟨Nat.zero_le _, Nat.zero_le _⟩ [0, 1, 2, 3, 4, 5, 6, 7, 8, 9, 10] [] [0, 1, 2, 3, 4, 5, 6, 7, 8, 9, 10] rfl rfl rfl rfl dX12_keyOf_4 7 rfl ?_
  obtain rfl := Option.some.inj hf
  exact v_iret X (Nat.zero_le _) (Nat.zero_le _) dX12_keyOf_7
theorem pd_X12_keyOf : yX12_keyOf.cls ≠ "java/lang/invoke/MethodHandle" ∧ yX12_keyOf.cls ≠ "java/lang/invoke/VarHandle" ∧ (parseMethodDescriptor yX12_keyOf.desc).map (fun d => d.parameters.length) = some 1 := by decide +kernel
def f_X12_isRenewable (m_thrown : Int32) (m_s : Nat → Int32) (v1 : Int32) : Option (Int32 × Int32) :=
  (f_X12_ofIt m_thrown m_s v1 9).bind fun o1 =>
  if o1.1 = 1 then (
    some (1, o1.2))
  else (
    some (0, o1.2))
set_option maxRecDepth 100000 in
set_option maxHeartbeats 4000000 in
theorem c_X12_isRenewable (l : Launch) {G : (Nat → Prop) → State → Heap → Prop} (hG : vG G) (D : va_G) (c9 : Nat → ClassId) (ad : Nat → Nat) (m_undoable : Int32) (m_undoStart : Int32) (m_thrown : Int32) (m_inputLength : Int32) (m_position : Int32) (m_start : Int32) (m_token : Int32) (m_value : Int32) (m_letters : Int32) (m_code : Int32) (m_place : Int32) (m_outputLength : Int32) (m_s : Nat → Int32) (m_parsed : Nat → Int32) (m_tried : Nat → Int32) (m_remembered : Nat → Int32) (m_slots : Nat → Int32) (m_kept : Nat → Int32) (m_away : Nat → Int32) (m_input : Nat → Int32) (m_halfway : Nat → Int32) (m_output : Nat → Int32) (v1 : Int32) {o : Int32 × Int32} (hf : f_X12_isRenewable m_thrown m_s v1 = some o) : mI l yX12_isRenewable (wq yX12_isRenewable cX12_isRenewable 2 (some .boolean)) { frames := 4, cells := 0, slots := 0, locals := 85 } G D (tyA c9) [.ref (ad 0), .int v1] (wX12 ad c9 m_undoable m_undoStart m_thrown m_inputLength m_position m_start m_token m_value m_letters m_code m_place m_outputLength m_s m_parsed m_tried m_remembered m_slots m_kept m_away m_input m_halfway m_output) [] 0 0 o.1 (wX12 ad c9 m_undoable m_undoStart o.2 m_inputLength m_position m_start m_token m_value m_letters m_code m_place m_outputLength m_s m_parsed m_tried m_remembered m_slots m_kept m_away m_input m_halfway m_output) := by
  refine mI_of hG (cc := cX12_isRenewable) (maxL := 2) (ty := .boolean) (by decide) rfl (Nat.le_of_ble_eq_true rfl) ?_
  intro p e s m args below meth c A X
  have X : vX p s m args meth c cX12_isRenewable 2 (some .boolean) RX12 (wq yX12_isRenewable cX12_isRenewable 2 (some .boolean)) D (tyA c9) G A := X
  refine v_eq (lv2 := [(0, .ref (ad 0)), (1, .int v1)]) rfl rfl rfl rfl ?_
  rw [f_X12_isRenewable] at hf
  refine v_aload_n X dX12_isRenewable_0 0 rfl rfl 1 rfl ?_
  refine v_iload_n X dX12_isRenewable_1 1 rfl rfl 2 rfl ?_
  refine v_bipush X dX12_isRenewable_2 bp_9 4 rfl ?_
  obtain ⟨o1, ho1, hf⟩ := bnd hf
  refine v_callVi X (ci := 11) (T := TX12) (C := RX12) (As := [.int v1, .int 9]) (rest := []) (ws' := (wX12 ad c9 m_undoable m_undoStart o1.2 m_inputLength m_position m_start m_token m_value m_letters m_code m_place m_outputLength m_s m_parsed m_tried m_remembered m_slots m_kept m_away m_input m_halfway m_output)) (c_X12_ofIt l hG D c9 ad m_undoable m_undoStart m_thrown m_inputLength m_position m_start m_token m_value m_letters m_code m_place m_outputLength m_s m_parsed m_tried m_remembered m_slots m_kept m_away m_input m_halfway m_output v1 9 ho1) 2 (gV wm_341 wm_342 wm_343 wm_37 wm_344) rfl rfl rfl ⟨rfl, pd_X12_ofIt⟩ ⟨Nat.le_of_ble_eq_true rfl, Nat.le_of_ble_eq_true rfl⟩ 0 rfl rfl rfl rfl (Nat.le_of_ble_eq_true rfl) ⟨Nat.zero_le _, Nat.zero_le _⟩ [0, 1, 2, 3, 4, 5, 6, 7, 8, 9, 10] [] [0, 1, 2, 3, 4, 5, 6, 7, 8, 9, 10] rfl rfl rfl rfl dX12_isRenewable_4 7 rfl ?_
  refine v_iconst X dX12_isRenewable_7 ic_1 8 rfl ?_
  refine v_icmp_ne X (tgt := 15) dX12_isRenewable_8 rfl 11 rfl hf (fun hf => ?_) (fun hf => ?_)
  · refine v_iconst X dX12_isRenewable_15 ic_0 16 rfl ?_
    obtain rfl := Option.some.inj hf
    exact v_zret X (Nat.zero_le _) (Nat.zero_le _) nz0 dX12_isRenewable_16
  · refine v_iconst X dX12_isRenewable_11 ic_1 12 rfl ?_
    refine v_goto X (tgt := 16) dX12_isRenewable_12 rfl ?_
    obtain rfl := Option.some.inj hf
    exact v_zret X (Nat.zero_le _) (Nat.zero_le _) nz1 dX12_isRenewable_16
theorem pd_X12_isRenewable : yX12_isRenewable.cls ≠ "java/lang/invoke/MethodHandle" ∧ yX12_isRenewable.cls ≠ "java/lang/invoke/VarHandle" ∧ (parseMethodDescriptor yX12_isRenewable.desc).map (fun d => d.parameters.length) = some 1 := by decide +kernel
def f_X12_isValid (m_thrown : Int32) (m_s : Nat → Int32) (v1 : Int32) : Option (Int32 × Int32) :=
  (f_X12_noTicket m_thrown m_s v1).bind fun o1 =>
  if o1.1 = 0 then (
    (f_X12_find m_s v1).bind fun o2 =>
    (f_X12_lives m_s o2).bind fun o3 =>
    (zr o3).bind fun z4 => some (z4, o1.2))
  else (
    some (0, o1.2))
set_option maxRecDepth 100000 in
set_option maxHeartbeats 4000000 in
theorem c_X12_isValid (l : Launch) {G : (Nat → Prop) → State → Heap → Prop} (hG : vG G) (D : va_G) (c9 : Nat → ClassId) (ad : Nat → Nat) (m_undoable : Int32) (m_undoStart : Int32) (m_thrown : Int32) (m_inputLength : Int32) (m_position : Int32) (m_start : Int32) (m_token : Int32) (m_value : Int32) (m_letters : Int32) (m_code : Int32) (m_place : Int32) (m_outputLength : Int32) (m_s : Nat → Int32) (m_parsed : Nat → Int32) (m_tried : Nat → Int32) (m_remembered : Nat → Int32) (m_slots : Nat → Int32) (m_kept : Nat → Int32) (m_away : Nat → Int32) (m_input : Nat → Int32) (m_halfway : Nat → Int32) (m_output : Nat → Int32) (v1 : Int32) {o : Int32 × Int32} (hf : f_X12_isValid m_thrown m_s v1 = some o) : mI l yX12_isValid (wq yX12_isValid cX12_isValid 2 (some .boolean)) { frames := 3, cells := 0, slots := 0, locals := 63 } G D (tyA c9) [.ref (ad 0), .int v1] (wX12 ad c9 m_undoable m_undoStart m_thrown m_inputLength m_position m_start m_token m_value m_letters m_code m_place m_outputLength m_s m_parsed m_tried m_remembered m_slots m_kept m_away m_input m_halfway m_output) [] 0 0 o.1 (wX12 ad c9 m_undoable m_undoStart o.2 m_inputLength m_position m_start m_token m_value m_letters m_code m_place m_outputLength m_s m_parsed m_tried m_remembered m_slots m_kept m_away m_input m_halfway m_output) := by
  refine mI_of hG (cc := cX12_isValid) (maxL := 2) (ty := .boolean) (by decide) rfl (Nat.le_of_ble_eq_true rfl) ?_
  intro p e s m args below meth c A X
  have X : vX p s m args meth c cX12_isValid 2 (some .boolean) RX12 (wq yX12_isValid cX12_isValid 2 (some .boolean)) D (tyA c9) G A := X
  refine v_eq (lv2 := [(0, .ref (ad 0)), (1, .int v1)]) rfl rfl rfl rfl ?_
  rw [f_X12_isValid] at hf
  refine v_aload_n X dX12_isValid_0 0 rfl rfl 1 rfl ?_
  refine v_iload_n X dX12_isValid_1 1 rfl rfl 2 rfl ?_
  obtain ⟨o1, ho1, hf⟩ := bnd hf
  refine v_callVi X (ci := 11) (T := TX12) (C := RX12) (As := [.int v1]) (rest := []) (ws' := (wX12 ad c9 m_undoable m_undoStart o1.2 m_inputLength m_position m_start m_token m_value m_letters m_code m_place m_outputLength m_s m_parsed m_tried m_remembered m_slots m_kept m_away m_input m_halfway m_output)) (c_X12_noTicket l hG D c9 ad m_undoable m_undoStart m_thrown m_inputLength m_position m_start m_token m_value m_letters m_code m_place m_outputLength m_s m_parsed m_tried m_remembered m_slots m_kept m_away m_input m_halfway m_output v1 ho1) 1 (gV wm_337 wm_338 wm_339 wm_37 wm_340) rfl rfl rfl ⟨rfl, pd_X12_noTicket⟩ ⟨Nat.le_of_ble_eq_true rfl, Nat.le_of_ble_eq_true rfl⟩ 0 rfl rfl rfl rfl (Nat.le_of_ble_eq_true rfl) ⟨Nat.zero_le _, Nat.zero_le _⟩ [0, 1, 2, 3, 4, 5, 6, 7, 8, 9, 10] [] [0, 1, 2, 3, 4, 5, 6, 7, 8, 9, 10] rfl rfl rfl rfl dX12_isValid_2 5 rfl ?_
  refine v_if_eq X (tgt := 10) dX12_isValid_5 rfl 8 rfl hf (fun hf => ?_) (fun hf => ?_)
  · refine v_aload_n X dX12_isValid_10 0 rfl rfl 11 rfl ?_
    refine v_get X (C := RX12) (T := TX12) (N := 22) (ci := 11) (v := _) dX12_isValid_11 (lay_of laym_X12) 0 rfl rfl 0 (by decide) (mw wm_304) rfl rfl 14 rfl ?_
    refine v_aload_n X dX12_isValid_14 0 rfl rfl 15 rfl ?_
    refine v_get X (C := RX12) (T := TX12) (N := 22) (ci := 11) (v := _) dX12_isValid_15 (lay_of laym_X12) 0 rfl rfl 0 (by decide) (mw wm_304) rfl rfl 18 rfl ?_
    refine v_iload_n X dX12_isValid_18 1 rfl rfl 19 rfl ?_
    obtain ⟨o2, ho2, hf⟩ := bnd hf
    refine v_callSi X (As := [.ref (ad 1), .int v1]) (rest := [.ref (ad 1)]) (ws' := (wX12 ad c9 m_undoable m_undoStart o1.2 m_inputLength m_position m_start m_token m_value m_letters m_code m_place m_outputLength m_s m_parsed m_tried m_remembered m_slots m_kept m_away m_input m_halfway m_output)) (c_X12_find l hG D c9 (ad 1) m_s v1 ho2) 2 (gS wm_174 wm_175 wm_37 wm_176) rfl rfl rfl pd_X12_find ⟨Nat.le_of_ble_eq_true rfl, Nat.le_of_ble_eq_true rfl⟩ rfl rfl (Nat.le_of_ble_eq_true rfl) ⟨Nat.zero_le _, Nat.zero_le _⟩ [1] [0, 2, 3, 4, 5, 6, 7, 8, 9, 10] [0, 10, 1, 2, 3, 4, 5, 6, 7, 8, 9] rfl rfl rfl rfl dX12_isValid_19 22 rfl ?_
    obtain ⟨o3, ho3, hf⟩ := bnd hf
    refine v_callSi X (As := [.ref (ad 1), .int o2]) (rest := []) (ws' := (wX12 ad c9 m_undoable m_undoStart o1.2 m_inputLength m_position m_start m_token m_value m_letters m_code m_place m_outputLength m_s m_parsed m_tried m_remembered m_slots m_kept m_away m_input m_halfway m_output)) (c_X12_lives l hG D c9 (ad 1) m_s o2 ho3) 2 (gS wm_58 wm_59 wm_37 wm_60) rfl rfl rfl pd_X12_lives ⟨Nat.le_of_ble_eq_true rfl, Nat.le_of_ble_eq_true rfl⟩ rfl rfl (Nat.le_of_ble_eq_true rfl) ⟨Nat.zero_le _, Nat.zero_le _⟩ [1] [0, 2, 3, 4, 5, 6, 7, 8, 9, 10] [0, 10, 1, 2, 3, 4, 5, 6, 7, 8, 9] rfl rfl rfl rfl dX12_isValid_22 25 rfl ?_
    obtain ⟨z4, hz4, hf⟩ := bnd hf
    obtain rfl := Option.some.inj hf
    exact v_zretq hz4 X (Nat.zero_le _) (Nat.zero_le _) dX12_isValid_25
  · refine v_iconst X dX12_isValid_8 ic_0 9 rfl ?_
    obtain rfl := Option.some.inj hf
    exact v_zret X (Nat.zero_le _) (Nat.zero_le _) nz0 dX12_isValid_9
theorem pd_X12_isValid : yX12_isValid.cls ≠ "java/lang/invoke/MethodHandle" ∧ yX12_isValid.cls ≠ "java/lang/invoke/VarHandle" ∧ (parseMethodDescriptor yX12_isValid.desc).map (fun d => d.parameters.length) = some 1 := by decide +kernel
def f_X12_minutesLeft (m_thrown : Int32) (m_s : Nat → Int32) (v1 : Int32) : Option (Int32 × Int32) :=
  (f_X12_noTicket m_thrown m_s v1).bind fun o1 =>
  if o1.1 = 0 then (
    (f_X12_find m_s v1).bind fun o2 =>
    (f_X12_ofTicket o2).bind fun o3 =>
    (rd m_s 463 (o3 + 6)).bind fun x4 =>
    (rd m_s 463 0).bind fun x5 =>
    (f_X12_greater 0 (x4 - x5)).bind fun o6 =>
    some (o6, o1.2))
  else (
    some (0, o1.2))
set_option maxRecDepth 100000 in
set_option maxHeartbeats 4000000 in
theorem c_X12_minutesLeft (l : Launch) {G : (Nat → Prop) → State → Heap → Prop} (hG : vG G) (D : va_G) (c9 : Nat → ClassId) (ad : Nat → Nat) (m_undoable : Int32) (m_undoStart : Int32) (m_thrown : Int32) (m_inputLength : Int32) (m_position : Int32) (m_start : Int32) (m_token : Int32) (m_value : Int32) (m_letters : Int32) (m_code : Int32) (m_place : Int32) (m_outputLength : Int32) (m_s : Nat → Int32) (m_parsed : Nat → Int32) (m_tried : Nat → Int32) (m_remembered : Nat → Int32) (m_slots : Nat → Int32) (m_kept : Nat → Int32) (m_away : Nat → Int32) (m_input : Nat → Int32) (m_halfway : Nat → Int32) (m_output : Nat → Int32) (v1 : Int32) {o : Int32 × Int32} (hf : f_X12_minutesLeft m_thrown m_s v1 = some o) : mI l yX12_minutesLeft (wq yX12_minutesLeft cX12_minutesLeft 2 (some .int)) { frames := 3, cells := 0, slots := 0, locals := 63 } G D (tyA c9) [.ref (ad 0), .int v1] (wX12 ad c9 m_undoable m_undoStart m_thrown m_inputLength m_position m_start m_token m_value m_letters m_code m_place m_outputLength m_s m_parsed m_tried m_remembered m_slots m_kept m_away m_input m_halfway m_output) [] 0 0 o.1 (wX12 ad c9 m_undoable m_undoStart o.2 m_inputLength m_position m_start m_token m_value m_letters m_code m_place m_outputLength m_s m_parsed m_tried m_remembered m_slots m_kept m_away m_input m_halfway m_output) := by
  refine mI_of hG (cc := cX12_minutesLeft) (maxL := 2) (ty := .int) (by decide) rfl (Nat.le_of_ble_eq_true rfl) ?_
  intro p e s m args below meth c A X
  have X : vX p s m args meth c cX12_minutesLeft 2 (some .int) RX12 (wq yX12_minutesLeft cX12_minutesLeft 2 (some .int)) D (tyA c9) G A := X
  refine v_eq (lv2 := [(0, .ref (ad 0)), (1, .int v1)]) rfl rfl rfl rfl ?_
  rw [f_X12_minutesLeft] at hf
  refine v_aload_n X dX12_minutesLeft_0 0 rfl rfl 1 rfl ?_
  refine v_iload_n X dX12_minutesLeft_1 1 rfl rfl 2 rfl ?_
  obtain ⟨o1, ho1, hf⟩ := bnd hf
  refine v_callVi X (ci := 11) (T := TX12) (C := RX12) (As := [.int v1]) (rest := []) (ws' := (wX12 ad c9 m_undoable m_undoStart o1.2 m_inputLength m_position m_start m_token m_value m_letters m_code m_place m_outputLength m_s m_parsed m_tried m_remembered m_slots m_kept m_away m_input m_halfway m_output)) (c_X12_noTicket l hG D c9 ad m_undoable m_undoStart m_thrown m_inputLength m_position m_start m_token m_value m_letters m_code m_place m_outputLength m_s m_parsed m_tried m_remembered m_slots m_kept m_away m_input m_halfway m_output v1 ho1) 1 (gV wm_337 wm_338 wm_339 wm_37 wm_340) rfl rfl rfl ⟨rfl, pd_X12_noTicket⟩ ⟨Nat.le_of_ble_eq_true rfl, Nat.le_of_ble_eq_true rfl⟩ 0 rfl rfl rfl rfl (Nat.le_of_ble_eq_true rfl) ⟨Nat.zero_le _, Nat.zero_le _⟩ [0, 1, 2, 3, 4, 5, 6, 7, 8, 9, 10] [] [0, 1, 2, 3, 4, 5, 6, 7, 8, 9, 10] rfl rfl rfl rfl dX12_minutesLeft_2 5 rfl ?_
  refine v_if_eq X (tgt := 10) dX12_minutesLeft_5 rfl 8 rfl hf (fun hf => ?_) (fun hf => ?_)
  · refine v_iconst X dX12_minutesLeft_10 ic_0 11 rfl ?_
    refine v_aload_n X dX12_minutesLeft_11 0 rfl rfl 12 rfl ?_
    refine v_get X (C := RX12) (T := TX12) (N := 22) (ci := 11) (v := _) dX12_minutesLeft_12 (lay_of laym_X12) 0 rfl rfl 0 (by decide) (mw wm_304) rfl rfl 15 rfl ?_
    refine v_aload_n X dX12_minutesLeft_15 0 rfl rfl 16 rfl ?_
    refine v_get X (C := RX12) (T := TX12) (N := 22) (ci := 11) (v := _) dX12_minutesLeft_16 (lay_of laym_X12) 0 rfl rfl 0 (by decide) (mw wm_304) rfl rfl 19 rfl ?_
    refine v_iload_n X dX12_minutesLeft_19 1 rfl rfl 20 rfl ?_
    obtain ⟨o2, ho2, hf⟩ := bnd hf
    refine v_callSi X (As := [.ref (ad 1), .int v1]) (rest := [.ref (ad 1), .int 0]) (ws' := (wX12 ad c9 m_undoable m_undoStart o1.2 m_inputLength m_position m_start m_token m_value m_letters m_code m_place m_outputLength m_s m_parsed m_tried m_remembered m_slots m_kept m_away m_input m_halfway m_output)) (c_X12_find l hG D c9 (ad 1) m_s v1 ho2) 2 (gS wm_174 wm_175 wm_37 wm_176) rfl rfl rfl pd_X12_find ⟨Nat.le_of_ble_eq_true rfl, Nat.le_of_ble_eq_true rfl⟩ rfl rfl (Nat.le_of_ble_eq_true rfl) ⟨Nat.zero_le _, Nat.zero_le _⟩ [1] [0, 2, 3, 4, 5, 6, 7, 8, 9, 10] [0, 10, 1, 2, 3, 4, 5, 6, 7, 8, 9] rfl rfl rfl rfl dX12_minutesLeft_20 23 rfl ?_
    obtain ⟨o3, ho3, hf⟩ := bnd hf
    refine v_callSi X (As := [.int o2]) (rest := [.ref (ad 1), .int 0]) (ws' := (wX12 ad c9 m_undoable m_undoStart o1.2 m_inputLength m_position m_start m_token m_value m_letters m_code m_place m_outputLength m_s m_parsed m_tried m_remembered m_slots m_kept m_away m_input m_halfway m_output)) (c_X12_ofTicket l hG D c9 o2 ho3) 1 (gS wm_55 wm_56 wm_37 wm_57) rfl rfl rfl pd_X12_ofTicket ⟨Nat.le_of_ble_eq_true rfl, Nat.le_of_ble_eq_true rfl⟩ rfl rfl (Nat.le_of_ble_eq_true rfl) ⟨Nat.zero_le _, Nat.zero_le _⟩ [] [0, 1, 2, 3, 4, 5, 6, 7, 8, 9, 10] [0, 1, 2, 3, 4, 5, 6, 7, 8, 9, 10] rfl rfl rfl rfl dX12_minutesLeft_23 26 rfl ?_
    refine v_bipush X dX12_minutesLeft_26 bp_6 28 rfl ?_
    refine v_iadd X dX12_minutesLeft_28 29 rfl ?_
    obtain ⟨x4, hx4, hf⟩ := bnd hf
    refine v_iald X dX12_minutesLeft_29 1 0 rfl rfl hx4 30 rfl ?_
    refine v_aload_n X dX12_minutesLeft_30 0 rfl rfl 31 rfl ?_
    refine v_get X (C := RX12) (T := TX12) (N := 22) (ci := 11) (v := _) dX12_minutesLeft_31 (lay_of laym_X12) 0 rfl rfl 0 (by decide) (mw wm_304) rfl rfl 34 rfl ?_
    refine v_iconst X dX12_minutesLeft_34 ic_0 35 rfl ?_
    obtain ⟨x5, hx5, hf⟩ := bnd hf
    refine v_iald X dX12_minutesLeft_35 1 0 rfl rfl hx5 36 rfl ?_
    refine v_isub X dX12_minutesLeft_36 37 rfl ?_
    obtain ⟨o6, ho6, hf⟩ := bnd hf
    refine v_callSi X (As := [.int 0, .int (x4 - x5)]) (rest := []) (ws' := (wX12 ad c9 m_undoable m_undoStart o1.2 m_inputLength m_position m_start m_token m_value m_letters m_code m_place m_outputLength m_s m_parsed m_tried m_remembered m_slots m_kept m_away m_input m_halfway m_output)) (c_X12_greater l hG D c9 0 (x4 - x5) ho6) 2 (gS wm_61 wm_62 wm_37 wm_63) rfl rfl rfl pd_X12_greater ⟨Nat.le_of_ble_eq_true rfl, Nat.le_of_ble_eq_true rfl⟩ rfl rfl (Nat.le_of_ble_eq_true rfl) ⟨Nat.zero_le _, Nat.zero_le _⟩ [] [0, 1, 2, 3, 4, 5, 6, 7, 8, 9, 10] [0, 1, 2, 3, 4, 5, 6, 7, 8, 9, 10] rfl rfl rfl rfl dX12_minutesLeft_37 40 rfl ?_
    obtain rfl := Option.some.inj hf
    exact v_iret X (Nat.zero_le _) (Nat.zero_le _) dX12_minutesLeft_40
  · refine v_iconst X dX12_minutesLeft_8 ic_0 9 rfl ?_
    obtain rfl := Option.some.inj hf
    exact v_iret X (Nat.zero_le _) (Nat.zero_le _) dX12_minutesLeft_9
theorem pd_X12_minutesLeft : yX12_minutesLeft.cls ≠ "java/lang/invoke/MethodHandle" ∧ yX12_minutesLeft.cls ≠ "java/lang/invoke/VarHandle" ∧ (parseMethodDescriptor yX12_minutesLeft.desc).map (fun d => d.parameters.length) = some 1 := by decide +kernel
def f_X12_loginRefusal (m_thrown : Int32) (m_s : Nat → Int32) (v1 : Int32) (v2 : Int32) : Option (Int32 × Int32) :=
  (f_X12_noUser m_thrown m_s v1).bind fun o1 =>
  if o1.1 = 0 then (
    (f_X12_out o1.2 v2 0 9999).bind fun o2 =>
    if o2.1 = 0 then (
      (f_X12_whyNotLogin m_s v1 v2).bind fun o3 =>
      some (o3, o2.2))
    else (
      some (0, o2.2)))
  else (
    some (0, o1.2))
set_option maxRecDepth 100000 in
set_option maxHeartbeats 4000000 in
theorem c_X12_loginRefusal (l : Launch) {G : (Nat → Prop) → State → Heap → Prop} (hG : vG G) (D : va_G) (c9 : Nat → ClassId) (ad : Nat → Nat) (m_undoable : Int32) (m_undoStart : Int32) (m_thrown : Int32) (m_inputLength : Int32) (m_position : Int32) (m_start : Int32) (m_token : Int32) (m_value : Int32) (m_letters : Int32) (m_code : Int32) (m_place : Int32) (m_outputLength : Int32) (m_s : Nat → Int32) (m_parsed : Nat → Int32) (m_tried : Nat → Int32) (m_remembered : Nat → Int32) (m_slots : Nat → Int32) (m_kept : Nat → Int32) (m_away : Nat → Int32) (m_input : Nat → Int32) (m_halfway : Nat → Int32) (m_output : Nat → Int32) (v1 : Int32) (v2 : Int32) {o : Int32 × Int32} (hf : f_X12_loginRefusal m_thrown m_s v1 v2 = some o) : mI l yX12_loginRefusal (wq yX12_loginRefusal cX12_loginRefusal 3 (some .int)) { frames := 4, cells := 0, slots := 0, locals := 87 } G D (tyA c9) [.ref (ad 0), .int v1, .int v2] (wX12 ad c9 m_undoable m_undoStart m_thrown m_inputLength m_position m_start m_token m_value m_letters m_code m_place m_outputLength m_s m_parsed m_tried m_remembered m_slots m_kept m_away m_input m_halfway m_output) [] 0 0 o.1 (wX12 ad c9 m_undoable m_undoStart o.2 m_inputLength m_position m_start m_token m_value m_letters m_code m_place m_outputLength m_s m_parsed m_tried m_remembered m_slots m_kept m_away m_input m_halfway m_output) := by
  refine mI_of hG (cc := cX12_loginRefusal) (maxL := 3) (ty := .int) (by decide) rfl (Nat.le_of_ble_eq_true rfl) ?_
  intro p e s m args below meth c A X
  have X : vX p s m args meth c cX12_loginRefusal 3 (some .int) RX12 (wq yX12_loginRefusal cX12_loginRefusal 3 (some .int)) D (tyA c9) G A := X
  refine v_eq (lv2 := [(0, .ref (ad 0)), (1, .int v1), (2, .int v2)]) rfl rfl rfl rfl ?_
  rw [f_X12_loginRefusal] at hf
  refine v_aload_n X dX12_loginRefusal_0 0 rfl rfl 1 rfl ?_
  refine v_iload_n X dX12_loginRefusal_1 1 rfl rfl 2 rfl ?_
  obtain ⟨o1, ho1, hf⟩ := bnd hf
  refine v_callVi X (ci := 11) (T := TX12) (C := RX12) (As := [.int v1]) (rest := []) (ws' := (wX12 ad c9 m_undoable m_undoStart o1.2 m_inputLength m_position m_start m_token m_value m_letters m_code m_place m_outputLength m_s m_parsed m_tried m_remembered m_slots m_kept m_away m_input m_halfway m_output)) (c_X12_noUser l hG D c9 ad m_undoable m_undoStart m_thrown m_inputLength m_position m_start m_token m_value m_letters m_code m_place m_outputLength m_s m_parsed m_tried m_remembered m_slots m_kept m_away m_input m_halfway m_output v1 ho1) 1 (gV wm_329 wm_330 wm_331 wm_37 wm_332) rfl rfl rfl ⟨rfl, pd_X12_noUser⟩ ⟨Nat.le_of_ble_eq_true rfl, Nat.le_of_ble_eq_true rfl⟩ 0 rfl rfl rfl rfl (Nat.le_of_ble_eq_true rfl) ⟨Nat.zero_le _, Nat.zero_le _⟩ [0, 1, 2, 3, 4, 5, 6, 7, 8, 9, 10] [] [0, 1, 2, 3, 4, 5, 6, 7, 8, 9, 10] rfl rfl rfl rfl dX12_loginRefusal_2 5 rfl ?_
  refine v_if_ne X (tgt := 20) dX12_loginRefusal_5 rfl 8 rfl hf (fun hf => ?_) (fun hf => ?_)
  · refine v_iconst X dX12_loginRefusal_20 ic_0 21 rfl ?_
    obtain rfl := Option.some.inj hf
    exact v_iret X (Nat.zero_le _) (Nat.zero_le _) dX12_loginRefusal_21
  · refine v_aload_n X dX12_loginRefusal_8 0 rfl rfl 9 rfl ?_
    refine v_iload_n X dX12_loginRefusal_9 2 rfl rfl 10 rfl ?_
    refine v_iconst X dX12_loginRefusal_10 ic_0 11 rfl ?_
    refine v_sipush X dX12_loginRefusal_11 sp_9999 14 rfl ?_
    obtain ⟨o2, ho2, hf⟩ := bnd hf
    refine v_callVi X (ci := 11) (T := TX12) (C := RX12) (As := [.int v2, .int 0, .int 9999]) (rest := []) (ws' := (wX12 ad c9 m_undoable m_undoStart o2.2 m_inputLength m_position m_start m_token m_value m_letters m_code m_place m_outputLength m_s m_parsed m_tried m_remembered m_slots m_kept m_away m_input m_halfway m_output)) (c_X12_out l hG D c9 ad m_undoable m_undoStart o1.2 m_inputLength m_position m_start m_token m_value m_letters m_code m_place m_outputLength m_s m_parsed m_tried m_remembered m_slots m_kept m_away m_input m_halfway m_output v2 0 9999 ho2) 3 (gV wm_345 wm_346 wm_347 wm_37 wm_348) rfl rfl rfl ⟨rfl, pd_X12_out⟩ ⟨Nat.le_of_ble_eq_true rfl, Nat.le_of_ble_eq_true rfl⟩ 0 rfl rfl rfl rfl (Nat.le_of_ble_eq_true rfl) ⟨Nat.zero_le _, Nat.zero_le _⟩ [0, 1, 2, 3, 4, 5, 6, 7, 8, 9, 10] [] [0, 1, 2, 3, 4, 5, 6, 7, 8, 9, 10] rfl rfl rfl rfl dX12_loginRefusal_14 17 rfl ?_
    refine v_if_eq X (tgt := 22) dX12_loginRefusal_17 rfl 20 rfl hf (fun hf => ?_) (fun hf => ?_)
    · refine v_aload_n X dX12_loginRefusal_22 0 rfl rfl 23 rfl ?_
      refine v_get X (C := RX12) (T := TX12) (N := 22) (ci := 11) (v := _) dX12_loginRefusal_23 (lay_of laym_X12) 0 rfl rfl 0 (by decide) (mw wm_304) rfl rfl 26 rfl ?_
      refine v_iload_n X dX12_loginRefusal_26 1 rfl rfl 27 rfl ?_
      refine v_iload_n X dX12_loginRefusal_27 2 rfl rfl 28 rfl ?_
      obtain ⟨o3, ho3, hf⟩ := bnd hf
      refine v_callSi X (As := [.ref (ad 1), .int v1, .int v2]) (rest := []) (ws' := (wX12 ad c9 m_undoable m_undoStart o2.2 m_inputLength m_position m_start m_token m_value m_letters m_code m_place m_outputLength m_s m_parsed m_tried m_remembered m_slots m_kept m_away m_input m_halfway m_output)) (c_X12_whyNotLogin l hG D c9 (ad 1) m_s v1 v2 ho3) 3 (gS wm_209 wm_210 wm_37 wm_211) rfl rfl rfl pd_X12_whyNotLogin ⟨Nat.le_of_ble_eq_true rfl, Nat.le_of_ble_eq_true rfl⟩ rfl rfl (Nat.le_of_ble_eq_true rfl) ⟨Nat.zero_le _, Nat.zero_le _⟩ [1] [0, 2, 3, 4, 5, 6, 7, 8, 9, 10] [0, 10, 1, 2, 3, 4, 5, 6, 7, 8, 9] rfl rfl rfl rfl dX12_loginRefusal_28 31 rfl ?_
      obtain rfl := Option.some.inj hf
      exact v_iret X (Nat.zero_le _) (Nat.zero_le _) dX12_loginRefusal_31
    · refine v_iconst X dX12_loginRefusal_20 ic_0 21 rfl ?_
      obtain rfl := Option.some.inj hf
      exact v_iret X (Nat.zero_le _) (Nat.zero_le _) dX12_loginRefusal_21
theorem pd_X12_loginRefusal : yX12_loginRefusal.cls ≠ "java/lang/invoke/MethodHandle" ∧ yX12_loginRefusal.cls ≠ "java/lang/invoke/VarHandle" ∧ (parseMethodDescriptor yX12_loginRefusal.desc).map (fun d => d.parameters.length) = some 2 := by decide +kernel
def f_X12_referRefusal (m_thrown : Int32) (m_s : Nat → Int32) (v1 : Int32) (v2 : Int32) : Option (Int32 × Int32) :=
  (f_X12_noTicket m_thrown m_s v1).bind fun o1 =>
  if o1.1 = 0 then (
    (rd m_s 463 3).bind fun x2 =>
    (f_X12_out o1.2 v2 0 (x2 - 1)).bind fun o3 =>
    if o3.1 = 0 then (
      (f_X12_find m_s v1).bind fun o4 =>
      (f_X12_whyNotRefer m_s o4 v2).bind fun o5 =>
      some (o5, o3.2))
    else (
      some (0, o3.2)))
  else (
    some (0, o1.2))
set_option maxRecDepth 100000 in
set_option maxHeartbeats 4000000 in
theorem c_X12_referRefusal (l : Launch) {G : (Nat → Prop) → State → Heap → Prop} (hG : vG G) (D : va_G) (c9 : Nat → ClassId) (ad : Nat → Nat) (m_undoable : Int32) (m_undoStart : Int32) (m_thrown : Int32) (m_inputLength : Int32) (m_position : Int32) (m_start : Int32) (m_token : Int32) (m_value : Int32) (m_letters : Int32) (m_code : Int32) (m_place : Int32) (m_outputLength : Int32) (m_s : Nat → Int32) (m_parsed : Nat → Int32) (m_tried : Nat → Int32) (m_remembered : Nat → Int32) (m_slots : Nat → Int32) (m_kept : Nat → Int32) (m_away : Nat → Int32) (m_input : Nat → Int32) (m_halfway : Nat → Int32) (m_output : Nat → Int32) (v1 : Int32) (v2 : Int32) {o : Int32 × Int32} (hf : f_X12_referRefusal m_thrown m_s v1 v2 = some o) : mI l yX12_referRefusal (wq yX12_referRefusal cX12_referRefusal 3 (some .int)) { frames := 5, cells := 0, slots := 0, locals := 110 } G D (tyA c9) [.ref (ad 0), .int v1, .int v2] (wX12 ad c9 m_undoable m_undoStart m_thrown m_inputLength m_position m_start m_token m_value m_letters m_code m_place m_outputLength m_s m_parsed m_tried m_remembered m_slots m_kept m_away m_input m_halfway m_output) [] 0 0 o.1 (wX12 ad c9 m_undoable m_undoStart o.2 m_inputLength m_position m_start m_token m_value m_letters m_code m_place m_outputLength m_s m_parsed m_tried m_remembered m_slots m_kept m_away m_input m_halfway m_output) := by
  refine mI_of hG (cc := cX12_referRefusal) (maxL := 3) (ty := .int) (by decide) rfl (Nat.le_of_ble_eq_true rfl) ?_
  intro p e s m args below meth c A X
  have X : vX p s m args meth c cX12_referRefusal 3 (some .int) RX12 (wq yX12_referRefusal cX12_referRefusal 3 (some .int)) D (tyA c9) G A := X
  refine v_eq (lv2 := [(0, .ref (ad 0)), (1, .int v1), (2, .int v2)]) rfl rfl rfl rfl ?_
  rw [f_X12_referRefusal] at hf
  refine v_aload_n X dX12_referRefusal_0 0 rfl rfl 1 rfl ?_
  refine v_iload_n X dX12_referRefusal_1 1 rfl rfl 2 rfl ?_
  obtain ⟨o1, ho1, hf⟩ := bnd hf
  refine v_callVi X (ci := 11) (T := TX12) (C := RX12) (As := [.int v1]) (rest := []) (ws' := (wX12 ad c9 m_undoable m_undoStart o1.2 m_inputLength m_position m_start m_token m_value m_letters m_code m_place m_outputLength m_s m_parsed m_tried m_remembered m_slots m_kept m_away m_input m_halfway m_output)) (c_X12_noTicket l hG D c9 ad m_undoable m_undoStart m_thrown m_inputLength m_position m_start m_token m_value m_letters m_code m_place m_outputLength m_s m_parsed m_tried m_remembered m_slots m_kept m_away m_input m_halfway m_output v1 ho1) 1 (gV wm_337 wm_338 wm_339 wm_37 wm_340) rfl rfl rfl ⟨rfl, pd_X12_noTicket⟩ ⟨Nat.le_of_ble_eq_true rfl, Nat.le_of_ble_eq_true rfl⟩ 0 rfl rfl rfl rfl (Nat.le_of_ble_eq_true rfl) ⟨Nat.zero_le _, Nat.zero_le _⟩ [0, 1, 2, 3, 4, 5, 6, 7, 8, 9, 10] [] [0, 1, 2, 3, 4, 5, 6, 7, 8, 9, 10] rfl rfl rfl rfl dX12_referRefusal_2 5 rfl ?_
  refine v_if_ne X (tgt := 25) dX12_referRefusal_5 rfl 8 rfl hf (fun hf => ?_) (fun hf => ?_)
  · refine v_iconst X dX12_referRefusal_25 ic_0 26 rfl ?_
    obtain rfl := Option.some.inj hf
    exact v_iret X (Nat.zero_le _) (Nat.zero_le _) dX12_referRefusal_26
  · refine v_aload_n X dX12_referRefusal_8 0 rfl rfl 9 rfl ?_
    refine v_iload_n X dX12_referRefusal_9 2 rfl rfl 10 rfl ?_
    refine v_iconst X dX12_referRefusal_10 ic_0 11 rfl ?_
    refine v_aload_n X dX12_referRefusal_11 0 rfl rfl 12 rfl ?_
    refine v_get X (C := RX12) (T := TX12) (N := 22) (ci := 11) (v := _) dX12_referRefusal_12 (lay_of laym_X12) 0 rfl rfl 0 (by decide) (mw wm_304) rfl rfl 15 rfl ?_
    refine v_iconst X dX12_referRefusal_15 ic_3 16 rfl ?_
    obtain ⟨x2, hx2, hf⟩ := bnd hf
    refine v_iald X dX12_referRefusal_16 1 0 rfl rfl hx2 17 rfl ?_
    refine v_iconst X dX12_referRefusal_17 ic_1 18 rfl ?_
    refine v_isub X dX12_referRefusal_18 19 rfl ?_
    obtain ⟨o3, ho3, hf⟩ := bnd hf
    refine v_callVi X (ci := 11) (T := TX12) (C := RX12) (As := [.int v2, .int 0, .int (x2 - 1)]) (rest := []) (ws' := (wX12 ad c9 m_undoable m_undoStart o3.2 m_inputLength m_position m_start m_token m_value m_letters m_code m_place m_outputLength m_s m_parsed m_tried m_remembered m_slots m_kept m_away m_input m_halfway m_output)) (c_X12_out l hG D c9 ad m_undoable m_undoStart o1.2 m_inputLength m_position m_start m_token m_value m_letters m_code m_place m_outputLength m_s m_parsed m_tried m_remembered m_slots m_kept m_away m_input m_halfway m_output v2 0 (x2 - 1) ho3) 3 (gV wm_345 wm_346 wm_347 wm_37 wm_348) rfl rfl rfl ⟨rfl, pd_X12_out⟩ ⟨Nat.le_of_ble_eq_true rfl, Nat.le_of_ble_eq_true rfl⟩ 0 rfl rfl rfl rfl (Nat.le_of_ble_eq_true rfl) ⟨Nat.zero_le _, Nat.zero_le _⟩ [0, 1, 2, 3, 4, 5, 6, 7, 8, 9, 10] [] [0, 1, 2, 3, 4, 5, 6, 7, 8, 9, 10] rfl rfl rfl rfl dX12_referRefusal_19 22 rfl ?_
    refine v_if_eq X (tgt := 27) dX12_referRefusal_22 rfl 25 rfl hf (fun hf => ?_) (fun hf => ?_)
    · refine v_aload_n X dX12_referRefusal_27 0 rfl rfl 28 rfl ?_
      refine v_get X (C := RX12) (T := TX12) (N := 22) (ci := 11) (v := _) dX12_referRefusal_28 (lay_of laym_X12) 0 rfl rfl 0 (by decide) (mw wm_304) rfl rfl 31 rfl ?_
      refine v_aload_n X dX12_referRefusal_31 0 rfl rfl 32 rfl ?_
      refine v_get X (C := RX12) (T := TX12) (N := 22) (ci := 11) (v := _) dX12_referRefusal_32 (lay_of laym_X12) 0 rfl rfl 0 (by decide) (mw wm_304) rfl rfl 35 rfl ?_
      refine v_iload_n X dX12_referRefusal_35 1 rfl rfl 36 rfl ?_
      obtain ⟨o4, ho4, hf⟩ := bnd hf
      refine v_callSi X (As := [.ref (ad 1), .int v1]) (rest := [.ref (ad 1)]) (ws' := (wX12 ad c9 m_undoable m_undoStart o3.2 m_inputLength m_position m_start m_token m_value m_letters m_code m_place m_outputLength m_s m_parsed m_tried m_remembered m_slots m_kept m_away m_input m_halfway m_output)) (c_X12_find l hG D c9 (ad 1) m_s v1 ho4) 2 (gS wm_174 wm_175 wm_37 wm_176) rfl rfl rfl pd_X12_find ⟨Nat.le_of_ble_eq_true rfl, Nat.le_of_ble_eq_true rfl⟩ rfl rfl (Nat.le_of_ble_eq_true rfl) ⟨Nat.zero_le _, Nat.zero_le _⟩ [1] [0, 2, 3, 4, 5, 6, 7, 8, 9, 10] [0, 10, 1, 2, 3, 4, 5, 6, 7, 8, 9] rfl rfl rfl rfl dX12_referRefusal_36 39 rfl ?_
      refine v_iload_n X dX12_referRefusal_39 2 rfl rfl 40 rfl ?_
      obtain ⟨o5, ho5, hf⟩ := bnd hf
      refine v_callSi X (As := [.ref (ad 1), .int o4, .int v2]) (rest := []) (ws' := (wX12 ad c9 m_undoable m_undoStart o3.2 m_inputLength m_position m_start m_token m_value m_letters m_code m_place m_outputLength m_s m_parsed m_tried m_remembered m_slots m_kept m_away m_input m_halfway m_output)) (c_X12_whyNotRefer l hG D c9 (ad 1) m_s o4 v2 ho5) 3 (gS wm_219 wm_220 wm_37 wm_221) rfl rfl rfl pd_X12_whyNotRefer ⟨Nat.le_of_ble_eq_true rfl, Nat.le_of_ble_eq_true rfl⟩ rfl rfl (Nat.le_of_ble_eq_true rfl) ⟨Nat.zero_le _, Nat.zero_le _⟩ [1] [0, 2, 3, 4, 5, 6, 7, 8, 9, 10] [0, 10, 1, 2, 3, 4, 5, 6, 7, 8, 9] rfl rfl rfl rfl dX12_referRefusal_40 43 rfl ?_
      obtain rfl := Option.some.inj hf
      exact v_iret X (Nat.zero_le _) (Nat.zero_le _) dX12_referRefusal_43
    · refine v_iconst X dX12_referRefusal_25 ic_0 26 rfl ?_
      obtain rfl := Option.some.inj hf
      exact v_iret X (Nat.zero_le _) (Nat.zero_le _) dX12_referRefusal_26
theorem pd_X12_referRefusal : yX12_referRefusal.cls ≠ "java/lang/invoke/MethodHandle" ∧ yX12_referRefusal.cls ≠ "java/lang/invoke/VarHandle" ∧ (parseMethodDescriptor yX12_referRefusal.desc).map (fun d => d.parameters.length) = some 2 := by decide +kernel
def f_X12_requestRefusal (m_thrown : Int32) (m_s : Nat → Int32) (v1 : Int32) (v2 : Int32) : Option (Int32 × Int32) :=
  (f_X12_noTicket m_thrown m_s v1).bind fun o1 =>
  if o1.1 = 0 then (
    (rd m_s 463 5).bind fun x2 =>
    (f_X12_out o1.2 v2 0 (x2 - 1)).bind fun o3 =>
    if o3.1 = 0 then (
      (f_X12_find m_s v1).bind fun o4 =>
      (f_X12_whyNotRequest m_s o4 v2).bind fun o5 =>
      some (o5, o3.2))
    else (
      some (0, o3.2)))
  else (
    some (0, o1.2))
set_option maxRecDepth 100000 in
set_option maxHeartbeats 4000000 in
theorem c_X12_requestRefusal (l : Launch) {G : (Nat → Prop) → State → Heap → Prop} (hG : vG G) (D : va_G) (c9 : Nat → ClassId) (ad : Nat → Nat) (m_undoable : Int32) (m_undoStart : Int32) (m_thrown : Int32) (m_inputLength : Int32) (m_position : Int32) (m_start : Int32) (m_token : Int32) (m_value : Int32) (m_letters : Int32) (m_code : Int32) (m_place : Int32) (m_outputLength : Int32) (m_s : Nat → Int32) (m_parsed : Nat → Int32) (m_tried : Nat → Int32) (m_remembered : Nat → Int32) (m_slots : Nat → Int32) (m_kept : Nat → Int32) (m_away : Nat → Int32) (m_input : Nat → Int32) (m_halfway : Nat → Int32) (m_output : Nat → Int32) (v1 : Int32) (v2 : Int32) {o : Int32 × Int32} (hf : f_X12_requestRefusal m_thrown m_s v1 v2 = some o) : mI l yX12_requestRefusal (wq yX12_requestRefusal cX12_requestRefusal 3 (some .int)) { frames := 5, cells := 0, slots := 0, locals := 110 } G D (tyA c9) [.ref (ad 0), .int v1, .int v2] (wX12 ad c9 m_undoable m_undoStart m_thrown m_inputLength m_position m_start m_token m_value m_letters m_code m_place m_outputLength m_s m_parsed m_tried m_remembered m_slots m_kept m_away m_input m_halfway m_output) [] 0 0 o.1 (wX12 ad c9 m_undoable m_undoStart o.2 m_inputLength m_position m_start m_token m_value m_letters m_code m_place m_outputLength m_s m_parsed m_tried m_remembered m_slots m_kept m_away m_input m_halfway m_output) := by
  refine mI_of hG (cc := cX12_requestRefusal) (maxL := 3) (ty := .int) (by decide) rfl (Nat.le_of_ble_eq_true rfl) ?_
  intro p e s m args below meth c A X
  have X : vX p s m args meth c cX12_requestRefusal 3 (some .int) RX12 (wq yX12_requestRefusal cX12_requestRefusal 3 (some .int)) D (tyA c9) G A := X
  refine v_eq (lv2 := [(0, .ref (ad 0)), (1, .int v1), (2, .int v2)]) rfl rfl rfl rfl ?_
  rw [f_X12_requestRefusal] at hf
  refine v_aload_n X dX12_requestRefusal_0 0 rfl rfl 1 rfl ?_
  refine v_iload_n X dX12_requestRefusal_1 1 rfl rfl 2 rfl ?_
  obtain ⟨o1, ho1, hf⟩ := bnd hf
  refine v_callVi X (ci := 11) (T := TX12) (C := RX12) (As := [.int v1]) (rest := []) (ws' := (wX12 ad c9 m_undoable m_undoStart o1.2 m_inputLength m_position m_start m_token m_value m_letters m_code m_place m_outputLength m_s m_parsed m_tried m_remembered m_slots m_kept m_away m_input m_halfway m_output)) (c_X12_noTicket l hG D c9 ad m_undoable m_undoStart m_thrown m_inputLength m_position m_start m_token m_value m_letters m_code m_place m_outputLength m_s m_parsed m_tried m_remembered m_slots m_kept m_away m_input m_halfway m_output v1 ho1) 1 (gV wm_337 wm_338 wm_339 wm_37 wm_340) rfl rfl rfl ⟨rfl, pd_X12_noTicket⟩ ⟨Nat.le_of_ble_eq_true rfl, Nat.le_of_ble_eq_true rfl⟩ 0 rfl rfl rfl rfl (Nat.le_of_ble_eq_true rfl) ⟨Nat.zero_le _, Nat.zero_le _⟩ [0, 1, 2, 3, 4, 5, 6, 7, 8, 9, 10] [] [0, 1, 2, 3, 4, 5, 6, 7, 8, 9, 10] rfl rfl rfl rfl dX12_requestRefusal_2 5 rfl ?_
  refine v_if_ne X (tgt := 25) dX12_requestRefusal_5 rfl 8 rfl hf (fun hf => ?_) (fun hf => ?_)
  · refine v_iconst X dX12_requestRefusal_25 ic_0 26 rfl ?_
    obtain rfl := Option.some.inj hf
    exact v_iret X (Nat.zero_le _) (Nat.zero_le _) dX12_requestRefusal_26
  · refine v_aload_n X dX12_requestRefusal_8 0 rfl rfl 9 rfl ?_
    refine v_iload_n X dX12_requestRefusal_9 2 rfl rfl 10 rfl ?_
    refine v_iconst X dX12_requestRefusal_10 ic_0 11 rfl ?_
    refine v_aload_n X dX12_requestRefusal_11 0 rfl rfl 12 rfl ?_
    refine v_get X (C := RX12) (T := TX12) (N := 22) (ci := 11) (v := _) dX12_requestRefusal_12 (lay_of laym_X12) 0 rfl rfl 0 (by decide) (mw wm_304) rfl rfl 15 rfl ?_
    refine v_iconst X dX12_requestRefusal_15 ic_5 16 rfl ?_
    obtain ⟨x2, hx2, hf⟩ := bnd hf
    refine v_iald X dX12_requestRefusal_16 1 0 rfl rfl hx2 17 rfl ?_
    refine v_iconst X dX12_requestRefusal_17 ic_1 18 rfl ?_
    refine v_isub X dX12_requestRefusal_18 19 rfl ?_
    obtain ⟨o3, ho3, hf⟩ := bnd hf
    refine v_callVi X (ci := 11) (T := TX12) (C := RX12) (As := [.int v2, .int 0, .int (x2 - 1)]) (rest := []) (ws' := (wX12 ad c9 m_undoable m_undoStart o3.2 m_inputLength m_position m_start m_token m_value m_letters m_code m_place m_outputLength m_s m_parsed m_tried m_remembered m_slots m_kept m_away m_input m_halfway m_output)) (c_X12_out l hG D c9 ad m_undoable m_undoStart o1.2 m_inputLength m_position m_start m_token m_value m_letters m_code m_place m_outputLength m_s m_parsed m_tried m_remembered m_slots m_kept m_away m_input m_halfway m_output v2 0 (x2 - 1) ho3) 3 (gV wm_345 wm_346 wm_347 wm_37 wm_348) rfl rfl rfl ⟨rfl, pd_X12_out⟩ ⟨Nat.le_of_ble_eq_true rfl, Nat.le_of_ble_eq_true rfl⟩ 0 rfl rfl rfl rfl (Nat.le_of_ble_eq_true rfl) ⟨Nat.zero_le _, Nat.zero_le _⟩ [0, 1, 2, 3, 4, 5, 6, 7, 8, 9, 10] [] [0, 1, 2, 3, 4, 5, 6, 7, 8, 9, 10] rfl rfl rfl rfl dX12_requestRefusal_19 22 rfl ?_
    refine v_if_eq X (tgt := 27) dX12_requestRefusal_22 rfl 25 rfl hf (fun hf => ?_) (fun hf => ?_)
    · refine v_aload_n X dX12_requestRefusal_27 0 rfl rfl 28 rfl ?_
      refine v_get X (C := RX12) (T := TX12) (N := 22) (ci := 11) (v := _) dX12_requestRefusal_28 (lay_of laym_X12) 0 rfl rfl 0 (by decide) (mw wm_304) rfl rfl 31 rfl ?_
      refine v_aload_n X dX12_requestRefusal_31 0 rfl rfl 32 rfl ?_
      refine v_get X (C := RX12) (T := TX12) (N := 22) (ci := 11) (v := _) dX12_requestRefusal_32 (lay_of laym_X12) 0 rfl rfl 0 (by decide) (mw wm_304) rfl rfl 35 rfl ?_
      refine v_iload_n X dX12_requestRefusal_35 1 rfl rfl 36 rfl ?_
      obtain ⟨o4, ho4, hf⟩ := bnd hf
      refine v_callSi X (As := [.ref (ad 1), .int v1]) (rest := [.ref (ad 1)]) (ws' := (wX12 ad c9 m_undoable m_undoStart o3.2 m_inputLength m_position m_start m_token m_value m_letters m_code m_place m_outputLength m_s m_parsed m_tried m_remembered m_slots m_kept m_away m_input m_halfway m_output)) (c_X12_find l hG D c9 (ad 1) m_s v1 ho4) 2 (gS wm_174 wm_175 wm_37 wm_176) rfl rfl rfl pd_X12_find ⟨Nat.le_of_ble_eq_true rfl, Nat.le_of_ble_eq_true rfl⟩ rfl rfl (Nat.le_of_ble_eq_true rfl) ⟨Nat.zero_le _, Nat.zero_le _⟩ [1] [0, 2, 3, 4, 5, 6, 7, 8, 9, 10] [0, 10, 1, 2, 3, 4, 5, 6, 7, 8, 9] rfl rfl rfl rfl dX12_requestRefusal_36 39 rfl ?_
      refine v_iload_n X dX12_requestRefusal_39 2 rfl rfl 40 rfl ?_
      obtain ⟨o5, ho5, hf⟩ := bnd hf
      refine v_callSi X (As := [.ref (ad 1), .int o4, .int v2]) (rest := []) (ws' := (wX12 ad c9 m_undoable m_undoStart o3.2 m_inputLength m_position m_start m_token m_value m_letters m_code m_place m_outputLength m_s m_parsed m_tried m_remembered m_slots m_kept m_away m_input m_halfway m_output)) (c_X12_whyNotRequest l hG D c9 (ad 1) m_s o4 v2 ho5) 3 (gS wm_229 wm_230 wm_37 wm_231) rfl rfl rfl pd_X12_whyNotRequest ⟨Nat.le_of_ble_eq_true rfl, Nat.le_of_ble_eq_true rfl⟩ rfl rfl (Nat.le_of_ble_eq_true rfl) ⟨Nat.zero_le _, Nat.zero_le _⟩ [1] [0, 2, 3, 4, 5, 6, 7, 8, 9, 10] [0, 10, 1, 2, 3, 4, 5, 6, 7, 8, 9] rfl rfl rfl rfl dX12_requestRefusal_40 43 rfl ?_
      obtain rfl := Option.some.inj hf
      exact v_iret X (Nat.zero_le _) (Nat.zero_le _) dX12_requestRefusal_43
    · refine v_iconst X dX12_requestRefusal_25 ic_0 26 rfl ?_
      obtain rfl := Option.some.inj hf
      exact v_iret X (Nat.zero_le _) (Nat.zero_le _) dX12_requestRefusal_26
theorem pd_X12_requestRefusal : yX12_requestRefusal.cls ≠ "java/lang/invoke/MethodHandle" ∧ yX12_requestRefusal.cls ≠ "java/lang/invoke/VarHandle" ∧ (parseMethodDescriptor yX12_requestRefusal.desc).map (fun d => d.parameters.length) = some 2 := by decide +kernel
def f_X12_renewRefusal (m_thrown : Int32) (m_s : Nat → Int32) (v1 : Int32) : Option (Int32 × Int32) :=
  (f_X12_noTicket m_thrown m_s v1).bind fun o1 =>
  if o1.1 = 0 then (
    (f_X12_find m_s v1).bind fun o2 =>
    (f_X12_whyNotRenew m_s o2).bind fun o3 =>
    some (o3, o1.2))
  else (
    some (0, o1.2))
set_option maxRecDepth 100000 in
set_option maxHeartbeats 4000000 in
theorem c_X12_renewRefusal (l : Launch) {G : (Nat → Prop) → State → Heap → Prop} (hG : vG G) (D : va_G) (c9 : Nat → ClassId) (ad : Nat → Nat) (m_undoable : Int32) (m_undoStart : Int32) (m_thrown : Int32) (m_inputLength : Int32) (m_position : Int32) (m_start : Int32) (m_token : Int32) (m_value : Int32) (m_letters : Int32) (m_code : Int32) (m_place : Int32) (m_outputLength : Int32) (m_s : Nat → Int32) (m_parsed : Nat → Int32) (m_tried : Nat → Int32) (m_remembered : Nat → Int32) (m_slots : Nat → Int32) (m_kept : Nat → Int32) (m_away : Nat → Int32) (m_input : Nat → Int32) (m_halfway : Nat → Int32) (m_output : Nat → Int32) (v1 : Int32) {o : Int32 × Int32} (hf : f_X12_renewRefusal m_thrown m_s v1 = some o) : mI l yX12_renewRefusal (wq yX12_renewRefusal cX12_renewRefusal 2 (some .int)) { frames := 3, cells := 0, slots := 0, locals := 65 } G D (tyA c9) [.ref (ad 0), .int v1] (wX12 ad c9 m_undoable m_undoStart m_thrown m_inputLength m_position m_start m_token m_value m_letters m_code m_place m_outputLength m_s m_parsed m_tried m_remembered m_slots m_kept m_away m_input m_halfway m_output) [] 0 0 o.1 (wX12 ad c9 m_undoable m_undoStart o.2 m_inputLength m_position m_start m_token m_value m_letters m_code m_place m_outputLength m_s m_parsed m_tried m_remembered m_slots m_kept m_away m_input m_halfway m_output) := by
  refine mI_of hG (cc := cX12_renewRefusal) (maxL := 2) (ty := .int) (by decide) rfl (Nat.le_of_ble_eq_true rfl) ?_
  intro p e s m args below meth c A X
  have X : vX p s m args meth c cX12_renewRefusal 2 (some .int) RX12 (wq yX12_renewRefusal cX12_renewRefusal 2 (some .int)) D (tyA c9) G A := X
  refine v_eq (lv2 := [(0, .ref (ad 0)), (1, .int v1)]) rfl rfl rfl rfl ?_
  rw [f_X12_renewRefusal] at hf
  refine v_aload_n X dX12_renewRefusal_0 0 rfl rfl 1 rfl ?_
  refine v_iload_n X dX12_renewRefusal_1 1 rfl rfl 2 rfl ?_
  obtain ⟨o1, ho1, hf⟩ := bnd hf
  refine v_callVi X (ci := 11) (T := TX12) (C := RX12) (As := [.int v1]) (rest := []) (ws' := (wX12 ad c9 m_undoable m_undoStart o1.2 m_inputLength m_position m_start m_token m_value m_letters m_code m_place m_outputLength m_s m_parsed m_tried m_remembered m_slots m_kept m_away m_input m_halfway m_output)) (c_X12_noTicket l hG D c9 ad m_undoable m_undoStart m_thrown m_inputLength m_position m_start m_token m_value m_letters m_code m_place m_outputLength m_s m_parsed m_tried m_remembered m_slots m_kept m_away m_input m_halfway m_output v1 ho1) 1 (gV wm_337 wm_338 wm_339 wm_37 wm_340) rfl rfl rfl ⟨rfl, pd_X12_noTicket⟩ ⟨Nat.le_of_ble_eq_true rfl, Nat.le_of_ble_eq_true rfl⟩ 0 rfl rfl rfl rfl (Nat.le_of_ble_eq_true rfl) ⟨Nat.zero_le _, Nat.zero_le _⟩ [0, 1, 2, 3, 4, 5, 6, 7, 8, 9, 10] [] [0, 1, 2, 3, 4, 5, 6, 7, 8, 9, 10] rfl rfl rfl rfl dX12_renewRefusal_2 5 rfl ?_
  refine v_if_eq X (tgt := 10) dX12_renewRefusal_5 rfl 8 rfl hf (fun hf => ?_) (fun hf => ?_)
  · refine v_aload_n X dX12_renewRefusal_10 0 rfl rfl 11 rfl ?_
    refine v_get X (C := RX12) (T := TX12) (N := 22) (ci := 11) (v := _) dX12_renewRefusal_11 (lay_of laym_X12) 0 rfl rfl 0 (by decide) (mw wm_304) rfl rfl 14 rfl ?_
    refine v_aload_n X dX12_renewRefusal_14 0 rfl rfl 15 rfl ?_
    refine v_get X (C := RX12) (T := TX12) (N := 22) (ci := 11) (v := _) dX12_renewRefusal_15 (lay_of laym_X12) 0 rfl rfl 0 (by decide) (mw wm_304) rfl rfl 18 rfl ?_
    refine v_iload_n X dX12_renewRefusal_18 1 rfl rfl 19 rfl ?_
    obtain ⟨o2, ho2, hf⟩ := bnd hf
    refine v_callSi X (As := [.ref (ad 1), .int v1]) (rest := [.ref (ad 1)]) (ws' := (wX12 ad c9 m_undoable m_undoStart o1.2 m_inputLength m_position m_start m_token m_value m_letters m_code m_place m_outputLength m_s m_parsed m_tried m_remembered m_slots m_kept m_away m_input m_halfway m_output)) (c_X12_find l hG D c9 (ad 1) m_s v1 ho2) 2 (gS wm_174 wm_175 wm_37 wm_176) rfl rfl rfl pd_X12_find ⟨Nat.le_of_ble_eq_true rfl, Nat.le_of_ble_eq_true rfl⟩ rfl rfl (Nat.le_of_ble_eq_true rfl) ⟨Nat.zero_le _, Nat.zero_le _⟩ [1] [0, 2, 3, 4, 5, 6, 7, 8, 9, 10] [0, 10, 1, 2, 3, 4, 5, 6, 7, 8, 9] rfl rfl rfl rfl dX12_renewRefusal_19 22 rfl ?_
    obtain ⟨o3, ho3, hf⟩ := bnd hf
    refine v_callSi X (As := [.ref (ad 1), .int o2]) (rest := []) (ws' := (wX12 ad c9 m_undoable m_undoStart o1.2 m_inputLength m_position m_start m_token m_value m_letters m_code m_place m_outputLength m_s m_parsed m_tried m_remembered m_slots m_kept m_away m_input m_halfway m_output)) (c_X12_whyNotRenew l hG D c9 (ad 1) m_s o2 ho3) 2 (gS wm_232 wm_233 wm_37 wm_234) rfl rfl rfl pd_X12_whyNotRenew ⟨Nat.le_of_ble_eq_true rfl, Nat.le_of_ble_eq_true rfl⟩ rfl rfl (Nat.le_of_ble_eq_true rfl) ⟨Nat.zero_le _, Nat.zero_le _⟩ [1] [0, 2, 3, 4, 5, 6, 7, 8, 9, 10] [0, 10, 1, 2, 3, 4, 5, 6, 7, 8, 9] rfl rfl rfl rfl dX12_renewRefusal_22 25 rfl ?_
    obtain rfl := Option.some.inj hf
    exact v_iret X (Nat.zero_le _) (Nat.zero_le _) dX12_renewRefusal_25
  · refine v_iconst X dX12_renewRefusal_8 ic_0 9 rfl ?_
    obtain rfl := Option.some.inj hf
    exact v_iret X (Nat.zero_le _) (Nat.zero_le _) dX12_renewRefusal_9
theorem pd_X12_renewRefusal : yX12_renewRefusal.cls ≠ "java/lang/invoke/MethodHandle" ∧ yX12_renewRefusal.cls ≠ "java/lang/invoke/VarHandle" ∧ (parseMethodDescriptor yX12_renewRefusal.desc).map (fun d => d.parameters.length) = some 1 := by decide +kernel
def f_X12_cheeseRefusal (m_thrown : Int32) (m_s : Nat → Int32) (v1 : Int32) : Option (Int32 × Int32) :=
  (f_X12_noTicket m_thrown m_s v1).bind fun o1 =>
  if o1.1 = 0 then (
    (f_X12_find m_s v1).bind fun o2 =>
    (f_X12_whyNotCheese m_s o2).bind fun o3 =>
    some (o3, o1.2))
  else (
    some (0, o1.2))
set_option maxRecDepth 100000 in
set_option maxHeartbeats 4000000 in
theorem c_X12_cheeseRefusal (l : Launch) {G : (Nat → Prop) → State → Heap → Prop} (hG : vG G) (D : va_G) (c9 : Nat → ClassId) (ad : Nat → Nat) (m_undoable : Int32) (m_undoStart : Int32) (m_thrown : Int32) (m_inputLength : Int32) (m_position : Int32) (m_start : Int32) (m_token : Int32) (m_value : Int32) (m_letters : Int32) (m_code : Int32) (m_place : Int32) (m_outputLength : Int32) (m_s : Nat → Int32) (m_parsed : Nat → Int32) (m_tried : Nat → Int32) (m_remembered : Nat → Int32) (m_slots : Nat → Int32) (m_kept : Nat → Int32) (m_away : Nat → Int32) (m_input : Nat → Int32) (m_halfway : Nat → Int32) (m_output : Nat → Int32) (v1 : Int32) {o : Int32 × Int32} (hf : f_X12_cheeseRefusal m_thrown m_s v1 = some o) : mI l yX12_cheeseRefusal (wq yX12_cheeseRefusal cX12_cheeseRefusal 2 (some .int)) { frames := 4, cells := 0, slots := 0, locals := 87 } G D (tyA c9) [.ref (ad 0), .int v1] (wX12 ad c9 m_undoable m_undoStart m_thrown m_inputLength m_position m_start m_token m_value m_letters m_code m_place m_outputLength m_s m_parsed m_tried m_remembered m_slots m_kept m_away m_input m_halfway m_output) [] 0 0 o.1 (wX12 ad c9 m_undoable m_undoStart o.2 m_inputLength m_position m_start m_token m_value m_letters m_code m_place m_outputLength m_s m_parsed m_tried m_remembered m_slots m_kept m_away m_input m_halfway m_output) := by
  refine mI_of hG (cc := cX12_cheeseRefusal) (maxL := 2) (ty := .int) (by decide) rfl (Nat.le_of_ble_eq_true rfl) ?_
  intro p e s m args below meth c A X
  have X : vX p s m args meth c cX12_cheeseRefusal 2 (some .int) RX12 (wq yX12_cheeseRefusal cX12_cheeseRefusal 2 (some .int)) D (tyA c9) G A := X
  refine v_eq (lv2 := [(0, .ref (ad 0)), (1, .int v1)]) rfl rfl rfl rfl ?_
  rw [f_X12_cheeseRefusal] at hf
  refine v_aload_n X dX12_cheeseRefusal_0 0 rfl rfl 1 rfl ?_
  refine v_iload_n X dX12_cheeseRefusal_1 1 rfl rfl 2 rfl ?_
  obtain ⟨o1, ho1, hf⟩ := bnd hf
  refine v_callVi X (ci := 11) (T := TX12) (C := RX12) (As := [.int v1]) (rest := []) (ws' := (wX12 ad c9 m_undoable m_undoStart o1.2 m_inputLength m_position m_start m_token m_value m_letters m_code m_place m_outputLength m_s m_parsed m_tried m_remembered m_slots m_kept m_away m_input m_halfway m_output)) (c_X12_noTicket l hG D c9 ad m_undoable m_undoStart m_thrown m_inputLength m_position m_start m_token m_value m_letters m_code m_place m_outputLength m_s m_parsed m_tried m_remembered m_slots m_kept m_away m_input m_halfway m_output v1 ho1) 1 (gV wm_337 wm_338 wm_339 wm_37 wm_340) rfl rfl rfl ⟨rfl, pd_X12_noTicket⟩ ⟨Nat.le_of_ble_eq_true rfl, Nat.le_of_ble_eq_true rfl⟩ 0 rfl rfl rfl rfl (Nat.le_of_ble_eq_true rfl) ⟨Nat.zero_le _, Nat.zero_le _⟩ [0, 1, 2, 3, 4, 5, 6, 7, 8, 9, 10] [] [0, 1, 2, 3, 4, 5, 6, 7, 8, 9, 10] rfl rfl rfl rfl dX12_cheeseRefusal_2 5 rfl ?_
  refine v_if_eq X (tgt := 10) dX12_cheeseRefusal_5 rfl 8 rfl hf (fun hf => ?_) (fun hf => ?_)
  · refine v_aload_n X dX12_cheeseRefusal_10 0 rfl rfl 11 rfl ?_
    refine v_get X (C := RX12) (T := TX12) (N := 22) (ci := 11) (v := _) dX12_cheeseRefusal_11 (lay_of laym_X12) 0 rfl rfl 0 (by decide) (mw wm_304) rfl rfl 14 rfl ?_
    refine v_aload_n X dX12_cheeseRefusal_14 0 rfl rfl 15 rfl ?_
    refine v_get X (C := RX12) (T := TX12) (N := 22) (ci := 11) (v := _) dX12_cheeseRefusal_15 (lay_of laym_X12) 0 rfl rfl 0 (by decide) (mw wm_304) rfl rfl 18 rfl ?_
    refine v_iload_n X dX12_cheeseRefusal_18 1 rfl rfl 19 rfl ?_
    obtain ⟨o2, ho2, hf⟩ := bnd hf
    refine v_callSi X (As := [.ref (ad 1), .int v1]) (rest := [.ref (ad 1)]) (ws' := (wX12 ad c9 m_undoable m_undoStart o1.2 m_inputLength m_position m_start m_token m_value m_letters m_code m_place m_outputLength m_s m_parsed m_tried m_remembered m_slots m_kept m_away m_input m_halfway m_output)) (c_X12_find l hG D c9 (ad 1) m_s v1 ho2) 2 (gS wm_174 wm_175 wm_37 wm_176) rfl rfl rfl pd_X12_find ⟨Nat.le_of_ble_eq_true rfl, Nat.le_of_ble_eq_true rfl⟩ rfl rfl (Nat.le_of_ble_eq_true rfl) ⟨Nat.zero_le _, Nat.zero_le _⟩ [1] [0, 2, 3, 4, 5, 6, 7, 8, 9, 10] [0, 10, 1, 2, 3, 4, 5, 6, 7, 8, 9] rfl rfl rfl rfl dX12_cheeseRefusal_19 22 rfl ?_
    obtain ⟨o3, ho3, hf⟩ := bnd hf
    refine v_callSi X (As := [.ref (ad 1), .int o2]) (rest := []) (ws' := (wX12 ad c9 m_undoable m_undoStart o1.2 m_inputLength m_position m_start m_token m_value m_letters m_code m_place m_outputLength m_s m_parsed m_tried m_remembered m_slots m_kept m_away m_input m_halfway m_output)) (c_X12_whyNotCheese l hG D c9 (ad 1) m_s o2 ho3) 2 (gS wm_238 wm_239 wm_37 wm_240) rfl rfl rfl pd_X12_whyNotCheese ⟨Nat.le_of_ble_eq_true rfl, Nat.le_of_ble_eq_true rfl⟩ rfl rfl (Nat.le_of_ble_eq_true rfl) ⟨Nat.zero_le _, Nat.zero_le _⟩ [1] [0, 2, 3, 4, 5, 6, 7, 8, 9, 10] [0, 10, 1, 2, 3, 4, 5, 6, 7, 8, 9] rfl rfl rfl rfl dX12_cheeseRefusal_22 25 rfl ?_
    obtain rfl := Option.some.inj hf
    exact v_iret X (Nat.zero_le _) (Nat.zero_le _) dX12_cheeseRefusal_25
  · refine v_iconst X dX12_cheeseRefusal_8 ic_0 9 rfl ?_
    obtain rfl := Option.some.inj hf
    exact v_iret X (Nat.zero_le _) (Nat.zero_le _) dX12_cheeseRefusal_9
theorem pd_X12_cheeseRefusal : yX12_cheeseRefusal.cls ≠ "java/lang/invoke/MethodHandle" ∧ yX12_cheeseRefusal.cls ≠ "java/lang/invoke/VarHandle" ∧ (parseMethodDescriptor yX12_cheeseRefusal.desc).map (fun d => d.parameters.length) = some 1 := by decide +kernel
def f_X12_validTickets (m_thrown : Int32) (m_s : Nat → Int32) : Option (Int32 × Int32) :=
  (f_X12_living m_s).bind fun o1 =>
  some (o1, 0)
set_option maxRecDepth 100000 in
set_option maxHeartbeats 4000000 in
theorem c_X12_validTickets (l : Launch) {G : (Nat → Prop) → State → Heap → Prop} (hG : vG G) (D : va_G) (c9 : Nat → ClassId) (ad : Nat → Nat) (m_undoable : Int32) (m_undoStart : Int32) (m_thrown : Int32) (m_inputLength : Int32) (m_position : Int32) (m_start : Int32) (m_token : Int32) (m_value : Int32) (m_letters : Int32) (m_code : Int32) (m_place : Int32) (m_outputLength : Int32) (m_s : Nat → Int32) (m_parsed : Nat → Int32) (m_tried : Nat → Int32) (m_remembered : Nat → Int32) (m_slots : Nat → Int32) (m_kept : Nat → Int32) (m_away : Nat → Int32) (m_input : Nat → Int32) (m_halfway : Nat → Int32) (m_output : Nat → Int32)  {o : Int32 × Int32} (hf : f_X12_validTickets m_thrown m_s = some o) : mI l yX12_validTickets (wq yX12_validTickets cX12_validTickets 1 (some .int)) { frames := 3, cells := 0, slots := 0, locals := 63 } G D (tyA c9) [.ref (ad 0)] (wX12 ad c9 m_undoable m_undoStart m_thrown m_inputLength m_position m_start m_token m_value m_letters m_code m_place m_outputLength m_s m_parsed m_tried m_remembered m_slots m_kept m_away m_input m_halfway m_output) [] 0 0 o.1 (wX12 ad c9 m_undoable m_undoStart o.2 m_inputLength m_position m_start m_token m_value m_letters m_code m_place m_outputLength m_s m_parsed m_tried m_remembered m_slots m_kept m_away m_input m_halfway m_output) := by
  refine mI_of hG (cc := cX12_validTickets) (maxL := 1) (ty := .int) (by decide) rfl (Nat.le_of_ble_eq_true rfl) ?_
  intro p e s m args below meth c A X
  have X : vX p s m args meth c cX12_validTickets 1 (some .int) RX12 (wq yX12_validTickets cX12_validTickets 1 (some .int)) D (tyA c9) G A := X
  refine v_eq (lv2 := [(0, .ref (ad 0))]) rfl rfl rfl rfl ?_
  rw [f_X12_validTickets] at hf
  refine v_aload_n X dX12_validTickets_0 0 rfl rfl 1 rfl ?_
  refine v_iconst X dX12_validTickets_1 ic_0 2 rfl ?_
  refine v_put X (C := RX12) (T := TX12) (N := 22) (ci := 11) (ty := tyX12 8) (ws' := (wX12 ad c9 m_undoable m_undoStart 0 m_inputLength m_position m_start m_token m_value m_letters m_code m_place m_outputLength m_s m_parsed m_tried m_remembered m_slots m_kept m_away m_input m_halfway m_output)) dX12_validTickets_2 (lay_of laym_X12) 0 rfl rfl 8 (by decide) tyX12 tyX12_ok nmX12 (mw wm_33) rfl rfl (tyX12_ok 8 (by decide)) rfl rfl (Nat.le_of_ble_eq_true rfl) rfl 5 rfl ?_
  refine v_aload_n X dX12_validTickets_5 0 rfl rfl 6 rfl ?_
  refine v_get X (C := RX12) (T := TX12) (N := 22) (ci := 11) (v := _) dX12_validTickets_6 (lay_of laym_X12) 0 rfl rfl 0 (by decide) (mw wm_304) rfl rfl 9 rfl ?_
  obtain ⟨o1, ho1, hf⟩ := bnd hf
  refine v_callSi X (As := [.ref (ad 1)]) (rest := []) (ws' := (wX12 ad c9 m_undoable m_undoStart 0 m_inputLength m_position m_start m_token m_value m_letters m_code m_place m_outputLength m_s m_parsed m_tried m_remembered m_slots m_kept m_away m_input m_halfway m_output)) (c_X12_living l hG D c9 (ad 1) m_s ho1) 1 (gS wm_97 wm_98 wm_37 wm_99) rfl rfl rfl pd_X12_living ⟨Nat.le_of_ble_eq_true rfl, Nat.le_of_ble_eq_true rfl⟩ rfl rfl (Nat.le_of_ble_eq_true rfl) ⟨Nat.zero_le _, Nat.zero_le _⟩ [1] [0, 2, 3, 4, 5, 6, 7, 8, 9, 10] [0, 10, 1, 2, 3, 4, 5, 6, 7, 8, 9] rfl rfl rfl rfl dX12_validTickets_9 12 rfl ?_
  obtain rfl := Option.some.inj hf
  exact v_iret X (Nat.zero_le _) (Nat.zero_le _) dX12_validTickets_12
theorem pd_X12_validTickets : yX12_validTickets.cls ≠ "java/lang/invoke/MethodHandle" ∧ yX12_validTickets.cls ≠ "java/lang/invoke/VarHandle" ∧ (parseMethodDescriptor yX12_validTickets.desc).map (fun d => d.parameters.length) = some 0 := by decide +kernel
