def f_X12_remember (m_undoable : Int32) (m_undoStart : Int32) (m_s : Nat → Int32) (m_remembered : Nat → Int32) : Option (Int32 × Int32 × (Nat → Int32)) :=
  Option.bind (if m_undoable = 8 then (
    some ((m_undoable - 1), (irm (m_undoStart + 1) 8)))
  else (
    some (m_undoable, m_undoStart)) : Option (Int32 × Int32)) fun j1 =>
  (f_X12_copyRow 463 3704 m_s m_remembered 0 (463 * (irm (j1.2 + j1.1) 8))).bind fun o2 =>
  some ((j1.1 + 1), j1.2, o2)
set_option maxRecDepth 100000 in
set_option maxHeartbeats 4000000 in
theorem c_X12_remember (l : Launch) {G : (Nat → Prop) → State → Heap → Prop} (hG : vG G) (D : va_G) (c9 : Nat → ClassId) (ad : Nat → Nat) (m_undoable : Int32) (m_undoStart : Int32) (m_thrown : Int32) (m_inputLength : Int32) (m_position : Int32) (m_start : Int32) (m_token : Int32) (m_value : Int32) (m_letters : Int32) (m_code : Int32) (m_place : Int32) (m_outputLength : Int32) (m_s : Nat → Int32) (m_parsed : Nat → Int32) (m_tried : Nat → Int32) (m_remembered : Nat → Int32) (m_slots : Nat → Int32) (m_kept : Nat → Int32) (m_away : Nat → Int32) (m_input : Nat → Int32) (m_halfway : Nat → Int32) (m_output : Nat → Int32)  {o : Int32 × Int32 × (Nat → Int32)} (hf : f_X12_remember m_undoable m_undoStart m_s m_remembered = some o) : mV l yX12_remember (wq yX12_remember cX12_remember 1 none) { frames := 1, cells := 0, slots := 0, locals := 24 } G D (tyA c9) [.ref (ad 0)] (wX12 ad c9 m_undoable m_undoStart m_thrown m_inputLength m_position m_start m_token m_value m_letters m_code m_place m_outputLength m_s m_parsed m_tried m_remembered m_slots m_kept m_away m_input m_halfway m_output) [] 0 0 (wX12 ad c9 o.1 o.2.1 m_thrown m_inputLength m_position m_start m_token m_value m_letters m_code m_place m_outputLength m_s m_parsed m_tried o.2.2 m_slots m_kept m_away m_input m_halfway m_output) := by
  refine mV_of hG (cc := cX12_remember) (maxL := 1) (by decide) rfl (Nat.le_of_ble_eq_true rfl) ?_
  intro p e s m args below meth c A hnm X
  have X : vX p s m args meth c cX12_remember 1 none RX12 (wq yX12_remember cX12_remember 1 none) D (tyA c9) G A := X
  refine v_eq (lv2 := [(0, .ref (ad 0))]) rfl rfl rfl rfl ?_
  rw [f_X12_remember] at hf
  refine v_aload_n X dX12_remember_0 0 rfl rfl 1 rfl ?_
  refine v_get X (C := RX12) (T := TX12) (N := 22) (ci := 11) (v := _) dX12_remember_1 (lay_of laym_X12) 0 rfl rfl 6 (by decide) (mw wm_302) rfl rfl 4 rfl ?_
  refine v_bipush X dX12_remember_4 bp_8 6 rfl ?_
  obtain ⟨j1, hj1, hf⟩ := bnd hf
  have Jj1 : vW p l e { frames := 1, cells := 0, slots := 0, locals := 24 } s m args below meth c 1 D A [] 0 0 (MQ below (eV D (tyA c9) A ((wX12 ad c9 o.1 o.2.1 m_thrown m_inputLength m_position m_start m_token m_value m_letters m_code m_place m_outputLength m_s m_parsed m_tried o.2.2 m_slots m_kept m_away m_input m_halfway m_output) ++ [])) args s 0 0 A) (wX12 ad c9 j1.1 j1.2 m_thrown m_inputLength m_position m_start m_token m_value m_letters m_code m_place m_outputLength m_s m_parsed m_tried m_remembered m_slots m_kept m_away m_input m_halfway m_output) 32 [(0, .ref (ad 0))] [] := by
    refine v_aload_n X dX12_remember_32 0 rfl rfl 33 rfl ?_
    refine v_get X (C := RX12) (T := TX12) (N := 22) (ci := 11) (v := _) dX12_remember_33 (lay_of laym_X12) 0 rfl rfl 0 (by decide) (mw wm_304) rfl rfl 36 rfl ?_
    refine v_iconst X dX12_remember_36 ic_0 37 rfl ?_
    refine v_aload_n X dX12_remember_37 0 rfl rfl 38 rfl ?_
    refine v_get X (C := RX12) (T := TX12) (N := 22) (ci := 11) (v := _) dX12_remember_38 (lay_of laym_X12) 0 rfl rfl 3 (by decide) (mw wm_305) rfl rfl 41 rfl ?_
    refine v_sipush X dX12_remember_41 sp_463 44 rfl ?_
    refine v_aload_n X dX12_remember_44 0 rfl rfl 45 rfl ?_
    refine v_get X (C := RX12) (T := TX12) (N := 22) (ci := 11) (v := _) dX12_remember_45 (lay_of laym_X12) 0 rfl rfl 7 (by decide) (mw wm_303) rfl rfl 48 rfl ?_
    refine v_aload_n X dX12_remember_48 0 rfl rfl 49 rfl ?_
    refine v_get X (C := RX12) (T := TX12) (N := 22) (ci := 11) (v := _) dX12_remember_49 (lay_of laym_X12) 0 rfl rfl 6 (by decide) (mw wm_302) rfl rfl 52 rfl ?_
    refine v_iadd X dX12_remember_52 53 rfl ?_
    refine v_bipush X dX12_remember_53 bp_8 55 rfl ?_
    refine v_irem X dX12_remember_55 (by decide) 56 rfl ?_
    refine v_imul X dX12_remember_56 57 rfl ?_
    obtain ⟨o2, ho2, hf⟩ := bnd hf
    refine v_callSv X (As := [.ref (ad 1), .int 0, .ref (ad 4), .int (463 * (irm (j1.2 + j1.1) 8))]) (rest := []) (ws' := (wX12 ad c9 j1.1 j1.2 m_thrown m_inputLength m_position m_start m_token m_value m_letters m_code m_place m_outputLength m_s m_parsed m_tried o2 m_slots m_kept m_away m_input m_halfway m_output)) (c_X12_copyRow l hG D c9 (ad 1) (ad 4) 463 3704 m_s m_remembered 0 (463 * (irm (j1.2 + j1.1) 8)) ho2) 4 (gS wm_306 wm_307 wm_37 wm_308) rfl rfl rfl pd_X12_copyRow ⟨Nat.le_of_ble_eq_true rfl, Nat.le_of_ble_eq_true rfl⟩ rfl rfl (Nat.le_of_ble_eq_true rfl) ⟨Nat.zero_le _, Nat.zero_le _⟩ [1, 4] [0, 2, 3, 5, 6, 7, 8, 9, 10] [0, 9, 1, 2, 10, 3, 4, 5, 6, 7, 8] rfl rfl rfl rfl dX12_remember_57 60 rfl ?_
    refine v_aload_n X dX12_remember_60 0 rfl rfl 61 rfl ?_
    refine v_dup X dX12_remember_61 rfl 62 rfl ?_
    refine v_get X (C := RX12) (T := TX12) (N := 22) (ci := 11) (v := _) dX12_remember_62 (lay_of laym_X12) 0 rfl rfl 6 (by decide) (mw wm_302) rfl rfl 65 rfl ?_
    refine v_iconst X dX12_remember_65 ic_1 66 rfl ?_
    refine v_iadd X dX12_remember_66 67 rfl ?_
    refine v_put X (C := RX12) (T := TX12) (N := 22) (ci := 11) (ty := tyX12 6) (ws' := (wX12 ad c9 (j1.1 + 1) j1.2 m_thrown m_inputLength m_position m_start m_token m_value m_letters m_code m_place m_outputLength m_s m_parsed m_tried o2 m_slots m_kept m_away m_input m_halfway m_output)) dX12_remember_67 (lay_of laym_X12) 0 rfl rfl 6 (by decide) tyX12 tyX12_ok nmX12 (mw wm_302) rfl rfl (tyX12_ok 6 (by decide)) rfl rfl (Nat.le_of_ble_eq_true rfl) rfl 70 rfl ?_
    obtain rfl := Option.some.inj hf
    exact v_vret X (Nat.zero_le _) (Nat.zero_le _) dX12_remember_70
  clear hf
  refine v_icmp_ne X (tgt := 32) dX12_remember_6 rfl 9 rfl hj1 (fun hf => ?_) (fun hf => ?_)
  · obtain rfl := Option.some.inj hf
    exact Jj1
  · refine v_aload_n X dX12_remember_9 0 rfl rfl 10 rfl ?_
    refine v_aload_n X dX12_remember_10 0 rfl rfl 11 rfl ?_
    refine v_get X (C := RX12) (T := TX12) (N := 22) (ci := 11) (v := _) dX12_remember_11 (lay_of laym_X12) 0 rfl rfl 7 (by decide) (mw wm_303) rfl rfl 14 rfl ?_
    refine v_iconst X dX12_remember_14 ic_1 15 rfl ?_
    refine v_iadd X dX12_remember_15 16 rfl ?_
    refine v_bipush X dX12_remember_16 bp_8 18 rfl ?_
    refine v_irem X dX12_remember_18 (by decide) 19 rfl ?_
    refine v_put X (C := RX12) (T := TX12) (N := 22) (ci := 11) (ty := tyX12 7) (ws' := (wX12 ad c9 m_undoable (irm (m_undoStart + 1) 8) m_thrown m_inputLength m_position m_start m_token m_value m_letters m_code m_place m_outputLength m_s m_parsed m_tried m_remembered m_slots m_kept m_away m_input m_halfway m_output)) dX12_remember_19 (lay_of laym_X12) 0 rfl rfl 7 (by decide) tyX12 tyX12_ok nmX12 (mw wm_303) rfl rfl (tyX12_ok 7 (by decide)) rfl rfl (Nat.le_of_ble_eq_true rfl) rfl 22 rfl ?_
    refine v_aload_n X dX12_remember_22 0 rfl rfl 23 rfl ?_
    refine v_dup X dX12_remember_23 rfl 24 rfl ?_
    refine v_get X (C := RX12) (T := TX12) (N := 22) (ci := 11) (v := _) dX12_remember_24 (lay_of laym_X12) 0 rfl rfl 6 (by decide) (mw wm_302) rfl rfl 27 rfl ?_
    refine v_iconst X dX12_remember_27 ic_1 28 rfl ?_
    refine v_isub X dX12_remember_28 29 rfl ?_
    refine v_put X (C := RX12) (T := TX12) (N := 22) (ci := 11) (ty := tyX12 6) (ws' := (wX12 ad c9 (m_undoable - 1) (irm (m_undoStart + 1) 8) m_thrown m_inputLength m_position m_start m_token m_value m_letters m_code m_place m_outputLength m_s m_parsed m_tried m_remembered m_slots m_kept m_away m_input m_halfway m_output)) dX12_remember_29 (lay_of laym_X12) 0 rfl rfl 6 (by decide) tyX12 tyX12_ok nmX12 (mw wm_302) rfl rfl (tyX12_ok 6 (by decide)) rfl rfl (Nat.le_of_ble_eq_true rfl) rfl 32 rfl ?_
    obtain rfl := Option.some.inj hf
    exact Jj1
theorem pd_X12_remember : yX12_remember.cls ≠ "java/lang/invoke/MethodHandle" ∧ yX12_remember.cls ≠ "java/lang/invoke/VarHandle" ∧ (parseMethodDescriptor yX12_remember.desc).map (fun d => d.parameters.length) = some 0 := by decide +kernel
def f_X12_load (m_undoable : Int32) (m_undoStart : Int32) (m_thrown : Int32) (m_inputLength : Int32) (m_position : Int32) (m_start : Int32) (m_token : Int32) (m_value : Int32) (m_letters : Int32) (m_code : Int32) (m_place : Int32) (m_s : Nat → Int32) (m_parsed : Nat → Int32) (m_remembered : Nat → Int32) (m_input : Nat → Int32) : Option (Int32 × Int32 × Int32 × Int32 × Int32 × Int32 × Int32 × Int32 × Int32 × Int32 × Int32 × Int32 × (Nat → Int32) × (Nat → Int32) × (Nat → Int32)) :=
  (f_X12_read m_inputLength m_position m_start m_token m_value m_letters m_code m_place m_parsed m_input).bind fun o1 =>
  Option.bind (if o1.2.2.2.2.2.1 = 0 then (
    some (0))
  else (
    some (1)) : Option (Int32)) fun j2 =>
  (f_X12_refuses 0 j2 1).bind fun o3 =>
  if o3.1 = 0 then (
    (f_X12_remember m_undoable m_undoStart m_s m_remembered).bind fun o4 =>
    (f_X12_copyRow 463 463 o1.2.2.2.2.2.2.2 m_s 0 0).bind fun o5 =>
    (rd o5 463 6).bind fun x6 =>
    some (x6, o4.1, o4.2.1, o3.2, 0, o1.1, o1.2.1, o1.2.2.1, o1.2.2.2.1, o1.2.2.2.2.1, o1.2.2.2.2.2.1, o1.2.2.2.2.2.2.1, o5, o1.2.2.2.2.2.2.2, o4.2.2))
  else (
    some (0, m_undoable, m_undoStart, o3.2, 0, o1.1, o1.2.1, o1.2.2.1, o1.2.2.2.1, o1.2.2.2.2.1, o1.2.2.2.2.2.1, o1.2.2.2.2.2.2.1, m_s, o1.2.2.2.2.2.2.2, m_remembered))
set_option maxRecDepth 100000 in
set_option maxHeartbeats 4000000 in
theorem c_X12_load (l : Launch) {G : (Nat → Prop) → State → Heap → Prop} (hG : vG G) (D : va_G) (c9 : Nat → ClassId) (sk sv : Nat → Nat) (hGU : ∀ (A : Nat → Prop) (U : State) (H : Heap), G A U H → vU sk sv A U H) (ad : Nat → Nat) (m_undoable : Int32) (m_undoStart : Int32) (m_thrown : Int32) (m_inputLength : Int32) (m_position : Int32) (m_start : Int32) (m_token : Int32) (m_value : Int32) (m_letters : Int32) (m_code : Int32) (m_place : Int32) (m_outputLength : Int32) (m_s : Nat → Int32) (m_parsed : Nat → Int32) (m_tried : Nat → Int32) (m_remembered : Nat → Int32) (m_slots : Nat → Int32) (m_kept : Nat → Int32) (m_away : Nat → Int32) (m_input : Nat → Int32) (m_halfway : Nat → Int32) (m_output : Nat → Int32)  {o : Int32 × Int32 × Int32 × Int32 × Int32 × Int32 × Int32 × Int32 × Int32 × Int32 × Int32 × Int32 × (Nat → Int32) × (Nat → Int32) × (Nat → Int32)} (hf : f_X12_load m_undoable m_undoStart m_thrown m_inputLength m_position m_start m_token m_value m_letters m_code m_place m_s m_parsed m_remembered m_input = some o) : mI l yX12_load (wq yX12_load cX12_load 1 (some .int)) { frames := 10, cells := 0, slots := 0, locals := 261 } G D (tyA c9) [.ref (ad 0)] (wX12 ad c9 m_undoable m_undoStart m_thrown m_inputLength m_position m_start m_token m_value m_letters m_code m_place m_outputLength m_s m_parsed m_tried m_remembered m_slots m_kept m_away m_input m_halfway m_output) [] 0 0 o.1 (wX12 ad c9 o.2.1 o.2.2.1 o.2.2.2.1 o.2.2.2.2.1 o.2.2.2.2.2.1 o.2.2.2.2.2.2.1 o.2.2.2.2.2.2.2.1 o.2.2.2.2.2.2.2.2.1 o.2.2.2.2.2.2.2.2.2.1 o.2.2.2.2.2.2.2.2.2.2.1 o.2.2.2.2.2.2.2.2.2.2.2.1 m_outputLength o.2.2.2.2.2.2.2.2.2.2.2.2.1 o.2.2.2.2.2.2.2.2.2.2.2.2.2.1 m_tried o.2.2.2.2.2.2.2.2.2.2.2.2.2.2 m_slots m_kept m_away m_input m_halfway m_output) := by
  refine mI_of hG (cc := cX12_load) (maxL := 1) (ty := .int) (by decide) rfl (Nat.le_of_ble_eq_true rfl) ?_
  intro p e s m args below meth c A X
  have X : vX p s m args meth c cX12_load 1 (some .int) RX12 (wq yX12_load cX12_load 1 (some .int)) D (tyA c9) G A := X
  refine v_eq (lv2 := [(0, .ref (ad 0))]) rfl rfl rfl rfl ?_
  rw [f_X12_load] at hf
  refine v_aload_n X dX12_load_0 0 rfl rfl 1 rfl ?_
  refine v_iconst X dX12_load_1 ic_0 2 rfl ?_
  refine v_put X (C := RX12) (T := TX12) (N := 22) (ci := 11) (ty := tyX12 8) (ws' := (wX12 ad c9 m_undoable m_undoStart 0 m_inputLength m_position m_start m_token m_value m_letters m_code m_place m_outputLength m_s m_parsed m_tried m_remembered m_slots m_kept m_away m_input m_halfway m_output)) dX12_load_2 (lay_of laym_X12) 0 rfl rfl 8 (by decide) tyX12 tyX12_ok nmX12 (mw wm_33) rfl rfl (tyX12_ok 8 (by decide)) rfl rfl (Nat.le_of_ble_eq_true rfl) rfl 5 rfl ?_
  refine v_aload_n X dX12_load_5 0 rfl rfl 6 rfl ?_
  obtain ⟨o1, ho1, hf⟩ := bnd hf
  refine v_callVv X (ci := 11) (T := TX12) (C := RX12) (As := []) (rest := []) (ws' := (wX12 ad c9 m_undoable m_undoStart 0 m_inputLength o1.1 o1.2.1 o1.2.2.1 o1.2.2.2.1 o1.2.2.2.2.1 o1.2.2.2.2.2.1 o1.2.2.2.2.2.2.1 m_outputLength m_s o1.2.2.2.2.2.2.2 m_tried m_remembered m_slots m_kept m_away m_input m_halfway m_output)) (c_X12_read l hG D c9 sk sv hGU ad m_undoable m_undoStart 0 m_inputLength m_position m_start m_token m_value m_letters m_code m_place m_outputLength m_s m_parsed m_tried m_remembered m_slots m_kept m_away m_input m_halfway m_output ho1) 0 (gV wm_309 wm_310 wm_311 wm_37 wm_312) rfl rfl rfl ⟨rfl, pd_X12_read⟩ ⟨Nat.le_of_ble_eq_true rfl, Nat.le_of_ble_eq_true rfl⟩ 0 rfl rfl rfl rfl (Nat.le_of_ble_eq_true rfl) ⟨Nat.zero_le _, Nat.zero_le _⟩ [0, 1, 2, 3, 4, 5, 6, 7, 8, 9, 10] [] [0, 1, 2, 3, 4, 5, 6, 7, 8, 9, 10] rfl rfl rfl rfl dX12_load_6 9 rfl ?_
  refine v_aload_n X dX12_load_9 0 rfl rfl 10 rfl ?_
  refine v_iconst X dX12_load_10 ic_0 11 rfl ?_
  refine v_put X (C := RX12) (T := TX12) (N := 22) (ci := 11) (ty := tyX12 11) (ws' := (wX12 ad c9 m_undoable m_undoStart 0 0 o1.1 o1.2.1 o1.2.2.1 o1.2.2.2.1 o1.2.2.2.2.1 o1.2.2.2.2.2.1 o1.2.2.2.2.2.2.1 m_outputLength m_s o1.2.2.2.2.2.2.2 m_tried m_remembered m_slots m_kept m_away m_input m_halfway m_output)) dX12_load_11 (lay_of laym_X12) 0 rfl rfl 11 (by decide) tyX12 tyX12_ok nmX12 (mw wm_32) rfl rfl (tyX12_ok 11 (by decide)) rfl rfl (Nat.le_of_ble_eq_true rfl) rfl 14 rfl ?_
  refine v_aload_n X dX12_load_14 0 rfl rfl 15 rfl ?_
  refine v_aload_n X dX12_load_15 0 rfl rfl 16 rfl ?_
  refine v_get X (C := RX12) (T := TX12) (N := 22) (ci := 11) (v := _) dX12_load_16 (lay_of laym_X12) 0 rfl rfl 17 (by decide) (mw wm_118) rfl rfl 19 rfl ?_
  obtain ⟨j2, hj2, hf⟩ := bnd hf
  have Jj2 : vW p l e { frames := 10, cells := 0, slots := 0, locals := 261 } s m args below meth c 1 D A [] 0 0 (MQ below (eI D (tyA c9) A o.1 ((wX12 ad c9 o.2.1 o.2.2.1 o.2.2.2.1 o.2.2.2.2.1 o.2.2.2.2.2.1 o.2.2.2.2.2.2.1 o.2.2.2.2.2.2.2.1 o.2.2.2.2.2.2.2.2.1 o.2.2.2.2.2.2.2.2.2.1 o.2.2.2.2.2.2.2.2.2.2.1 o.2.2.2.2.2.2.2.2.2.2.2.1 m_outputLength o.2.2.2.2.2.2.2.2.2.2.2.2.1 o.2.2.2.2.2.2.2.2.2.2.2.2.2.1 m_tried o.2.2.2.2.2.2.2.2.2.2.2.2.2.2 m_slots m_kept m_away m_input m_halfway m_output) ++ [])) args s 0 0 A) (wX12 ad c9 m_undoable m_undoStart 0 0 o1.1 o1.2.1 o1.2.2.1 o1.2.2.2.1 o1.2.2.2.2.1 o1.2.2.2.2.2.1 o1.2.2.2.2.2.2.1 m_outputLength m_s o1.2.2.2.2.2.2.2 m_tried m_remembered m_slots m_kept m_away m_input m_halfway m_output) 27 [(0, .ref (ad 0))] [.int j2, .ref (ad 0)] := by
    refine v_iconst X dX12_load_27 ic_1 28 rfl ?_
    obtain ⟨o3, ho3, hf⟩ := bnd hf
    refine v_callVi X (ci := 11) (T := TX12) (C := RX12) (As := [.int j2, .int 1]) (rest := []) (ws' := (wX12 ad c9 m_undoable m_undoStart o3.2 0 o1.1 o1.2.1 o1.2.2.1 o1.2.2.2.1 o1.2.2.2.2.1 o1.2.2.2.2.2.1 o1.2.2.2.2.2.2.1 m_outputLength m_s o1.2.2.2.2.2.2.2 m_tried m_remembered m_slots m_kept m_away m_input m_halfway m_output)) (c_X12_refuses l hG D c9 ad m_undoable m_undoStart 0 0 o1.1 o1.2.1 o1.2.2.1 o1.2.2.2.1 o1.2.2.2.2.1 o1.2.2.2.2.2.1 o1.2.2.2.2.2.2.1 m_outputLength m_s o1.2.2.2.2.2.2.2 m_tried m_remembered m_slots m_kept m_away m_input m_halfway m_output j2 1 ho3) 2 (gV wm_103 wm_104 wm_105 wm_37 wm_106) rfl rfl rfl ⟨rfl, pd_X12_refuses⟩ ⟨Nat.le_of_ble_eq_true rfl, Nat.le_of_ble_eq_true rfl⟩ 0 rfl rfl rfl rfl (Nat.le_of_ble_eq_true rfl) ⟨Nat.zero_le _, Nat.zero_le _⟩ [0, 1, 2, 3, 4, 5, 6, 7, 8, 9, 10] [] [0, 1, 2, 3, 4, 5, 6, 7, 8, 9, 10] rfl rfl rfl rfl dX12_load_28 31 rfl ?_
    refine v_if_eq X (tgt := 36) dX12_load_31 rfl 34 rfl hf (fun hf => ?_) (fun hf => ?_)
    · refine v_aload_n X dX12_load_36 0 rfl rfl 37 rfl ?_
      obtain ⟨o4, ho4, hf⟩ := bnd hf
      refine v_callVv X (ci := 11) (T := TX12) (C := RX12) (As := []) (rest := []) (ws' := (wX12 ad c9 o4.1 o4.2.1 o3.2 0 o1.1 o1.2.1 o1.2.2.1 o1.2.2.2.1 o1.2.2.2.2.1 o1.2.2.2.2.2.1 o1.2.2.2.2.2.2.1 m_outputLength m_s o1.2.2.2.2.2.2.2 m_tried o4.2.2 m_slots m_kept m_away m_input m_halfway m_output)) (c_X12_remember l hG D c9 ad m_undoable m_undoStart o3.2 0 o1.1 o1.2.1 o1.2.2.1 o1.2.2.2.1 o1.2.2.2.2.1 o1.2.2.2.2.2.1 o1.2.2.2.2.2.2.1 m_outputLength m_s o1.2.2.2.2.2.2.2 m_tried m_remembered m_slots m_kept m_away m_input m_halfway m_output ho4) 0 (gV wm_313 wm_314 wm_315 wm_37 wm_316) rfl rfl rfl ⟨rfl, pd_X12_remember⟩ ⟨Nat.le_of_ble_eq_true rfl, Nat.le_of_ble_eq_true rfl⟩ 0 rfl rfl rfl rfl (Nat.le_of_ble_eq_true rfl) ⟨Nat.zero_le _, Nat.zero_le _⟩ [0, 1, 2, 3, 4, 5, 6, 7, 8, 9, 10] [] [0, 1, 2, 3, 4, 5, 6, 7, 8, 9, 10] rfl rfl rfl rfl dX12_load_37 40 rfl ?_
      refine v_aload_n X dX12_load_40 0 rfl rfl 41 rfl ?_
      refine v_get X (C := RX12) (T := TX12) (N := 22) (ci := 11) (v := _) dX12_load_41 (lay_of laym_X12) 0 rfl rfl 1 (by decide) (mw wm_162) rfl rfl 44 rfl ?_
      refine v_iconst X dX12_load_44 ic_0 45 rfl ?_
      refine v_aload_n X dX12_load_45 0 rfl rfl 46 rfl ?_
      refine v_get X (C := RX12) (T := TX12) (N := 22) (ci := 11) (v := _) dX12_load_46 (lay_of laym_X12) 0 rfl rfl 0 (by decide) (mw wm_304) rfl rfl 49 rfl ?_
      refine v_iconst X dX12_load_49 ic_0 50 rfl ?_
      obtain ⟨o5, ho5, hf⟩ := bnd hf
      refine v_callSv X (As := [.ref (ad 2), .int 0, .ref (ad 1), .int 0]) (rest := []) (ws' := (wX12 ad c9 o4.1 o4.2.1 o3.2 0 o1.1 o1.2.1 o1.2.2.1 o1.2.2.2.1 o1.2.2.2.2.1 o1.2.2.2.2.2.1 o1.2.2.2.2.2.2.1 m_outputLength o5 o1.2.2.2.2.2.2.2 m_tried o4.2.2 m_slots m_kept m_away m_input m_halfway m_output)) (c_X12_copyRow l hG D c9 (ad 2) (ad 1) 463 463 o1.2.2.2.2.2.2.2 m_s 0 0 ho5) 4 (gS wm_306 wm_307 wm_37 wm_308) rfl rfl rfl pd_X12_copyRow ⟨Nat.le_of_ble_eq_true rfl, Nat.le_of_ble_eq_true rfl⟩ rfl rfl (Nat.le_of_ble_eq_true rfl) ⟨Nat.zero_le _, Nat.zero_le _⟩ [2, 1] [0, 3, 4, 5, 6, 7, 8, 9, 10] [0, 10, 9, 1, 2, 3, 4, 5, 6, 7, 8] rfl rfl rfl rfl dX12_load_50 53 rfl ?_
      refine v_aload_n X dX12_load_53 0 rfl rfl 54 rfl ?_
      refine v_get X (C := RX12) (T := TX12) (N := 22) (ci := 11) (v := _) dX12_load_54 (lay_of laym_X12) 0 rfl rfl 0 (by decide) (mw wm_304) rfl rfl 57 rfl ?_
      refine v_bipush X dX12_load_57 bp_6 59 rfl ?_
      obtain ⟨x6, hx6, hf⟩ := bnd hf
      refine v_iald X dX12_load_59 1 0 rfl rfl hx6 60 rfl ?_
      obtain rfl := Option.some.inj hf
      exact v_iret X (Nat.zero_le _) (Nat.zero_le _) dX12_load_60
    · refine v_iconst X dX12_load_34 ic_0 35 rfl ?_
      obtain rfl := Option.some.inj hf
      exact v_iret X (Nat.zero_le _) (Nat.zero_le _) dX12_load_35
  clear hf
  refine v_if_eq X (tgt := 26) dX12_load_19 rfl 22 rfl hj2 (fun hf => ?_) (fun hf => ?_)
  · refine v_iconst X dX12_load_26 ic_0 27 rfl ?_
    obtain rfl := Option.some.inj hf
    exact Jj2
  · refine v_iconst X dX12_load_22 ic_1 23 rfl ?_
    refine v_goto X (tgt := 27) dX12_load_23 rfl ?_
    obtain rfl := Option.some.inj hf
    exact Jj2
theorem pd_X12_load : yX12_load.cls ≠ "java/lang/invoke/MethodHandle" ∧ yX12_load.cls ≠ "java/lang/invoke/VarHandle" ∧ (parseMethodDescriptor yX12_load.desc).map (fun d => d.parameters.length) = some 0 := by decide +kernel
def f_X12_undo (m_undoable : Int32) (m_undoStart : Int32) (m_thrown : Int32) (m_s : Nat → Int32) (m_remembered : Nat → Int32) : Option (Int32 × Int32 × Int32 × (Nat → Int32)) :=
  Option.bind (if m_undoable = 0 then (
    some (1))
  else (
    some (0)) : Option (Int32)) fun j1 =>
  (f_X12_refuses 0 j1 1).bind fun o2 =>
  if o2.1 = 0 then (
    (f_X12_copyRow 3704 463 m_remembered m_s (463 * (irm (m_undoStart + (m_undoable - 1)) 8)) 0).bind fun o3 =>
    some ((m_undoable - 1), (m_undoable - 1), o2.2, o3))
  else (
    some (0, m_undoable, o2.2, m_s))
set_option maxRecDepth 100000 in
set_option maxHeartbeats 4000000 in
theorem c_X12_undo (l : Launch) {G : (Nat → Prop) → State → Heap → Prop} (hG : vG G) (D : va_G) (c9 : Nat → ClassId) (ad : Nat → Nat) (m_undoable : Int32) (m_undoStart : Int32) (m_thrown : Int32) (m_inputLength : Int32) (m_position : Int32) (m_start : Int32) (m_token : Int32) (m_value : Int32) (m_letters : Int32) (m_code : Int32) (m_place : Int32) (m_outputLength : Int32) (m_s : Nat → Int32) (m_parsed : Nat → Int32) (m_tried : Nat → Int32) (m_remembered : Nat → Int32) (m_slots : Nat → Int32) (m_kept : Nat → Int32) (m_away : Nat → Int32) (m_input : Nat → Int32) (m_halfway : Nat → Int32) (m_output : Nat → Int32)  {o : Int32 × Int32 × Int32 × (Nat → Int32)} (hf : f_X12_undo m_undoable m_undoStart m_thrown m_s m_remembered = some o) : mI l yX12_undo (wq yX12_undo cX12_undo 1 (some .int)) { frames := 1, cells := 0, slots := 0, locals := 24 } G D (tyA c9) [.ref (ad 0)] (wX12 ad c9 m_undoable m_undoStart m_thrown m_inputLength m_position m_start m_token m_value m_letters m_code m_place m_outputLength m_s m_parsed m_tried m_remembered m_slots m_kept m_away m_input m_halfway m_output) [] 0 0 o.1 (wX12 ad c9 o.2.1 m_undoStart o.2.2.1 m_inputLength m_position m_start m_token m_value m_letters m_code m_place m_outputLength o.2.2.2 m_parsed m_tried m_remembered m_slots m_kept m_away m_input m_halfway m_output) := by
  refine mI_of hG (cc := cX12_undo) (maxL := 1) (ty := .int) (by decide) rfl (Nat.le_of_ble_eq_true rfl) ?_
  intro p e s m args below meth c A X
  have X : vX p s m args meth c cX12_undo 1 (some .int) RX12 (wq yX12_undo cX12_undo 1 (some .int)) D (tyA c9) G A := X
  refine v_eq (lv2 := [(0, .ref (ad 0))]) rfl rfl rfl rfl ?_
  rw [f_X12_undo] at hf
  refine v_aload_n X dX12_undo_0 0 rfl rfl 1 rfl ?_
  refine v_iconst X dX12_undo_1 ic_0 2 rfl ?_
  refine v_put X (C := RX12) (T := TX12) (N := 22) (ci := 11) (ty := tyX12 8) (ws' := (wX12 ad c9 m_undoable m_undoStart 0 m_inputLength m_position m_start m_token m_value m_letters m_code m_place m_outputLength m_s m_parsed m_tried m_remembered m_slots m_kept m_away m_input m_halfway m_output)) dX12_undo_2 (lay_of laym_X12) 0 rfl rfl 8 (by decide) tyX12 tyX12_ok nmX12 (mw wm_33) rfl rfl (tyX12_ok 8 (by decide)) rfl rfl (Nat.le_of_ble_eq_true rfl) rfl 5 rfl ?_
  refine v_aload_n X dX12_undo_5 0 rfl rfl 6 rfl ?_
  refine v_aload_n X dX12_undo_6 0 rfl rfl 7 rfl ?_
  refine v_get X (C := RX12) (T := TX12) (N := 22) (ci := 11) (v := _) dX12_undo_7 (lay_of laym_X12) 0 rfl rfl 6 (by decide) (mw wm_302) rfl rfl 10 rfl ?_
  obtain ⟨j1, hj1, hf⟩ := bnd hf
  have Jj1 : vW p l e { frames := 1, cells := 0, slots := 0, locals := 24 } s m args below meth c 1 D A [] 0 0 (MQ below (eI D (tyA c9) A o.1 ((wX12 ad c9 o.2.1 m_undoStart o.2.2.1 m_inputLength m_position m_start m_token m_value m_letters m_code m_place m_outputLength o.2.2.2 m_parsed m_tried m_remembered m_slots m_kept m_away m_input m_halfway m_output) ++ [])) args s 0 0 A) (wX12 ad c9 m_undoable m_undoStart 0 m_inputLength m_position m_start m_token m_value m_letters m_code m_place m_outputLength m_s m_parsed m_tried m_remembered m_slots m_kept m_away m_input m_halfway m_output) 18 [(0, .ref (ad 0))] [.int j1, .ref (ad 0)] := by
    refine v_iconst X dX12_undo_18 ic_1 19 rfl ?_
    obtain ⟨o2, ho2, hf⟩ := bnd hf
    refine v_callVi X (ci := 11) (T := TX12) (C := RX12) (As := [.int j1, .int 1]) (rest := []) (ws' := (wX12 ad c9 m_undoable m_undoStart o2.2 m_inputLength m_position m_start m_token m_value m_letters m_code m_place m_outputLength m_s m_parsed m_tried m_remembered m_slots m_kept m_away m_input m_halfway m_output)) (c_X12_refuses l hG D c9 ad m_undoable m_undoStart 0 m_inputLength m_position m_start m_token m_value m_letters m_code m_place m_outputLength m_s m_parsed m_tried m_remembered m_slots m_kept m_away m_input m_halfway m_output j1 1 ho2) 2 (gV wm_103 wm_104 wm_105 wm_37 wm_106) rfl rfl rfl ⟨rfl, pd_X12_refuses⟩ ⟨Nat.le_of_ble_eq_true rfl, Nat.le_of_ble_eq_true rfl⟩ 0 rfl rfl rfl rfl (Nat.le_of_ble_eq_true rfl) ⟨Nat.zero_le _, Nat.zero_le _⟩ [0, 1, 2, 3, 4, 5, 6, 7, 8, 9, 10] [] [0, 1, 2, 3, 4, 5, 6, 7, 8, 9, 10] rfl rfl rfl rfl dX12_undo_19 22 rfl ?_
    refine v_if_eq X (tgt := 27) dX12_undo_22 rfl 25 rfl hf (fun hf => ?_) (fun hf => ?_)
    · refine v_aload_n X dX12_undo_27 0 rfl rfl 28 rfl ?_
      refine v_dup X dX12_undo_28 rfl 29 rfl ?_
      refine v_get X (C := RX12) (T := TX12) (N := 22) (ci := 11) (v := _) dX12_undo_29 (lay_of laym_X12) 0 rfl rfl 6 (by decide) (mw wm_302) rfl rfl 32 rfl ?_
      refine v_iconst X dX12_undo_32 ic_1 33 rfl ?_
      refine v_isub X dX12_undo_33 34 rfl ?_
      refine v_put X (C := RX12) (T := TX12) (N := 22) (ci := 11) (ty := tyX12 6) (ws' := (wX12 ad c9 (m_undoable - 1) m_undoStart o2.2 m_inputLength m_position m_start m_token m_value m_letters m_code m_place m_outputLength m_s m_parsed m_tried m_remembered m_slots m_kept m_away m_input m_halfway m_output)) dX12_undo_34 (lay_of laym_X12) 0 rfl rfl 6 (by decide) tyX12 tyX12_ok nmX12 (mw wm_302) rfl rfl (tyX12_ok 6 (by decide)) rfl rfl (Nat.le_of_ble_eq_true rfl) rfl 37 rfl ?_
      refine v_aload_n X dX12_undo_37 0 rfl rfl 38 rfl ?_
      refine v_get X (C := RX12) (T := TX12) (N := 22) (ci := 11) (v := _) dX12_undo_38 (lay_of laym_X12) 0 rfl rfl 3 (by decide) (mw wm_305) rfl rfl 41 rfl ?_
      refine v_sipush X dX12_undo_41 sp_463 44 rfl ?_
      refine v_aload_n X dX12_undo_44 0 rfl rfl 45 rfl ?_
      refine v_get X (C := RX12) (T := TX12) (N := 22) (ci := 11) (v := _) dX12_undo_45 (lay_of laym_X12) 0 rfl rfl 7 (by decide) (mw wm_303) rfl rfl 48 rfl ?_
      refine v_aload_n X dX12_undo_48 0 rfl rfl 49 rfl ?_
      refine v_get X (C := RX12) (T := TX12) (N := 22) (ci := 11) (v := _) dX12_undo_49 (lay_of laym_X12) 0 rfl rfl 6 (by decide) (mw wm_302) rfl rfl 52 rfl ?_
      refine v_iadd X dX12_undo_52 53 rfl ?_
      refine v_bipush X dX12_undo_53 bp_8 55 rfl ?_
      refine v_irem X dX12_undo_55 (by decide) 56 rfl ?_
      refine v_imul X dX12_undo_56 57 rfl ?_
      refine v_aload_n X dX12_undo_57 0 rfl rfl 58 rfl ?_
      refine v_get X (C := RX12) (T := TX12) (N := 22) (ci := 11) (v := _) dX12_undo_58 (lay_of laym_X12) 0 rfl rfl 0 (by decide) (mw wm_304) rfl rfl 61 rfl ?_
      refine v_iconst X dX12_undo_61 ic_0 62 rfl ?_
      obtain ⟨o3, ho3, hf⟩ := bnd hf
      refine v_callSv X (As := [.ref (ad 4), .int (463 * (irm (m_undoStart + (m_undoable - 1)) 8)), .ref (ad 1), .int 0]) (rest := []) (ws' := (wX12 ad c9 (m_undoable - 1) m_undoStart o2.2 m_inputLength m_position m_start m_token m_value m_letters m_code m_place m_outputLength o3 m_parsed m_tried m_remembered m_slots m_kept m_away m_input m_halfway m_output)) (c_X12_copyRow l hG D c9 (ad 4) (ad 1) 3704 463 m_remembered m_s (463 * (irm (m_undoStart + (m_undoable - 1)) 8)) 0 ho3) 4 (gS wm_306 wm_307 wm_37 wm_308) rfl rfl rfl pd_X12_copyRow ⟨Nat.le_of_ble_eq_true rfl, Nat.le_of_ble_eq_true rfl⟩ rfl rfl (Nat.le_of_ble_eq_true rfl) ⟨Nat.zero_le _, Nat.zero_le _⟩ [4, 1] [0, 2, 3, 5, 6, 7, 8, 9, 10] [0, 10, 1, 2, 9, 3, 4, 5, 6, 7, 8] rfl rfl rfl rfl dX12_undo_62 65 rfl ?_
      refine v_aload_n X dX12_undo_65 0 rfl rfl 66 rfl ?_
      refine v_get X (C := RX12) (T := TX12) (N := 22) (ci := 11) (v := _) dX12_undo_66 (lay_of laym_X12) 0 rfl rfl 6 (by decide) (mw wm_302) rfl rfl 69 rfl ?_
      obtain rfl := Option.some.inj hf
      exact v_iret X (Nat.zero_le _) (Nat.zero_le _) dX12_undo_69
    · refine v_iconst X dX12_undo_25 ic_0 26 rfl ?_
      obtain rfl := Option.some.inj hf
      exact v_iret X (Nat.zero_le _) (Nat.zero_le _) dX12_undo_26
  clear hf
  refine v_if_ne X (tgt := 17) dX12_undo_10 rfl 13 rfl hj1 (fun hf => ?_) (fun hf => ?_)
  · refine v_iconst X dX12_undo_17 ic_0 18 rfl ?_
    obtain rfl := Option.some.inj hf
    exact Jj1
  · refine v_iconst X dX12_undo_13 ic_1 14 rfl ?_
    refine v_goto X (tgt := 18) dX12_undo_14 rfl ?_
    obtain rfl := Option.some.inj hf
    exact Jj1
theorem pd_X12_undo : yX12_undo.cls ≠ "java/lang/invoke/MethodHandle" ∧ yX12_undo.cls ≠ "java/lang/invoke/VarHandle" ∧ (parseMethodDescriptor yX12_undo.desc).map (fun d => d.parameters.length) = some 0 := by decide +kernel
def f_X12_noRealm (m_thrown : Int32) (m_s : Nat → Int32) (v1 : Int32) : Option (Int32 × Int32) :=
  (rd m_s 463 3).bind fun x1 =>
  (f_X12_noNumber m_thrown v1 0 (x1 - 1)).bind fun o2 =>
  (zr o2.1).bind fun z3 => some (z3, o2.2)
set_option maxRecDepth 100000 in
set_option maxHeartbeats 4000000 in
theorem c_X12_noRealm (l : Launch) {G : (Nat → Prop) → State → Heap → Prop} (hG : vG G) (D : va_G) (c9 : Nat → ClassId) (ad : Nat → Nat) (m_undoable : Int32) (m_undoStart : Int32) (m_thrown : Int32) (m_inputLength : Int32) (m_position : Int32) (m_start : Int32) (m_token : Int32) (m_value : Int32) (m_letters : Int32) (m_code : Int32) (m_place : Int32) (m_outputLength : Int32) (m_s : Nat → Int32) (m_parsed : Nat → Int32) (m_tried : Nat → Int32) (m_remembered : Nat → Int32) (m_slots : Nat → Int32) (m_kept : Nat → Int32) (m_away : Nat → Int32) (m_input : Nat → Int32) (m_halfway : Nat → Int32) (m_output : Nat → Int32) (v1 : Int32) {o : Int32 × Int32} (hf : f_X12_noRealm m_thrown m_s v1 = some o) : mI l yX12_noRealm (wq yX12_noRealm cX12_noRealm 2 (some .boolean)) { frames := 2, cells := 0, slots := 0, locals := 45 } G D (tyA c9) [.ref (ad 0), .int v1] (wX12 ad c9 m_undoable m_undoStart m_thrown m_inputLength m_position m_start m_token m_value m_letters m_code m_place m_outputLength m_s m_parsed m_tried m_remembered m_slots m_kept m_away m_input m_halfway m_output) [] 0 0 o.1 (wX12 ad c9 m_undoable m_undoStart o.2 m_inputLength m_position m_start m_token m_value m_letters m_code m_place m_outputLength m_s m_parsed m_tried m_remembered m_slots m_kept m_away m_input m_halfway m_output) := by
  refine mI_of hG (cc := cX12_noRealm) (maxL := 2) (ty := .boolean) (by decide) rfl (Nat.le_of_ble_eq_true rfl) ?_
  intro p e s m args below meth c A X
  have X : vX p s m args meth c cX12_noRealm 2 (some .boolean) RX12 (wq yX12_noRealm cX12_noRealm 2 (some .boolean)) D (tyA c9) G A := X
  refine v_eq (lv2 := [(0, .ref (ad 0)), (1, .int v1)]) rfl rfl rfl rfl ?_
  rw [f_X12_noRealm] at hf
  refine v_aload_n X dX12_noRealm_0 0 rfl rfl 1 rfl ?_
  refine v_iload_n X dX12_noRealm_1 1 rfl rfl 2 rfl ?_
  refine v_iconst X dX12_noRealm_2 ic_0 3 rfl ?_
  refine v_aload_n X dX12_noRealm_3 0 rfl rfl 4 rfl ?_
  refine v_get X (C := RX12) (T := TX12) (N := 22) (ci := 11) (v := _) dX12_noRealm_4 (lay_of laym_X12) 0 rfl rfl 0 (by decide) (mw wm_304) rfl rfl 7 rfl ?_
  refine v_iconst X dX12_noRealm_7 ic_3 8 rfl ?_
  obtain ⟨x1, hx1, hf⟩ := bnd hf
  refine v_iald X dX12_noRealm_8 1 0 rfl rfl hx1 9 rfl ?_
  refine v_iconst X dX12_noRealm_9 ic_1 10 rfl ?_
  refine v_isub X dX12_noRealm_10 11 rfl ?_
  obtain ⟨o2, ho2, hf⟩ := bnd hf
  refine v_callVi X (ci := 11) (T := TX12) (C := RX12) (As := [.int v1, .int 0, .int (x1 - 1)]) (rest := []) (ws' := (wX12 ad c9 m_undoable m_undoStart o2.2 m_inputLength m_position m_start m_token m_value m_letters m_code m_place m_outputLength m_s m_parsed m_tried m_remembered m_slots m_kept m_away m_input m_halfway m_output)) (c_X12_noNumber l hG D c9 ad m_undoable m_undoStart m_thrown m_inputLength m_position m_start m_token m_value m_letters m_code m_place m_outputLength m_s m_parsed m_tried m_remembered m_slots m_kept m_away m_input m_halfway m_output v1 0 (x1 - 1) ho2) 3 (gV wm_114 wm_115 wm_116 wm_37 wm_117) rfl rfl rfl ⟨rfl, pd_X12_noNumber⟩ ⟨Nat.le_of_ble_eq_true rfl, Nat.le_of_ble_eq_true rfl⟩ 0 rfl rfl rfl rfl (Nat.le_of_ble_eq_true rfl) ⟨Nat.zero_le _, Nat.zero_le _⟩ [0, 1, 2, 3, 4, 5, 6, 7, 8, 9, 10] [] [0, 1, 2, 3, 4, 5, 6, 7, 8, 9, 10] rfl rfl rfl rfl dX12_noRealm_11 14 rfl ?_
  obtain ⟨z3, hz3, hf⟩ := bnd hf
  obtain rfl := Option.some.inj hf
  exact v_zretq hz3 X (Nat.zero_le _) (Nat.zero_le _) dX12_noRealm_14
theorem pd_X12_noRealm : yX12_noRealm.cls ≠ "java/lang/invoke/MethodHandle" ∧ yX12_noRealm.cls ≠ "java/lang/invoke/VarHandle" ∧ (parseMethodDescriptor yX12_noRealm.desc).map (fun d => d.parameters.length) = some 1 := by decide +kernel
def f_X12_noRealms (m_thrown : Int32) (m_s : Nat → Int32) (v1 : Int32) (v2 : Int32) : Option (Int32 × Int32) :=
  (f_X12_noRealm m_thrown m_s v1).bind fun o1 =>
  if o1.1 = 0 then (
    (f_X12_noRealm o1.2 m_s v2).bind fun o2 =>
    if o2.1 = 0 then (
      some (0, o2.2))
    else (
      some (1, o2.2)))
  else (
    some (1, o1.2))
set_option maxRecDepth 100000 in
set_option maxHeartbeats 4000000 in
theorem c_X12_noRealms (l : Launch) {G : (Nat → Prop) → State → Heap → Prop} (hG : vG G) (D : va_G) (c9 : Nat → ClassId) (ad : Nat → Nat) (m_undoable : Int32) (m_undoStart : Int32) (m_thrown : Int32) (m_inputLength : Int32) (m_position : Int32) (m_start : Int32) (m_token : Int32) (m_value : Int32) (m_letters : Int32) (m_code : Int32) (m_place : Int32) (m_outputLength : Int32) (m_s : Nat → Int32) (m_parsed : Nat → Int32) (m_tried : Nat → Int32) (m_remembered : Nat → Int32) (m_slots : Nat → Int32) (m_kept : Nat → Int32) (m_away : Nat → Int32) (m_input : Nat → Int32) (m_halfway : Nat → Int32) (m_output : Nat → Int32) (v1 : Int32) (v2 : Int32) {o : Int32 × Int32} (hf : f_X12_noRealms m_thrown m_s v1 v2 = some o) : mI l yX12_noRealms (wq yX12_noRealms cX12_noRealms 3 (some .boolean)) { frames := 3, cells := 0, slots := 0, locals := 66 } G D (tyA c9) [.ref (ad 0), .int v1, .int v2] (wX12 ad c9 m_undoable m_undoStart m_thrown m_inputLength m_position m_start m_token m_value m_letters m_code m_place m_outputLength m_s m_parsed m_tried m_remembered m_slots m_kept m_away m_input m_halfway m_output) [] 0 0 o.1 (wX12 ad c9 m_undoable m_undoStart o.2 m_inputLength m_position m_start m_token m_value m_letters m_code m_place m_outputLength m_s m_parsed m_tried m_remembered m_slots m_kept m_away m_input m_halfway m_output) := by
  refine mI_of hG (cc := cX12_noRealms) (maxL := 3) (ty := .boolean) (by decide) rfl (Nat.le_of_ble_eq_true rfl) ?_
  intro p e s m args below meth c A X
  have X : vX p s m args meth c cX12_noRealms 3 (some .boolean) RX12 (wq yX12_noRealms cX12_noRealms 3 (some .boolean)) D (tyA c9) G A := X
  refine v_eq (lv2 := [(0, .ref (ad 0)), (1, .int v1), (2, .int v2)]) rfl rfl rfl rfl ?_
  rw [f_X12_noRealms] at hf
  refine v_aload_n X dX12_noRealms_0 0 rfl rfl 1 rfl ?_
  refine v_iload_n X dX12_noRealms_1 1 rfl rfl 2 rfl ?_
  obtain ⟨o1, ho1, hf⟩ := bnd hf
  refine v_callVi X (ci := 11) (T := TX12) (C := RX12) (As := [.int v1]) (rest := []) (ws' := (wX12 ad c9 m_undoable m_undoStart o1.2 m_inputLength m_position m_start m_token m_value m_letters m_code m_place m_outputLength m_s m_parsed m_tried m_remembered m_slots m_kept m_away m_input m_halfway m_output)) (c_X12_noRealm l hG D c9 ad m_undoable m_undoStart m_thrown m_inputLength m_position m_start m_token m_value m_letters m_code m_place m_outputLength m_s m_parsed m_tried m_remembered m_slots m_kept m_away m_input m_halfway m_output v1 ho1) 1 (gV wm_317 wm_318 wm_319 wm_37 wm_320) rfl rfl rfl ⟨rfl, pd_X12_noRealm⟩ ⟨Nat.le_of_ble_eq_true rfl, Nat.le_of_ble_eq_true rfl⟩ 0 rfl rfl rfl rfl (Nat.le_of_ble_eq_true rfl) ⟨Nat.zero_le _, Nat.zero_le _⟩ [0, 1, 2, 3, 4, 5, 6, 7, 8, 9, 10] [] [0, 1, 2, 3, 4, 5, 6, 7, 8, 9, 10] rfl rfl rfl rfl dX12_noRealms_2 5 rfl ?_
  refine v_if_ne X (tgt := 16) dX12_noRealms_5 rfl 8 rfl hf (fun hf => ?_) (fun hf => ?_)
  · refine v_iconst X dX12_noRealms_16 ic_1 17 rfl ?_
    refine v_goto X (tgt := 21) dX12_noRealms_17 rfl ?_
    obtain rfl := Option.some.inj hf
    exact v_zret X (Nat.zero_le _) (Nat.zero_le _) nz1 dX12_noRealms_21
  · refine v_aload_n X dX12_noRealms_8 0 rfl rfl 9 rfl ?_
    refine v_iload_n X dX12_noRealms_9 2 rfl rfl 10 rfl ?_
    obtain ⟨o2, ho2, hf⟩ := bnd hf
    refine v_callVi X (ci := 11) (T := TX12) (C := RX12) (As := [.int v2]) (rest := []) (ws' := (wX12 ad c9 m_undoable m_undoStart o2.2 m_inputLength m_position m_start m_token m_value m_letters m_code m_place m_outputLength m_s m_parsed m_tried m_remembered m_slots m_kept m_away m_input m_halfway m_output)) (c_X12_noRealm l hG D c9 ad m_undoable m_undoStart o1.2 m_inputLength m_position m_start m_token m_value m_letters m_code m_place m_outputLength m_s m_parsed m_tried m_remembered m_slots m_kept m_away m_input m_halfway m_output v2 ho2) 1 (gV wm_317 wm_318 wm_319 wm_37 wm_320) rfl rfl rfl ⟨rfl, pd_X12_noRealm⟩ ⟨Nat.le_of_ble_eq_true rfl, Nat.le_of_ble_eq_true rfl⟩ 0 rfl rfl rfl rfl (Nat.le_of_ble_eq_true rfl) ⟨Nat.zero_le _, Nat.zero_le _⟩ [0, 1, 2, 3, 4, 5, 6, 7, 8, 9, 10] [] [0, 1, 2, 3, 4, 5, 6, 7, 8, 9, 10] rfl rfl rfl rfl dX12_noRealms_10 13 rfl ?_
    refine v_if_eq X (tgt := 20) dX12_noRealms_13 rfl 16 rfl hf (fun hf => ?_) (fun hf => ?_)
    · refine v_iconst X dX12_noRealms_20 ic_0 21 rfl ?_
      obtain rfl := Option.some.inj hf
      exact v_zret X (Nat.zero_le _) (Nat.zero_le _) nz0 dX12_noRealms_21
    · refine v_iconst X dX12_noRealms_16 ic_1 17 rfl ?_
      refine v_goto X (tgt := 21) dX12_noRealms_17 rfl ?_
      obtain rfl := Option.some.inj hf
      exact v_zret X (Nat.zero_le _) (Nat.zero_le _) nz1 dX12_noRealms_21
theorem pd_X12_noRealms : yX12_noRealms.cls ≠ "java/lang/invoke/MethodHandle" ∧ yX12_noRealms.cls ≠ "java/lang/invoke/VarHandle" ∧ (parseMethodDescriptor yX12_noRealms.desc).map (fun d => d.parameters.length) = some 2 := by decide +kernel
def f_X12_noUser (m_thrown : Int32) (m_s : Nat → Int32) (v1 : Int32) : Option (Int32 × Int32) :=
  (rd m_s 463 4).bind fun x1 =>
  (f_X12_noNumber m_thrown v1 0 (x1 - 1)).bind fun o2 =>
  (zr o2.1).bind fun z3 => some (z3, o2.2)
set_option maxRecDepth 100000 in
set_option maxHeartbeats 4000000 in
theorem c_X12_noUser (l : Launch) {G : (Nat → Prop) → State → Heap → Prop} (hG : vG G) (D : va_G) (c9 : Nat → ClassId) (ad : Nat → Nat) (m_undoable : Int32) (m_undoStart : Int32) (m_thrown : Int32) (m_inputLength : Int32) (m_position : Int32) (m_start : Int32) (m_token : Int32) (m_value : Int32) (m_letters : Int32) (m_code : Int32) (m_place : Int32) (m_outputLength : Int32) (m_s : Nat → Int32) (m_parsed : Nat → Int32) (m_tried : Nat → Int32) (m_remembered : Nat → Int32) (m_slots : Nat → Int32) (m_kept : Nat → Int32) (m_away : Nat → Int32) (m_input : Nat → Int32) (m_halfway : Nat → Int32) (m_output : Nat → Int32) (v1 : Int32) {o : Int32 × Int32} (hf : f_X12_noUser m_thrown m_s v1 = some o) : mI l yX12_noUser (wq yX12_noUser cX12_noUser 2 (some .boolean)) { frames := 2, cells := 0, slots := 0, locals := 45 } G D (tyA c9) [.ref (ad 0), .int v1] (wX12 ad c9 m_undoable m_undoStart m_thrown m_inputLength m_position m_start m_token m_value m_letters m_code m_place m_outputLength m_s m_parsed m_tried m_remembered m_slots m_kept m_away m_input m_halfway m_output) [] 0 0 o.1 (wX12 ad c9 m_undoable m_undoStart o.2 m_inputLength m_position m_start m_token m_value m_letters m_code m_place m_outputLength m_s m_parsed m_tried m_remembered m_slots m_kept m_away m_input m_halfway m_output) := by
  refine mI_of hG (cc := cX12_noUser) (maxL := 2) (ty := .boolean) (by decide) rfl (Nat.le_of_ble_eq_true rfl) ?_
  intro p e s m args below meth c A X
  have X : vX p s m args meth c cX12_noUser 2 (some .boolean) RX12 (wq yX12_noUser cX12_noUser 2 (some .boolean)) D (tyA c9) G A := X
  refine v_eq (lv2 := [(0, .ref (ad 0)), (1, .int v1)]) rfl rfl rfl rfl ?_
  rw [f_X12_noUser] at hf
  refine v_aload_n X dX12_noUser_0 0 rfl rfl 1 rfl ?_
  refine v_iload_n X dX12_noUser_1 1 rfl rfl 2 rfl ?_
  refine v_iconst X dX12_noUser_2 ic_0 3 rfl ?_
  refine v_aload_n X dX12_noUser_3 0 rfl rfl 4 rfl ?_
  refine v_get X (C := RX12) (T := TX12) (N := 22) (ci := 11) (v := _) dX12_noUser_4 (lay_of laym_X12) 0 rfl rfl 0 (by decide) (mw wm_304) rfl rfl 7 rfl ?_
  refine v_iconst X dX12_noUser_7 ic_4 8 rfl ?_
  obtain ⟨x1, hx1, hf⟩ := bnd hf
  refine v_iald X dX12_noUser_8 1 0 rfl rfl hx1 9 rfl ?_
  refine v_iconst X dX12_noUser_9 ic_1 10 rfl ?_
  refine v_isub X dX12_noUser_10 11 rfl ?_
  obtain ⟨o2, ho2, hf⟩ := bnd hf
  refine v_callVi X (ci := 11) (T := TX12) (C := RX12) (As := [.int v1, .int 0, .int (x1 - 1)]) (rest := []) (ws' := (wX12 ad c9 m_undoable m_undoStart o2.2 m_inputLength m_position m_start m_token m_value m_letters m_code m_place m_outputLength m_s m_parsed m_tried m_remembered m_slots m_kept m_away m_input m_halfway m_output)) (c_X12_noNumber l hG D c9 ad m_undoable m_undoStart m_thrown m_inputLength m_position m_start m_token m_value m_letters m_code m_place m_outputLength m_s m_parsed m_tried m_remembered m_slots m_kept m_away m_input m_halfway m_output v1 0 (x1 - 1) ho2) 3 (gV wm_114 wm_115 wm_116 wm_37 wm_117) rfl rfl rfl ⟨rfl, pd_X12_noNumber⟩ ⟨Nat.le_of_ble_eq_true rfl, Nat.le_of_ble_eq_true rfl⟩ 0 rfl rfl rfl rfl (Nat.le_of_ble_eq_true rfl) ⟨Nat.zero_le _, Nat.zero_le _⟩ [0, 1, 2, 3, 4, 5, 6, 7, 8, 9, 10] [] [0, 1, 2, 3, 4, 5, 6, 7, 8, 9, 10] rfl rfl rfl rfl dX12_noUser_11 14 rfl ?_
  obtain ⟨z3, hz3, hf⟩ := bnd hf
  obtain rfl := Option.some.inj hf
  exact v_zretq hz3 X (Nat.zero_le _) (Nat.zero_le _) dX12_noUser_14
theorem pd_X12_noUser : yX12_noUser.cls ≠ "java/lang/invoke/MethodHandle" ∧ yX12_noUser.cls ≠ "java/lang/invoke/VarHandle" ∧ (parseMethodDescriptor yX12_noUser.desc).map (fun d => d.parameters.length) = some 1 := by decide +kernel
def f_X12_noService (m_thrown : Int32) (m_s : Nat → Int32) (v1 : Int32) : Option (Int32 × Int32) :=
  (rd m_s 463 5).bind fun x1 =>
  (f_X12_noNumber m_thrown v1 0 (x1 - 1)).bind fun o2 =>
  (zr o2.1).bind fun z3 => some (z3, o2.2)
set_option maxRecDepth 100000 in
set_option maxHeartbeats 4000000 in
theorem c_X12_noService (l : Launch) {G : (Nat → Prop) → State → Heap → Prop} (hG : vG G) (D : va_G) (c9 : Nat → ClassId) (ad : Nat → Nat) (m_undoable : Int32) (m_undoStart : Int32) (m_thrown : Int32) (m_inputLength : Int32) (m_position : Int32) (m_start : Int32) (m_token : Int32) (m_value : Int32) (m_letters : Int32) (m_code : Int32) (m_place : Int32) (m_outputLength : Int32) (m_s : Nat → Int32) (m_parsed : Nat → Int32) (m_tried : Nat → Int32) (m_remembered : Nat → Int32) (m_slots : Nat → Int32) (m_kept : Nat → Int32) (m_away : Nat → Int32) (m_input : Nat → Int32) (m_halfway : Nat → Int32) (m_output : Nat → Int32) (v1 : Int32) {o : Int32 × Int32} (hf : f_X12_noService m_thrown m_s v1 = some o) : mI l yX12_noService (wq yX12_noService cX12_noService 2 (some .boolean)) { frames := 2, cells := 0, slots := 0, locals := 45 } G D (tyA c9) [.ref (ad 0), .int v1] (wX12 ad c9 m_undoable m_undoStart m_thrown m_inputLength m_position m_start m_token m_value m_letters m_code m_place m_outputLength m_s m_parsed m_tried m_remembered m_slots m_kept m_away m_input m_halfway m_output) [] 0 0 o.1 (wX12 ad c9 m_undoable m_undoStart o.2 m_inputLength m_position m_start m_token m_value m_letters m_code m_place m_outputLength m_s m_parsed m_tried m_remembered m_slots m_kept m_away m_input m_halfway m_output) := by
  refine mI_of hG (cc := cX12_noService) (maxL := 2) (ty := .boolean) (by decide) rfl (Nat.le_of_ble_eq_true rfl) ?_
  intro p e s m args below meth c A X
  have X : vX p s m args meth c cX12_noService 2 (some .boolean) RX12 (wq yX12_noService cX12_noService 2 (some .boolean)) D (tyA c9) G A := X
  refine v_eq (lv2 := [(0, .ref (ad 0)), (1, .int v1)]) rfl rfl rfl rfl ?_
  rw [f_X12_noService] at hf
  refine v_aload_n X dX12_noService_0 0 rfl rfl 1 rfl ?_
  refine v_iload_n X dX12_noService_1 1 rfl rfl 2 rfl ?_
  refine v_iconst X dX12_noService_2 ic_0 3 rfl ?_
  refine v_aload_n X dX12_noService_3 0 rfl rfl 4 rfl ?_
  refine v_get X (C := RX12) (T := TX12) (N := 22) (ci := 11) (v := _) dX12_noService_4 (lay_of laym_X12) 0 rfl rfl 0 (by decide) (mw wm_304) rfl rfl 7 rfl ?_
  refine v_iconst X dX12_noService_7 ic_5 8 rfl ?_
  obtain ⟨x1, hx1, hf⟩ := bnd hf
  refine v_iald X dX12_noService_8 1 0 rfl rfl hx1 9 rfl ?_
  refine v_iconst X dX12_noService_9 ic_1 10 rfl ?_
  refine v_isub X dX12_noService_10 11 rfl ?_
  obtain ⟨o2, ho2, hf⟩ := bnd hf
  refine v_callVi X (ci := 11) (T := TX12) (C := RX12) (As := [.int v1, .int 0, .int (x1 - 1)]) (rest := []) (ws' := (wX12 ad c9 m_undoable m_undoStart o2.2 m_inputLength m_position m_start m_token m_value m_letters m_code m_place m_outputLength m_s m_parsed m_tried m_remembered m_slots m_kept m_away m_input m_halfway m_output)) (c_X12_noNumber l hG D c9 ad m_undoable m_undoStart m_thrown m_inputLength m_position m_start m_token m_value m_letters m_code m_place m_outputLength m_s m_parsed m_tried m_remembered m_slots m_kept m_away m_input m_halfway m_output v1 0 (x1 - 1) ho2) 3 (gV wm_114 wm_115 wm_116 wm_37 wm_117) rfl rfl rfl ⟨rfl, pd_X12_noNumber⟩ ⟨Nat.le_of_ble_eq_true rfl, Nat.le_of_ble_eq_true rfl⟩ 0 rfl rfl rfl rfl (Nat.le_of_ble_eq_true rfl) ⟨Nat.zero_le _, Nat.zero_le _⟩ [0, 1, 2, 3, 4, 5, 6, 7, 8, 9, 10] [] [0, 1, 2, 3, 4, 5, 6, 7, 8, 9, 10] rfl rfl rfl rfl dX12_noService_11 14 rfl ?_
  obtain ⟨z3, hz3, hf⟩ := bnd hf
  obtain rfl := Option.some.inj hf
  exact v_zretq hz3 X (Nat.zero_le _) (Nat.zero_le _) dX12_noService_14
theorem pd_X12_noService : yX12_noService.cls ≠ "java/lang/invoke/MethodHandle" ∧ yX12_noService.cls ≠ "java/lang/invoke/VarHandle" ∧ (parseMethodDescriptor yX12_noService.desc).map (fun d => d.parameters.length) = some 1 := by decide +kernel
def f_X12_noTicket (m_thrown : Int32) (m_s : Nat → Int32) (v1 : Int32) : Option (Int32 × Int32) :=
  (f_X12_find m_s v1).bind fun o1 =>
  if o1 = (-1) then (
    (f_X12_refuses 0 1 1).bind fun o4 =>
    (zr o4.1).bind fun z5 => some (z5, o4.2))
  else (
    (f_X12_refuses 0 0 1).bind fun o2 =>
    (zr o2.1).bind fun z3 => some (z3, o2.2))
set_option maxRecDepth 100000 in
set_option maxHeartbeats 4000000 in
theorem c_X12_noTicket (l : Launch) {G : (Nat → Prop) → State → Heap → Prop} (hG : vG G) (D : va_G) (c9 : Nat → ClassId) (ad : Nat → Nat) (m_undoable : Int32) (m_undoStart : Int32) (m_thrown : Int32) (m_inputLength : Int32) (m_position : Int32) (m_start : Int32) (m_token : Int32) (m_value : Int32) (m_letters : Int32) (m_code : Int32) (m_place : Int32) (m_outputLength : Int32) (m_s : Nat → Int32) (m_parsed : Nat → Int32) (m_tried : Nat → Int32) (m_remembered : Nat → Int32) (m_slots : Nat → Int32) (m_kept : Nat → Int32) (m_away : Nat → Int32) (m_input : Nat → Int32) (m_halfway : Nat → Int32) (m_output : Nat → Int32) (v1 : Int32) {o : Int32 × Int32} (hf : f_X12_noTicket m_thrown m_s v1 = some o) : mI l yX12_noTicket (wq yX12_noTicket cX12_noTicket 2 (some .boolean)) { frames := 2, cells := 0, slots := 0, locals := 42 } G D (tyA c9) [.ref (ad 0), .int v1] (wX12 ad c9 m_undoable m_undoStart m_thrown m_inputLength m_position m_start m_token m_value m_letters m_code m_place m_outputLength m_s m_parsed m_tried m_remembered m_slots m_kept m_away m_input m_halfway m_output) [] 0 0 o.1 (wX12 ad c9 m_undoable m_undoStart o.2 m_inputLength m_position m_start m_token m_value m_letters m_code m_place m_outputLength m_s m_parsed m_tried m_remembered m_slots m_kept m_away m_input m_halfway m_output) := by
  refine mI_of hG (cc := cX12_noTicket) (maxL := 2) (ty := .boolean) (by decide) rfl (Nat.le_of_ble_eq_true rfl) ?_
  intro p e s m args below meth c A X
  have X : vX p s m args meth c cX12_noTicket 2 (some .boolean) RX12 (wq yX12_noTicket cX12_noTicket 2 (some .boolean)) D (tyA c9) G A := X
  refine v_eq (lv2 := [(0, .ref (ad 0)), (1, .int v1)]) rfl rfl rfl rfl ?_
  rw [f_X12_noTicket] at hf
  refine v_aload_n X dX12_noTicket_0 0 rfl rfl 1 rfl ?_
  refine v_iconst X dX12_noTicket_1 ic_0 2 rfl ?_
  refine v_put X (C := RX12) (T := TX12) (N := 22) (ci := 11) (ty := tyX12 8) (ws' := (wX12 ad c9 m_undoable m_undoStart 0 m_inputLength m_position m_start m_token m_value m_letters m_code m_place m_outputLength m_s m_parsed m_tried m_remembered m_slots m_kept m_away m_input m_halfway m_output)) dX12_noTicket_2 (lay_of laym_X12) 0 rfl rfl 8 (by decide) tyX12 tyX12_ok nmX12 (mw wm_33) rfl rfl (tyX12_ok 8 (by decide)) rfl rfl (Nat.le_of_ble_eq_true rfl) rfl 5 rfl ?_
  refine v_aload_n X dX12_noTicket_5 0 rfl rfl 6 rfl ?_
  refine v_aload_n X dX12_noTicket_6 0 rfl rfl 7 rfl ?_
  refine v_get X (C := RX12) (T := TX12) (N := 22) (ci := 11) (v := _) dX12_noTicket_7 (lay_of laym_X12) 0 rfl rfl 0 (by decide) (mw wm_304) rfl rfl 10 rfl ?_
  refine v_iload_n X dX12_noTicket_10 1 rfl rfl 11 rfl ?_
  obtain ⟨o1, ho1, hf⟩ := bnd hf
  refine v_callSi X (As := [.ref (ad 1), .int v1]) (rest := [.ref (ad 0)]) (ws' := (wX12 ad c9 m_undoable m_undoStart 0 m_inputLength m_position m_start m_token m_value m_letters m_code m_place m_outputLength m_s m_parsed m_tried m_remembered m_slots m_kept m_away m_input m_halfway m_output)) (c_X12_find l hG D c9 (ad 1) m_s v1 ho1) 2 (gS wm_174 wm_175 wm_37 wm_176) rfl rfl rfl pd_X12_find ⟨Nat.le_of_ble_eq_true rfl, Nat.le_of_ble_eq_true rfl⟩ rfl rfl (Nat.le_of_ble_eq_true rfl) ⟨Nat.zero_le _, Nat.zero_le _⟩ [1] [0, 2, 3, 4, 5, 6, 7, 8, 9, 10] [0, 10, 1, 2, 3, 4, 5, 6, 7, 8, 9] rfl rfl rfl rfl dX12_noTicket_11 14 rfl ?_
  refine v_iconst X dX12_noTicket_14 ic_m1 15 rfl ?_
  refine v_icmp_ne X (tgt := 22) dX12_noTicket_15 rfl 18 rfl hf (fun hf => ?_) (fun hf => ?_)
  · refine v_iconst X dX12_noTicket_22 ic_0 23 rfl ?_
    refine v_iconst X dX12_noTicket_23 ic_1 24 rfl ?_
    obtain ⟨o2, ho2, hf⟩ := bnd hf
    refine v_callVi X (ci := 11) (T := TX12) (C := RX12) (As := [.int 0, .int 1]) (rest := []) (ws' := (wX12 ad c9 m_undoable m_undoStart o2.2 m_inputLength m_position m_start m_token m_value m_letters m_code m_place m_outputLength m_s m_parsed m_tried m_remembered m_slots m_kept m_away m_input m_halfway m_output)) (c_X12_refuses l hG D c9 ad m_undoable m_undoStart 0 m_inputLength m_position m_start m_token m_value m_letters m_code m_place m_outputLength m_s m_parsed m_tried m_remembered m_slots m_kept m_away m_input m_halfway m_output 0 1 ho2) 2 (gV wm_103 wm_104 wm_105 wm_37 wm_106) rfl rfl rfl ⟨rfl, pd_X12_refuses⟩ ⟨Nat.le_of_ble_eq_true rfl, Nat.le_of_ble_eq_true rfl⟩ 0 rfl rfl rfl rfl (Nat.le_of_ble_eq_true rfl) ⟨Nat.zero_le _, Nat.zero_le _⟩ [0, 1, 2, 3, 4, 5, 6, 7, 8, 9, 10] [] [0, 1, 2, 3, 4, 5, 6, 7, 8, 9, 10] rfl rfl rfl rfl dX12_noTicket_24 27 rfl ?_
    obtain ⟨z3, hz3, hf⟩ := bnd hf
    obtain rfl := Option.some.inj hf
    exact v_zretq hz3 X (Nat.zero_le _) (Nat.zero_le _) dX12_noTicket_27
  · refine v_iconst X dX12_noTicket_18 ic_1 19 rfl ?_
    refine v_goto X (tgt := 23) dX12_noTicket_19 rfl ?_
    refine v_iconst X dX12_noTicket_23 ic_1 24 rfl ?_
    obtain ⟨o4, ho4, hf⟩ := bnd hf
    refine v_callVi X (ci := 11) (T := TX12) (C := RX12) (As := [.int 1, .int 1]) (rest := []) (ws' := (wX12 ad c9 m_undoable m_undoStart o4.2 m_inputLength m_position m_start m_token m_value m_letters m_code m_place m_outputLength m_s m_parsed m_tried m_remembered m_slots m_kept m_away m_input m_halfway m_output)) (c_X12_refuses l hG D c9 ad m_undoable m_undoStart 0 m_inputLength m_position m_start m_token m_value m_letters m_code m_place m_outputLength m_s m_parsed m_tried m_remembered m_slots m_kept m_away m_input m_halfway m_output 1 1 ho4) 2 (gV wm_103 wm_104 wm_105 wm_37 wm_106) rfl rfl rfl ⟨rfl, pd_X12_refuses⟩ ⟨Nat.le_of_ble_eq_true rfl, Nat.le_of_ble_eq_true rfl⟩ 0 rfl rfl rfl rfl (Nat.le_of_ble_eq_true rfl) ⟨Nat.zero_le _, Nat.zero_le _⟩ [0, 1, 2, 3, 4, 5, 6, 7, 8, 9, 10] [] [0, 1, 2, 3, 4, 5, 6, 7, 8, 9, 10] rfl rfl rfl rfl dX12_noTicket_24 27 rfl ?_
    obtain ⟨z5, hz5, hf⟩ := bnd hf
    obtain rfl := Option.some.inj hf
    exact v_zretq hz5 X (Nat.zero_le _) (Nat.zero_le _) dX12_noTicket_27
theorem pd_X12_noTicket : yX12_noTicket.cls ≠ "java/lang/invoke/MethodHandle" ∧ yX12_noTicket.cls ≠ "java/lang/invoke/VarHandle" ∧ (parseMethodDescriptor yX12_noTicket.desc).map (fun d => d.parameters.length) = some 1 := by decide +kernel
def f_X12_out (m_thrown : Int32) (v1 : Int32) (v2 : Int32) (v3 : Int32) : Option (Int32 × Int32) :=
  (f_X12_isBetween v1 v2 v3).bind fun o1 =>
  if o1 = 0 then (
    (f_X12_refuses m_thrown 1 2).bind fun o4 =>
    (zr o4.1).bind fun z5 => some (z5, o4.2))
  else (
    (f_X12_refuses m_thrown 0 2).bind fun o2 =>
    (zr o2.1).bind fun z3 => some (z3, o2.2))
set_option maxRecDepth 100000 in
set_option maxHeartbeats 4000000 in
theorem c_X12_out (l : Launch) {G : (Nat → Prop) → State → Heap → Prop} (hG : vG G) (D : va_G) (c9 : Nat → ClassId) (ad : Nat → Nat) (m_undoable : Int32) (m_undoStart : Int32) (m_thrown : Int32) (m_inputLength : Int32) (m_position : Int32) (m_start : Int32) (m_token : Int32) (m_value : Int32) (m_letters : Int32) (m_code : Int32) (m_place : Int32) (m_outputLength : Int32) (m_s : Nat → Int32) (m_parsed : Nat → Int32) (m_tried : Nat → Int32) (m_remembered : Nat → Int32) (m_slots : Nat → Int32) (m_kept : Nat → Int32) (m_away : Nat → Int32) (m_input : Nat → Int32) (m_halfway : Nat → Int32) (m_output : Nat → Int32) (v1 : Int32) (v2 : Int32) (v3 : Int32) {o : Int32 × Int32} (hf : f_X12_out m_thrown v1 v2 v3 = some o) : mI l yX12_out (wq yX12_out cX12_out 4 (some .boolean)) { frames := 1, cells := 0, slots := 0, locals := 22 } G D (tyA c9) [.ref (ad 0), .int v1, .int v2, .int v3] (wX12 ad c9 m_undoable m_undoStart m_thrown m_inputLength m_position m_start m_token m_value m_letters m_code m_place m_outputLength m_s m_parsed m_tried m_remembered m_slots m_kept m_away m_input m_halfway m_output) [] 0 0 o.1 (wX12 ad c9 m_undoable m_undoStart o.2 m_inputLength m_position m_start m_token m_value m_letters m_code m_place m_outputLength m_s m_parsed m_tried m_remembered m_slots m_kept m_away m_input m_halfway m_output) := by
  refine mI_of hG (cc := cX12_out) (maxL := 4) (ty := .boolean) (by decide) rfl (Nat.le_of_ble_eq_true rfl) ?_
  intro p e s m args below meth c A X
  have X : vX p s m args meth c cX12_out 4 (some .boolean) RX12 (wq yX12_out cX12_out 4 (some .boolean)) D (tyA c9) G A := X
  refine v_eq (lv2 := [(0, .ref (ad 0)), (1, .int v1), (2, .int v2), (3, .int v3)]) rfl rfl rfl rfl ?_
  rw [f_X12_out] at hf
  refine v_aload_n X dX12_out_0 0 rfl rfl 1 rfl ?_
  refine v_iload_n X dX12_out_1 1 rfl rfl 2 rfl ?_
  refine v_iload_n X dX12_out_2 2 rfl rfl 3 rfl ?_
  refine v_iload_n X dX12_out_3 3 rfl rfl 4 rfl ?_
  obtain ⟨o1, ho1, hf⟩ := bnd hf
  refine v_callSi X (As := [.int v1, .int v2, .int v3]) (rest := [.ref (ad 0)]) (ws' := (wX12 ad c9 m_undoable m_undoStart m_thrown m_inputLength m_position m_start m_token m_value m_letters m_code m_place m_outputLength m_s m_parsed m_tried m_remembered m_slots m_kept m_away m_input m_halfway m_output)) (c_X12_isBetween l hG D c9 v1 v2 v3 ho1) 3 (gS wm_111 wm_112 wm_37 wm_113) rfl rfl rfl pd_X12_isBetween ⟨Nat.le_of_ble_eq_true rfl, Nat.le_of_ble_eq_true rfl⟩ rfl rfl (Nat.le_of_ble_eq_true rfl) ⟨Nat.zero_le _, Nat.zero_le _⟩ [] [0, 1, 2, 3, 4, 5, 6, 7, 8, 9, 10] [0, 1, 2, 3, 4, 5, 6, 7, 8, 9, 10] rfl rfl rfl rfl dX12_out_4 7 rfl ?_
  refine v_if_ne X (tgt := 14) dX12_out_7 rfl 10 rfl hf (fun hf => ?_) (fun hf => ?_)
  · refine v_iconst X dX12_out_14 ic_0 15 rfl ?_
    refine v_iconst X dX12_out_15 ic_2 16 rfl ?_
    obtain ⟨o2, ho2, hf⟩ := bnd hf
    refine v_callVi X (ci := 11) (T := TX12) (C := RX12) (As := [.int 0, .int 2]) (rest := []) (ws' := (wX12 ad c9 m_undoable m_undoStart o2.2 m_inputLength m_position m_start m_token m_value m_letters m_code m_place m_outputLength m_s m_parsed m_tried m_remembered m_slots m_kept m_away m_input m_halfway m_output)) (c_X12_refuses l hG D c9 ad m_undoable m_undoStart m_thrown m_inputLength m_position m_start m_token m_value m_letters m_code m_place m_outputLength m_s m_parsed m_tried m_remembered m_slots m_kept m_away m_input m_halfway m_output 0 2 ho2) 2 (gV wm_103 wm_104 wm_105 wm_37 wm_106) rfl rfl rfl ⟨rfl, pd_X12_refuses⟩ ⟨Nat.le_of_ble_eq_true rfl, Nat.le_of_ble_eq_true rfl⟩ 0 rfl rfl rfl rfl (Nat.le_of_ble_eq_true rfl) ⟨Nat.zero_le _, Nat.zero_le _⟩ [0, 1, 2, 3, 4, 5, 6, 7, 8, 9, 10] [] [0, 1, 2, 3, 4, 5, 6, 7, 8, 9, 10] rfl rfl rfl rfl dX12_out_16 19 rfl ?_
    obtain ⟨z3, hz3, hf⟩ := bnd hf
    obtain rfl := Option.some.inj hf
    exact v_zretq hz3 X (Nat.zero_le _) (Nat.zero_le _) dX12_out_19
  · refine v_iconst X dX12_out_10 ic_1 11 rfl ?_
    refine v_goto X (tgt := 15) dX12_out_11 rfl ?_
    refine v_iconst X dX12_out_15 ic_2 16 rfl ?_
    obtain ⟨o4, ho4, hf⟩ := bnd hf
    refine v_callVi X (ci := 11) (T := TX12) (C := RX12) (As := [.int 1, .int 2]) (rest := []) (ws' := (wX12 ad c9 m_undoable m_undoStart o4.2 m_inputLength m_position m_start m_token m_value m_letters m_code m_place m_outputLength m_s m_parsed m_tried m_remembered m_slots m_kept m_away m_input m_halfway m_output)) (c_X12_refuses l hG D c9 ad m_undoable m_undoStart m_thrown m_inputLength m_position m_start m_token m_value m_letters m_code m_place m_outputLength m_s m_parsed m_tried m_remembered m_slots m_kept m_away m_input m_halfway m_output 1 2 ho4) 2 (gV wm_103 wm_104 wm_105 wm_37 wm_106) rfl rfl rfl ⟨rfl, pd_X12_refuses⟩ ⟨Nat.le_of_ble_eq_true rfl, Nat.le_of_ble_eq_true rfl⟩ 0 rfl rfl rfl rfl (Nat.le_of_ble_eq_true rfl) ⟨Nat.zero_le _, Nat.zero_le _⟩ [0, 1, 2, 3, 4, 5, 6, 7, 8, 9, 10] [] [0, 1, 2, 3, 4, 5, 6, 7, 8, 9, 10] rfl rfl rfl rfl dX12_out_16 19 rfl ?_
    obtain ⟨z5, hz5, hf⟩ := bnd hf
    obtain rfl := Option.some.inj hf
    exact v_zretq hz5 X (Nat.zero_le _) (Nat.zero_le _) dX12_out_19
theorem pd_X12_out : yX12_out.cls ≠ "java/lang/invoke/MethodHandle" ∧ yX12_out.cls ≠ "java/lang/invoke/VarHandle" ∧ (parseMethodDescriptor yX12_out.desc).map (fun d => d.parameters.length) = some 3 := by decide +kernel
def f_X12_time (m_thrown : Int32) (m_s : Nat → Int32) : Option (Int32 × Int32) :=
  (rd m_s 463 0).bind fun x1 =>
  some (x1, 0)
set_option maxRecDepth 100000 in
set_option maxHeartbeats 4000000 in
theorem c_X12_time (l : Launch) {G : (Nat → Prop) → State → Heap → Prop} (hG : vG G) (D : va_G) (c9 : Nat → ClassId) (ad : Nat → Nat) (m_undoable : Int32) (m_undoStart : Int32) (m_thrown : Int32) (m_inputLength : Int32) (m_position : Int32) (m_start : Int32) (m_token : Int32) (m_value : Int32) (m_letters : Int32) (m_code : Int32) (m_place : Int32) (m_outputLength : Int32) (m_s : Nat → Int32) (m_parsed : Nat → Int32) (m_tried : Nat → Int32) (m_remembered : Nat → Int32) (m_slots : Nat → Int32) (m_kept : Nat → Int32) (m_away : Nat → Int32) (m_input : Nat → Int32) (m_halfway : Nat → Int32) (m_output : Nat → Int32)  {o : Int32 × Int32} (hf : f_X12_time m_thrown m_s = some o) : mI l yX12_time (wq yX12_time cX12_time 1 (some .int)) { frames := 0, cells := 0, slots := 0, locals := 0 } G D (tyA c9) [.ref (ad 0)] (wX12 ad c9 m_undoable m_undoStart m_thrown m_inputLength m_position m_start m_token m_value m_letters m_code m_place m_outputLength m_s m_parsed m_tried m_remembered m_slots m_kept m_away m_input m_halfway m_output) [] 0 0 o.1 (wX12 ad c9 m_undoable m_undoStart o.2 m_inputLength m_position m_start m_token m_value m_letters m_code m_place m_outputLength m_s m_parsed m_tried m_remembered m_slots m_kept m_away m_input m_halfway m_output) := by
  refine mI_of hG (cc := cX12_time) (maxL := 1) (ty := .int) (by decide) rfl (Nat.le_of_ble_eq_true rfl) ?_
  intro p e s m args below meth c A X
  have X : vX p s m args meth c cX12_time 1 (some .int) RX12 (wq yX12_time cX12_time 1 (some .int)) D (tyA c9) G A := X
  refine v_eq (lv2 := [(0, .ref (ad 0))]) rfl rfl rfl rfl ?_
  rw [f_X12_time] at hf
  refine v_aload_n X dX12_time_0 0 rfl rfl 1 rfl ?_
  refine v_iconst X dX12_time_1 ic_0 2 rfl ?_
  refine v_put X (C := RX12) (T := TX12) (N := 22) (ci := 11) (ty := tyX12 8) (ws' := (wX12 ad c9 m_undoable m_undoStart 0 m_inputLength m_position m_start m_token m_value m_letters m_code m_place m_outputLength m_s m_parsed m_tried m_remembered m_slots m_kept m_away m_input m_halfway m_output)) dX12_time_2 (lay_of laym_X12) 0 rfl rfl 8 (by decide) tyX12 tyX12_ok nmX12 (mw wm_33) rfl rfl (tyX12_ok 8 (by decide)) rfl rfl (Nat.le_of_ble_eq_true rfl) rfl 5 rfl ?_
  refine v_aload_n X dX12_time_5 0 rfl rfl 6 rfl ?_
  refine v_get X (C := RX12) (T := TX12) (N := 22) (ci := 11) (v := _) dX12_time_6 (lay_of laym_X12) 0 rfl rfl 0 (by decide) (mw wm_304) rfl rfl 9 rfl ?_
  refine v_iconst X dX12_time_9 ic_0 10 rfl ?_
  obtain ⟨x1, hx1, hf⟩ := bnd hf
  refine v_iald X dX12_time_10 1 0 rfl rfl hx1 11 rfl ?_
  obtain rfl := Option.some.inj hf
  exact v_iret X (Nat.zero_le _) (Nat.zero_le _) dX12_time_11
theorem pd_X12_time : yX12_time.cls ≠ "java/lang/invoke/MethodHandle" ∧ yX12_time.cls ≠ "java/lang/invoke/VarHandle" ∧ (parseMethodDescriptor yX12_time.desc).map (fun d => d.parameters.length) = some 0 := by decide +kernel
def f_X12_seed (m_thrown : Int32) (m_s : Nat → Int32) : Option (Int32 × Int32) :=
  (rd m_s 463 2).bind fun x1 =>
  some (x1, 0)
set_option maxRecDepth 100000 in
set_option maxHeartbeats 4000000 in
theorem c_X12_seed (l : Launch) {G : (Nat → Prop) → State → Heap → Prop} (hG : vG G) (D : va_G) (c9 : Nat → ClassId) (ad : Nat → Nat) (m_undoable : Int32) (m_undoStart : Int32) (m_thrown : Int32) (m_inputLength : Int32) (m_position : Int32) (m_start : Int32) (m_token : Int32) (m_value : Int32) (m_letters : Int32) (m_code : Int32) (m_place : Int32) (m_outputLength : Int32) (m_s : Nat → Int32) (m_parsed : Nat → Int32) (m_tried : Nat → Int32) (m_remembered : Nat → Int32) (m_slots : Nat → Int32) (m_kept : Nat → Int32) (m_away : Nat → Int32) (m_input : Nat → Int32) (m_halfway : Nat → Int32) (m_output : Nat → Int32)  {o : Int32 × Int32} (hf : f_X12_seed m_thrown m_s = some o) : mI l yX12_seed (wq yX12_seed cX12_seed 1 (some .int)) { frames := 0, cells := 0, slots := 0, locals := 0 } G D (tyA c9) [.ref (ad 0)] (wX12 ad c9 m_undoable m_undoStart m_thrown m_inputLength m_position m_start m_token m_value m_letters m_code m_place m_outputLength m_s m_parsed m_tried m_remembered m_slots m_kept m_away m_input m_halfway m_output) [] 0 0 o.1 (wX12 ad c9 m_undoable m_undoStart o.2 m_inputLength m_position m_start m_token m_value m_letters m_code m_place m_outputLength m_s m_parsed m_tried m_remembered m_slots m_kept m_away m_input m_halfway m_output) := by
  refine mI_of hG (cc := cX12_seed) (maxL := 1) (ty := .int) (by decide) rfl (Nat.le_of_ble_eq_true rfl) ?_
  intro p e s m args below meth c A X
  have X : vX p s m args meth c cX12_seed 1 (some .int) RX12 (wq yX12_seed cX12_seed 1 (some .int)) D (tyA c9) G A := X
  refine v_eq (lv2 := [(0, .ref (ad 0))]) rfl rfl rfl rfl ?_
  rw [f_X12_seed] at hf
  refine v_aload_n X dX12_seed_0 0 rfl rfl 1 rfl ?_
  refine v_iconst X dX12_seed_1 ic_0 2 rfl ?_
  refine v_put X (C := RX12) (T := TX12) (N := 22) (ci := 11) (ty := tyX12 8) (ws' := (wX12 ad c9 m_undoable m_undoStart 0 m_inputLength m_position m_start m_token m_value m_letters m_code m_place m_outputLength m_s m_parsed m_tried m_remembered m_slots m_kept m_away m_input m_halfway m_output)) dX12_seed_2 (lay_of laym_X12) 0 rfl rfl 8 (by decide) tyX12 tyX12_ok nmX12 (mw wm_33) rfl rfl (tyX12_ok 8 (by decide)) rfl rfl (Nat.le_of_ble_eq_true rfl) rfl 5 rfl ?_
  refine v_aload_n X dX12_seed_5 0 rfl rfl 6 rfl ?_
  refine v_get X (C := RX12) (T := TX12) (N := 22) (ci := 11) (v := _) dX12_seed_6 (lay_of laym_X12) 0 rfl rfl 0 (by decide) (mw wm_304) rfl rfl 9 rfl ?_
  refine v_iconst X dX12_seed_9 ic_2 10 rfl ?_
  obtain ⟨x1, hx1, hf⟩ := bnd hf
  refine v_iald X dX12_seed_10 1 0 rfl rfl hx1 11 rfl ?_
  obtain rfl := Option.some.inj hf
  exact v_iret X (Nat.zero_le _) (Nat.zero_le _) dX12_seed_11
theorem pd_X12_seed : yX12_seed.cls ≠ "java/lang/invoke/MethodHandle" ∧ yX12_seed.cls ≠ "java/lang/invoke/VarHandle" ∧ (parseMethodDescriptor yX12_seed.desc).map (fun d => d.parameters.length) = some 0 := by decide +kernel
def f_X12_realmCount (m_thrown : Int32) (m_s : Nat → Int32) : Option (Int32 × Int32) :=
  (rd m_s 463 3).bind fun x1 =>
  some (x1, 0)
set_option maxRecDepth 100000 in
set_option maxHeartbeats 4000000 in
theorem c_X12_realmCount (l : Launch) {G : (Nat → Prop) → State → Heap → Prop} (hG : vG G) (D : va_G) (c9 : Nat → ClassId) (ad : Nat → Nat) (m_undoable : Int32) (m_undoStart : Int32) (m_thrown : Int32) (m_inputLength : Int32) (m_position : Int32) (m_start : Int32) (m_token : Int32) (m_value : Int32) (m_letters : Int32) (m_code : Int32) (m_place : Int32) (m_outputLength : Int32) (m_s : Nat → Int32) (m_parsed : Nat → Int32) (m_tried : Nat → Int32) (m_remembered : Nat → Int32) (m_slots : Nat → Int32) (m_kept : Nat → Int32) (m_away : Nat → Int32) (m_input : Nat → Int32) (m_halfway : Nat → Int32) (m_output : Nat → Int32)  {o : Int32 × Int32} (hf : f_X12_realmCount m_thrown m_s = some o) : mI l yX12_realmCount (wq yX12_realmCount cX12_realmCount 1 (some .int)) { frames := 0, cells := 0, slots := 0, locals := 0 } G D (tyA c9) [.ref (ad 0)] (wX12 ad c9 m_undoable m_undoStart m_thrown m_inputLength m_position m_start m_token m_value m_letters m_code m_place m_outputLength m_s m_parsed m_tried m_remembered m_slots m_kept m_away m_input m_halfway m_output) [] 0 0 o.1 (wX12 ad c9 m_undoable m_undoStart o.2 m_inputLength m_position m_start m_token m_value m_letters m_code m_place m_outputLength m_s m_parsed m_tried m_remembered m_slots m_kept m_away m_input m_halfway m_output) := by
  refine mI_of hG (cc := cX12_realmCount) (maxL := 1) (ty := .int) (by decide) rfl (Nat.le_of_ble_eq_true rfl) ?_
  intro p e s m args below meth c A X
  have X : vX p s m args meth c cX12_realmCount 1 (some .int) RX12 (wq yX12_realmCount cX12_realmCount 1 (some .int)) D (tyA c9) G A := X
  refine v_eq (lv2 := [(0, .ref (ad 0))]) rfl rfl rfl rfl ?_
  rw [f_X12_realmCount] at hf
  refine v_aload_n X dX12_realmCount_0 0 rfl rfl 1 rfl ?_
  refine v_iconst X dX12_realmCount_1 ic_0 2 rfl ?_
  refine v_put X (C := RX12) (T := TX12) (N := 22) (ci := 11) (ty := tyX12 8) (ws' := (wX12 ad c9 m_undoable m_undoStart 0 m_inputLength m_position m_start m_token m_value m_letters m_code m_place m_outputLength m_s m_parsed m_tried m_remembered m_slots m_kept m_away m_input m_halfway m_output)) dX12_realmCount_2 (lay_of laym_X12) 0 rfl rfl 8 (by decide) tyX12 tyX12_ok nmX12 (mw wm_33) rfl rfl (tyX12_ok 8 (by decide)) rfl rfl (Nat.le_of_ble_eq_true rfl) rfl 5 rfl ?_
  refine v_aload_n X dX12_realmCount_5 0 rfl rfl 6 rfl ?_
  refine v_get X (C := RX12) (T := TX12) (N := 22) (ci := 11) (v := _) dX12_realmCount_6 (lay_of laym_X12) 0 rfl rfl 0 (by decide) (mw wm_304) rfl rfl 9 rfl ?_
  refine v_iconst X dX12_realmCount_9 ic_3 10 rfl ?_
  obtain ⟨x1, hx1, hf⟩ := bnd hf
  refine v_iald X dX12_realmCount_10 1 0 rfl rfl hx1 11 rfl ?_
  obtain rfl := Option.some.inj hf
  exact v_iret X (Nat.zero_le _) (Nat.zero_le _) dX12_realmCount_11
theorem pd_X12_realmCount : yX12_realmCount.cls ≠ "java/lang/invoke/MethodHandle" ∧ yX12_realmCount.cls ≠ "java/lang/invoke/VarHandle" ∧ (parseMethodDescriptor yX12_realmCount.desc).map (fun d => d.parameters.length) = some 0 := by decide +kernel
def f_X12_userCount (m_thrown : Int32) (m_s : Nat → Int32) : Option (Int32 × Int32) :=
  (rd m_s 463 4).bind fun x1 =>
  some (x1, 0)
set_option maxRecDepth 100000 in
set_option maxHeartbeats 4000000 in
theorem c_X12_userCount (l : Launch) {G : (Nat → Prop) → State → Heap → Prop} (hG : vG G) (D : va_G) (c9 : Nat → ClassId) (ad : Nat → Nat) (m_undoable : Int32) (m_undoStart : Int32) (m_thrown : Int32) (m_inputLength : Int32) (m_position : Int32) (m_start : Int32) (m_token : Int32) (m_value : Int32) (m_letters : Int32) (m_code : Int32) (m_place : Int32) (m_outputLength : Int32) (m_s : Nat → Int32) (m_parsed : Nat → Int32) (m_tried : Nat → Int32) (m_remembered : Nat → Int32) (m_slots : Nat → Int32) (m_kept : Nat → Int32) (m_away : Nat → Int32) (m_input : Nat → Int32) (m_halfway : Nat → Int32) (m_output : Nat → Int32)  {o : Int32 × Int32} (hf : f_X12_userCount m_thrown m_s = some o) : mI l yX12_userCount (wq yX12_userCount cX12_userCount 1 (some .int)) { frames := 0, cells := 0, slots := 0, locals := 0 } G D (tyA c9) [.ref (ad 0)] (wX12 ad c9 m_undoable m_undoStart m_thrown m_inputLength m_position m_start m_token m_value m_letters m_code m_place m_outputLength m_s m_parsed m_tried m_remembered m_slots m_kept m_away m_input m_halfway m_output) [] 0 0 o.1 (wX12 ad c9 m_undoable m_undoStart o.2 m_inputLength m_position m_start m_token m_value m_letters m_code m_place m_outputLength m_s m_parsed m_tried m_remembered m_slots m_kept m_away m_input m_halfway m_output) := by
  refine mI_of hG (cc := cX12_userCount) (maxL := 1) (ty := .int) (by decide) rfl (Nat.le_of_ble_eq_true rfl) ?_
  intro p e s m args below meth c A X
  have X : vX p s m args meth c cX12_userCount 1 (some .int) RX12 (wq yX12_userCount cX12_userCount 1 (some .int)) D (tyA c9) G A := X
  refine v_eq (lv2 := [(0, .ref (ad 0))]) rfl rfl rfl rfl ?_
  rw [f_X12_userCount] at hf
  refine v_aload_n X dX12_userCount_0 0 rfl rfl 1 rfl ?_
  refine v_iconst X dX12_userCount_1 ic_0 2 rfl ?_
  refine v_put X (C := RX12) (T := TX12) (N := 22) (ci := 11) (ty := tyX12 8) (ws' := (wX12 ad c9 m_undoable m_undoStart 0 m_inputLength m_position m_start m_token m_value m_letters m_code m_place m_outputLength m_s m_parsed m_tried m_remembered m_slots m_kept m_away m_input m_halfway m_output)) dX12_userCount_2 (lay_of laym_X12) 0 rfl rfl 8 (by decide) tyX12 tyX12_ok nmX12 (mw wm_33) rfl rfl (tyX12_ok 8 (by decide)) rfl rfl (Nat.le_of_ble_eq_true rfl) rfl 5 rfl ?_
  refine v_aload_n X dX12_userCount_5 0 rfl rfl 6 rfl ?_
  refine v_get X (C := RX12) (T := TX12) (N := 22) (ci := 11) (v := _) dX12_userCount_6 (lay_of laym_X12) 0 rfl rfl 0 (by decide) (mw wm_304) rfl rfl 9 rfl ?_
  refine v_iconst X dX12_userCount_9 ic_4 10 rfl ?_
  obtain ⟨x1, hx1, hf⟩ := bnd hf
  refine v_iald X dX12_userCount_10 1 0 rfl rfl hx1 11 rfl ?_
  obtain rfl := Option.some.inj hf
  exact v_iret X (Nat.zero_le _) (Nat.zero_le _) dX12_userCount_11
theorem pd_X12_userCount : yX12_userCount.cls ≠ "java/lang/invoke/MethodHandle" ∧ yX12_userCount.cls ≠ "java/lang/invoke/VarHandle" ∧ (parseMethodDescriptor yX12_userCount.desc).map (fun d => d.parameters.length) = some 0 := by decide +kernel
def f_X12_serviceCount (m_thrown : Int32) (m_s : Nat → Int32) : Option (Int32 × Int32) :=
  (rd m_s 463 5).bind fun x1 =>
  some (x1, 0)
set_option maxRecDepth 100000 in
set_option maxHeartbeats 4000000 in
theorem c_X12_serviceCount (l : Launch) {G : (Nat → Prop) → State → Heap → Prop} (hG : vG G) (D : va_G) (c9 : Nat → ClassId) (ad : Nat → Nat) (m_undoable : Int32) (m_undoStart : Int32) (m_thrown : Int32) (m_inputLength : Int32) (m_position : Int32) (m_start : Int32) (m_token : Int32) (m_value : Int32) (m_letters : Int32) (m_code : Int32) (m_place : Int32) (m_outputLength : Int32) (m_s : Nat → Int32) (m_parsed : Nat → Int32) (m_tried : Nat → Int32) (m_remembered : Nat → Int32) (m_slots : Nat → Int32) (m_kept : Nat → Int32) (m_away : Nat → Int32) (m_input : Nat → Int32) (m_halfway : Nat → Int32) (m_output : Nat → Int32)  {o : Int32 × Int32} (hf : f_X12_serviceCount m_thrown m_s = some o) : mI l yX12_serviceCount (wq yX12_serviceCount cX12_serviceCount 1 (some .int)) { frames := 0, cells := 0, slots := 0, locals := 0 } G D (tyA c9) [.ref (ad 0)] (wX12 ad c9 m_undoable m_undoStart m_thrown m_inputLength m_position m_start m_token m_value m_letters m_code m_place m_outputLength m_s m_parsed m_tried m_remembered m_slots m_kept m_away m_input m_halfway m_output) [] 0 0 o.1 (wX12 ad c9 m_undoable m_undoStart o.2 m_inputLength m_position m_start m_token m_value m_letters m_code m_place m_outputLength m_s m_parsed m_tried m_remembered m_slots m_kept m_away m_input m_halfway m_output) := by
  refine mI_of hG (cc := cX12_serviceCount) (maxL := 1) (ty := .int) (by decide) rfl (Nat.le_of_ble_eq_true rfl) ?_
  intro p e s m args below meth c A X
  have X : vX p s m args meth c cX12_serviceCount 1 (some .int) RX12 (wq yX12_serviceCount cX12_serviceCount 1 (some .int)) D (tyA c9) G A := X
  refine v_eq (lv2 := [(0, .ref (ad 0))]) rfl rfl rfl rfl ?_
  rw [f_X12_serviceCount] at hf
  refine v_aload_n X dX12_serviceCount_0 0 rfl rfl 1 rfl ?_
  refine v_iconst X dX12_serviceCount_1 ic_0 2 rfl ?_
  refine v_put X (C := RX12) (T := TX12) (N := 22) (ci := 11) (ty := tyX12 8) (ws' := (wX12 ad c9 m_undoable m_undoStart 0 m_inputLength m_position m_start m_token m_value m_letters m_code m_place m_outputLength m_s m_parsed m_tried m_remembered m_slots m_kept m_away m_input m_halfway m_output)) dX12_serviceCount_2 (lay_of laym_X12) 0 rfl rfl 8 (by decide) tyX12 tyX12_ok nmX12 (mw wm_33) rfl rfl (tyX12_ok 8 (by decide)) rfl rfl (Nat.le_of_ble_eq_true rfl) rfl 5 rfl ?_
  refine v_aload_n X dX12_serviceCount_5 0 rfl rfl 6 rfl ?_
  refine v_get X (C := RX12) (T := TX12) (N := 22) (ci := 11) (v := _) dX12_serviceCount_6 (lay_of laym_X12) 0 rfl rfl 0 (by decide) (mw wm_304) rfl rfl 9 rfl ?_
  refine v_iconst X dX12_serviceCount_9 ic_5 10 rfl ?_
  obtain ⟨x1, hx1, hf⟩ := bnd hf
  refine v_iald X dX12_serviceCount_10 1 0 rfl rfl hx1 11 rfl ?_
  obtain rfl := Option.some.inj hf
  exact v_iret X (Nat.zero_le _) (Nat.zero_le _) dX12_serviceCount_11
theorem pd_X12_serviceCount : yX12_serviceCount.cls ≠ "java/lang/invoke/MethodHandle" ∧ yX12_serviceCount.cls ≠ "java/lang/invoke/VarHandle" ∧ (parseMethodDescriptor yX12_serviceCount.desc).map (fun d => d.parameters.length) = some 0 := by decide +kernel
def f_X12_findName (m_thrown : Int32) (m_inputLength : Int32) (m_s : Nat → Int32) (m_input : Nat → Int32) : Option (Int32 × Int32) :=
  (f_X12_nameFrom m_input 0 m_inputLength).bind fun o1 =>
  if o1 = (-1) then (
    some ((-1), 0))
  else (
    (f_X12_named m_s o1).bind fun o2 =>
    some (o2, 0))
set_option maxRecDepth 100000 in
set_option maxHeartbeats 4000000 in
theorem c_X12_findName (l : Launch) {G : (Nat → Prop) → State → Heap → Prop} (hG : vG G) (D : va_G) (c9 : Nat → ClassId) (ad : Nat → Nat) (m_undoable : Int32) (m_undoStart : Int32) (m_thrown : Int32) (m_inputLength : Int32) (m_position : Int32) (m_start : Int32) (m_token : Int32) (m_value : Int32) (m_letters : Int32) (m_code : Int32) (m_place : Int32) (m_outputLength : Int32) (m_s : Nat → Int32) (m_parsed : Nat → Int32) (m_tried : Nat → Int32) (m_remembered : Nat → Int32) (m_slots : Nat → Int32) (m_kept : Nat → Int32) (m_away : Nat → Int32) (m_input : Nat → Int32) (m_halfway : Nat → Int32) (m_output : Nat → Int32)  {o : Int32 × Int32} (hf : f_X12_findName m_thrown m_inputLength m_s m_input = some o) : mI l yX12_findName (wq yX12_findName cX12_findName 2 (some .int)) { frames := 3, cells := 0, slots := 0, locals := 66 } G D (tyA c9) [.ref (ad 0)] (wX12 ad c9 m_undoable m_undoStart m_thrown m_inputLength m_position m_start m_token m_value m_letters m_code m_place m_outputLength m_s m_parsed m_tried m_remembered m_slots m_kept m_away m_input m_halfway m_output) [] 0 0 o.1 (wX12 ad c9 m_undoable m_undoStart o.2 m_inputLength m_position m_start m_token m_value m_letters m_code m_place m_outputLength m_s m_parsed m_tried m_remembered m_slots m_kept m_away m_input m_halfway m_output) := by
  refine mI_of hG (cc := cX12_findName) (maxL := 2) (ty := .int) (by decide) rfl (Nat.le_of_ble_eq_true rfl) ?_
  intro p e s m args below meth c A X
  have X : vX p s m args meth c cX12_findName 2 (some .int) RX12 (wq yX12_findName cX12_findName 2 (some .int)) D (tyA c9) G A := X
  refine v_eq (lv2 := [(0, .ref (ad 0))]) rfl rfl rfl rfl ?_
  rw [f_X12_findName] at hf
  refine v_aload_n X dX12_findName_0 0 rfl rfl 1 rfl ?_
  refine v_iconst X dX12_findName_1 ic_0 2 rfl ?_
  refine v_put X (C := RX12) (T := TX12) (N := 22) (ci := 11) (ty := tyX12 8) (ws' := (wX12 ad c9 m_undoable m_undoStart 0 m_inputLength m_position m_start m_token m_value m_letters m_code m_place m_outputLength m_s m_parsed m_tried m_remembered m_slots m_kept m_away m_input m_halfway m_output)) dX12_findName_2 (lay_of laym_X12) 0 rfl rfl 8 (by decide) tyX12 tyX12_ok nmX12 (mw wm_33) rfl rfl (tyX12_ok 8 (by decide)) rfl rfl (Nat.le_of_ble_eq_true rfl) rfl 5 rfl ?_
  refine v_aload_n X dX12_findName_5 0 rfl rfl 6 rfl ?_
  refine v_iconst X dX12_findName_6 ic_0 7 rfl ?_
  refine v_aload_n X dX12_findName_7 0 rfl rfl 8 rfl ?_
  refine v_get X (C := RX12) (T := TX12) (N := 22) (ci := 11) (v := _) dX12_findName_8 (lay_of laym_X12) 0 rfl rfl 11 (by decide) (mw wm_32) rfl rfl 11 rfl ?_
  obtain ⟨o1, ho1, hf⟩ := bnd hf
  refine v_callVi X (ci := 11) (T := TX12) (C := RX12) (As := [.int 0, .int m_inputLength]) (rest := []) (ws' := (wX12 ad c9 m_undoable m_undoStart 0 m_inputLength m_position m_start m_token m_value m_letters m_code m_place m_outputLength m_s m_parsed m_tried m_remembered m_slots m_kept m_away m_input m_halfway m_output)) (c_X12_nameFrom l hG D c9 ad m_undoable m_undoStart 0 m_inputLength m_position m_start m_token m_value m_letters m_code m_place m_outputLength m_s m_parsed m_tried m_remembered m_slots m_kept m_away m_input m_halfway m_output 0 m_inputLength ho1) 2 (gV wm_158 wm_159 wm_160 wm_37 wm_161) rfl rfl rfl ⟨rfl, pd_X12_nameFrom⟩ ⟨Nat.le_of_ble_eq_true rfl, Nat.le_of_ble_eq_true rfl⟩ 0 rfl rfl rfl rfl (Nat.le_of_ble_eq_true rfl) ⟨Nat.zero_le _, Nat.zero_le _⟩ [0, 1, 2, 3, 4, 5, 6, 7, 8, 9, 10] [] [0, 1, 2, 3, 4, 5, 6, 7, 8, 9, 10] rfl rfl rfl rfl dX12_findName_11 14 rfl ?_
  refine v_istore_n X (lv' := [(1, .int o1), (0, .ref (ad 0))]) dX12_findName_14 rfl (by decide) rfl 15 rfl ?_
  refine v_iload_n X dX12_findName_15 0 rfl rfl 16 rfl ?_
  refine v_iconst X dX12_findName_16 ic_m1 17 rfl ?_
  refine v_icmp_ne X (tgt := 24) dX12_findName_17 rfl 20 rfl hf (fun hf => ?_) (fun hf => ?_)
  · refine v_aload_n X dX12_findName_24 1 rfl rfl 25 rfl ?_
    refine v_get X (C := RX12) (T := TX12) (N := 22) (ci := 11) (v := _) dX12_findName_25 (lay_of laym_X12) 0 rfl rfl 0 (by decide) (mw wm_304) rfl rfl 28 rfl ?_
    refine v_iload_n X dX12_findName_28 0 rfl rfl 29 rfl ?_
    obtain ⟨o2, ho2, hf⟩ := bnd hf
    refine v_callSi X (As := [.ref (ad 1), .int o1]) (rest := []) (ws' := (wX12 ad c9 m_undoable m_undoStart 0 m_inputLength m_position m_start m_token m_value m_letters m_code m_place m_outputLength m_s m_parsed m_tried m_remembered m_slots m_kept m_away m_input m_halfway m_output)) (c_X12_named l hG D c9 (ad 1) m_s o1 ho2) 2 (gS wm_163 wm_164 wm_37 wm_165) rfl rfl rfl pd_X12_named ⟨Nat.le_of_ble_eq_true rfl, Nat.le_of_ble_eq_true rfl⟩ rfl rfl (Nat.le_of_ble_eq_true rfl) ⟨Nat.zero_le _, Nat.zero_le _⟩ [1] [0, 2, 3, 4, 5, 6, 7, 8, 9, 10] [0, 10, 1, 2, 3, 4, 5, 6, 7, 8, 9] rfl rfl rfl rfl dX12_findName_29 32 rfl ?_
    obtain rfl := Option.some.inj hf
    exact v_iret X (Nat.zero_le _) (Nat.zero_le _) dX12_findName_32
  · refine v_iconst X dX12_findName_20 ic_m1 21 rfl ?_
    refine v_goto X (tgt := 32) dX12_findName_21 rfl ?_
    obtain rfl := Option.some.inj hf
    exact v_iret X (Nat.zero_le _) (Nat.zero_le _) dX12_findName_32
theorem pd_X12_findName : yX12_findName.cls ≠ "java/lang/invoke/MethodHandle" ∧ yX12_findName.cls ≠ "java/lang/invoke/VarHandle" ∧ (parseMethodDescriptor yX12_findName.desc).map (fun d => d.parameters.length) = some 0 := by decide +kernel
def f_X12_lifetimeOf (m_thrown : Int32) (m_s : Nat → Int32) (v1 : Int32) : Option (Int32 × Int32) :=
  (f_X12_noRealm m_thrown m_s v1).bind fun o1 =>
  if o1.1 = 0 then (
    (f_X12_ofRealm v1).bind fun o2 =>
    (rd m_s 463 (o2 + 1)).bind fun x3 =>
    some (x3, o1.2))
  else (
    some (0, o1.2))
set_option maxRecDepth 100000 in
set_option maxHeartbeats 4000000 in
theorem c_X12_lifetimeOf (l : Launch) {G : (Nat → Prop) → State → Heap → Prop} (hG : vG G) (D : va_G) (c9 : Nat → ClassId) (ad : Nat → Nat) (m_undoable : Int32) (m_undoStart : Int32) (m_thrown : Int32) (m_inputLength : Int32) (m_position : Int32) (m_start : Int32) (m_token : Int32) (m_value : Int32) (m_letters : Int32) (m_code : Int32) (m_place : Int32) (m_outputLength : Int32) (m_s : Nat → Int32) (m_parsed : Nat → Int32) (m_tried : Nat → Int32) (m_remembered : Nat → Int32) (m_slots : Nat → Int32) (m_kept : Nat → Int32) (m_away : Nat → Int32) (m_input : Nat → Int32) (m_halfway : Nat → Int32) (m_output : Nat → Int32) (v1 : Int32) {o : Int32 × Int32} (hf : f_X12_lifetimeOf m_thrown m_s v1 = some o) : mI l yX12_lifetimeOf (wq yX12_lifetimeOf cX12_lifetimeOf 2 (some .int)) { frames := 3, cells := 0, slots := 0, locals := 66 } G D (tyA c9) [.ref (ad 0), .int v1] (wX12 ad c9 m_undoable m_undoStart m_thrown m_inputLength m_position m_start m_token m_value m_letters m_code m_place m_outputLength m_s m_parsed m_tried m_remembered m_slots m_kept m_away m_input m_halfway m_output) [] 0 0 o.1 (wX12 ad c9 m_undoable m_undoStart o.2 m_inputLength m_position m_start m_token m_value m_letters m_code m_place m_outputLength m_s m_parsed m_tried m_remembered m_slots m_kept m_away m_input m_halfway m_output) := by
  refine mI_of hG (cc := cX12_lifetimeOf) (maxL := 2) (ty := .int) (by decide) rfl (Nat.le_of_ble_eq_true rfl) ?_
  intro p e s m args below meth c A X
  have X : vX p s m args meth c cX12_lifetimeOf 2 (some .int) RX12 (wq yX12_lifetimeOf cX12_lifetimeOf 2 (some .int)) D (tyA c9) G A := X
  refine v_eq (lv2 := [(0, .ref (ad 0)), (1, .int v1)]) rfl rfl rfl rfl ?_
  rw [f_X12_lifetimeOf] at hf
  refine v_aload_n X dX12_lifetimeOf_0 0 rfl rfl 1 rfl ?_
  refine v_iload_n X dX12_lifetimeOf_1 1 rfl rfl 2 rfl ?_
  obtain ⟨o1, ho1, hf⟩ := bnd hf
  refine v_callVi X (ci := 11) (T := TX12) (C := RX12) (As := [.int v1]) (rest := []) (ws' := (wX12 ad c9 m_undoable m_undoStart o1.2 m_inputLength m_position m_start m_token m_value m_letters m_code m_place m_outputLength m_s m_parsed m_tried m_remembered m_slots m_kept m_away m_input m_halfway m_output)) (c_X12_noRealm l hG D c9 ad m_undoable m_undoStart m_thrown m_inputLength m_position m_start m_token m_value m_letters m_code m_place m_outputLength m_s m_parsed m_tried m_remembered m_slots m_kept m_away m_input m_halfway m_output v1 ho1) 1 (gV wm_317 wm_318 wm_319 wm_37 wm_320) rfl rfl rfl ⟨rfl, pd_X12_noRealm⟩ ⟨Nat.le_of_ble_eq_true rfl, Nat.le_of_ble_eq_true rfl⟩ 0 rfl rfl rfl rfl (Nat.le_of_ble_eq_true rfl) ⟨Nat.zero_le _, Nat.zero_le _⟩ [0, 1, 2, 3, 4, 5, 6, 7, 8, 9, 10] [] [0, 1, 2, 3, 4, 5, 6, 7, 8, 9, 10] rfl rfl rfl rfl dX12_lifetimeOf_2 5 rfl ?_
  refine v_if_eq X (tgt := 10) dX12_lifetimeOf_5 rfl 8 rfl hf (fun hf => ?_) (fun hf => ?_)
  · refine v_aload_n X dX12_lifetimeOf_10 0 rfl rfl 11 rfl ?_
    refine v_get X (C := RX12) (T := TX12) (N := 22) (ci := 11) (v := _) dX12_lifetimeOf_11 (lay_of laym_X12) 0 rfl rfl 0 (by decide) (mw wm_304) rfl rfl 14 rfl ?_
    refine v_iload_n X dX12_lifetimeOf_14 1 rfl rfl 15 rfl ?_
    obtain ⟨o2, ho2, hf⟩ := bnd hf
    refine v_callSi X (As := [.int v1]) (rest := [.ref (ad 1)]) (ws' := (wX12 ad c9 m_undoable m_undoStart o1.2 m_inputLength m_position m_start m_token m_value m_letters m_code m_place m_outputLength m_s m_parsed m_tried m_remembered m_slots m_kept m_away m_input m_halfway m_output)) (c_X12_ofRealm l hG D c9 v1 ho2) 1 (gS wm_49 wm_50 wm_37 wm_51) rfl rfl rfl pd_X12_ofRealm ⟨Nat.le_of_ble_eq_true rfl, Nat.le_of_ble_eq_true rfl⟩ rfl rfl (Nat.le_of_ble_eq_true rfl) ⟨Nat.zero_le _, Nat.zero_le _⟩ [] [0, 1, 2, 3, 4, 5, 6, 7, 8, 9, 10] [0, 1, 2, 3, 4, 5, 6, 7, 8, 9, 10] rfl rfl rfl rfl dX12_lifetimeOf_15 18 rfl ?_
    refine v_iconst X dX12_lifetimeOf_18 ic_1 19 rfl ?_
    refine v_iadd X dX12_lifetimeOf_19 20 rfl ?_
    obtain ⟨x3, hx3, hf⟩ := bnd hf
    refine v_iald X dX12_lifetimeOf_20 1 0 rfl rfl hx3 21 rfl ?_
    obtain rfl := Option.some.inj hf
    exact v_iret X (Nat.zero_le _) (Nat.zero_le _) dX12_lifetimeOf_21
  · refine v_iconst X dX12_lifetimeOf_8 ic_0 9 rfl ?_
    obtain rfl := Option.some.inj hf
    exact v_iret X (Nat.zero_le _) (Nat.zero_le _) dX12_lifetimeOf_9
theorem pd_X12_lifetimeOf : yX12_lifetimeOf.cls ≠ "java/lang/invoke/MethodHandle" ∧ yX12_lifetimeOf.cls ≠ "java/lang/invoke/VarHandle" ∧ (parseMethodDescriptor yX12_lifetimeOf.desc).map (fun d => d.parameters.length) = some 1 := by decide +kernel
def f_X12_clockOf (m_thrown : Int32) (m_s : Nat → Int32) (v1 : Int32) : Option (Int32 × Int32) :=
  (f_X12_noRealm m_thrown m_s v1).bind fun o1 =>
  if o1.1 = 0 then (
    (rd m_s 463 0).bind fun x2 =>
    (f_X12_ofRealm v1).bind fun o3 =>
    (rd m_s 463 (o3 + 3)).bind fun x4 =>
    some ((x2 + x4), o1.2))
  else (
    some (0, o1.2))
set_option maxRecDepth 100000 in
set_option maxHeartbeats 4000000 in
theorem c_X12_clockOf (l : Launch) {G : (Nat → Prop) → State → Heap → Prop} (hG : vG G) (D : va_G) (c9 : Nat → ClassId) (ad : Nat → Nat) (m_undoable : Int32) (m_undoStart : Int32) (m_thrown : Int32) (m_inputLength : Int32) (m_position : Int32) (m_start : Int32) (m_token : Int32) (m_value : Int32) (m_letters : Int32) (m_code : Int32) (m_place : Int32) (m_outputLength : Int32) (m_s : Nat → Int32) (m_parsed : Nat → Int32) (m_tried : Nat → Int32) (m_remembered : Nat → Int32) (m_slots : Nat → Int32) (m_kept : Nat → Int32) (m_away : Nat → Int32) (m_input : Nat → Int32) (m_halfway : Nat → Int32) (m_output : Nat → Int32) (v1 : Int32) {o : Int32 × Int32} (hf : f_X12_clockOf m_thrown m_s v1 = some o) : mI l yX12_clockOf (wq yX12_clockOf cX12_clockOf 2 (some .int)) { frames := 3, cells := 0, slots := 0, locals := 66 } G D (tyA c9) [.ref (ad 0), .int v1] (wX12 ad c9 m_undoable m_undoStart m_thrown m_inputLength m_position m_start m_token m_value m_letters m_code m_place m_outputLength m_s m_parsed m_tried m_remembered m_slots m_kept m_away m_input m_halfway m_output) [] 0 0 o.1 (wX12 ad c9 m_undoable m_undoStart o.2 m_inputLength m_position m_start m_token m_value m_letters m_code m_place m_outputLength m_s m_parsed m_tried m_remembered m_slots m_kept m_away m_input m_halfway m_output) := by
  refine mI_of hG (cc := cX12_clockOf) (maxL := 2) (ty := .int) (by decide) rfl (Nat.le_of_ble_eq_true rfl) ?_
  intro p e s m args below meth c A X
  have X : vX p s m args meth c cX12_clockOf 2 (some .int) RX12 (wq yX12_clockOf cX12_clockOf 2 (some .int)) D (tyA c9) G A := X
  refine v_eq (lv2 := [(0, .ref (ad 0)), (1, .int v1)]) rfl rfl rfl rfl ?_
  rw [f_X12_clockOf] at hf
  refine v_aload_n X dX12_clockOf_0 0 rfl rfl 1 rfl ?_
  refine v_iload_n X dX12_clockOf_1 1 rfl rfl 2 rfl ?_
  obtain ⟨o1, ho1, hf⟩ := bnd hf
  refine v_callVi X (ci := 11) (T := TX12) (C := RX12) (As := [.int v1]) (rest := []) (ws' := (wX12 ad c9 m_undoable m_undoStart o1.2 m_inputLength m_position m_start m_token m_value m_letters m_code m_place m_outputLength m_s m_parsed m_tried m_remembered m_slots m_kept m_away m_input m_halfway m_output)) (c_X12_noRealm l hG D c9 ad m_undoable m_undoStart m_thrown m_inputLength m_position m_start m_token m_value m_letters m_code m_place m_outputLength m_s m_parsed m_tried m_remembered m_slots m_kept m_away m_input m_halfway m_output v1 ho1) 1 (gV wm_317 wm_318 wm_319 wm_37 wm_320) rfl rfl rfl ⟨rfl, pd_X12_noRealm⟩ ⟨Nat.le_of_ble_eq_true rfl, Nat.le_of_ble_eq_true rfl⟩ 0 rfl rfl rfl rfl (Nat.le_of_ble_eq_true rfl) ⟨Nat.zero_le _, Nat.zero_le _⟩ [0, 1, 2, 3, 4, 5, 6, 7, 8, 9, 10] [] [0, 1, 2, 3, 4, 5, 6, 7, 8, 9, 10] rfl rfl rfl rfl dX12_clockOf_2 5 rfl ?_
  refine v_if_eq X (tgt := 10) dX12_clockOf_5 rfl 8 rfl hf (fun hf => ?_) (fun hf => ?_)
  · refine v_aload_n X dX12_clockOf_10 0 rfl rfl 11 rfl ?_
    refine v_get X (C := RX12) (T := TX12) (N := 22) (ci := 11) (v := _) dX12_clockOf_11 (lay_of laym_X12) 0 rfl rfl 0 (by decide) (mw wm_304) rfl rfl 14 rfl ?_
    refine v_iconst X dX12_clockOf_14 ic_0 15 rfl ?_
    obtain ⟨x2, hx2, hf⟩ := bnd hf
    refine v_iald X dX12_clockOf_15 1 0 rfl rfl hx2 16 rfl ?_
    refine v_aload_n X dX12_clockOf_16 0 rfl rfl 17 rfl ?_
    refine v_get X (C := RX12) (T := TX12) (N := 22) (ci := 11) (v := _) dX12_clockOf_17 (lay_of laym_X12) 0 rfl rfl 0 (by decide) (mw wm_304) rfl rfl 20 rfl ?_
    refine v_iload_n X dX12_clockOf_20 1 rfl rfl 21 rfl ?_
    obtain ⟨o3, ho3, hf⟩ := bnd hf
    refine v_callSi X (As := [.int v1]) (rest := [.ref (ad 1), .int x2]) (ws' := (wX12 ad c9 m_undoable m_undoStart o1.2 m_inputLength m_position m_start m_token m_value m_letters m_code m_place m_outputLength m_s m_parsed m_tried m_remembered m_slots m_kept m_away m_input m_halfway m_output)) (c_X12_ofRealm l hG D c9 v1 ho3) 1 (gS wm_49 wm_50 wm_37 wm_51) rfl rfl rfl pd_X12_ofRealm ⟨Nat.le_of_ble_eq_true rfl, Nat.le_of_ble_eq_true rfl⟩ rfl rfl (Nat.le_of_ble_eq_true rfl) ⟨Nat.zero_le _, Nat.zero_le _⟩ [] [0, 1, 2, 3, 4, 5, 6, 7, 8, 9, 10] [0, 1, 2, 3, 4, 5, 6, 7, 8, 9, 10] rfl rfl rfl rfl dX12_clockOf_21 24 rfl ?_
    refine v_iconst X dX12_clockOf_24 ic_3 25 rfl ?_
    refine v_iadd X dX12_clockOf_25 26 rfl ?_
    obtain ⟨x4, hx4, hf⟩ := bnd hf
    refine v_iald X dX12_clockOf_26 1 0 rfl rfl hx4 27 rfl ?_
    refine v_iadd X dX12_clockOf_27 28 rfl ?_
    obtain rfl := Option.some.inj hf
    exact v_iret X (Nat.zero_le _) (Nat.zero_le _) dX12_clockOf_28
  · refine v_iconst X dX12_clockOf_8 ic_0 9 rfl ?_
    obtain rfl := Option.some.inj hf
    exact v_iret X (Nat.zero_le _) (Nat.zero_le _) dX12_clockOf_9
theorem pd_X12_clockOf : yX12_clockOf.cls ≠ "java/lang/invoke/MethodHandle" ∧ yX12_clockOf.cls ≠ "java/lang/invoke/VarHandle" ∧ (parseMethodDescriptor yX12_clockOf.desc).map (fun d => d.parameters.length) = some 1 := by decide +kernel
def f_X12_trusts (m_thrown : Int32) (m_s : Nat → Int32) (v1 : Int32) (v2 : Int32) : Option (Int32 × Int32) :=
  (f_X12_noRealms m_thrown m_s v1 v2).bind fun o1 =>
  if o1.1 = 0 then (
    (f_X12_trusted m_s v1 v2).bind fun o2 =>
    (zr o2).bind fun z3 => some (z3, o1.2))
  else (
    some (0, o1.2))
set_option maxRecDepth 100000 in
set_option maxHeartbeats 4000000 in
theorem c_X12_trusts (l : Launch) {G : (Nat → Prop) → State → Heap → Prop} (hG : vG G) (D : va_G) (c9 : Nat → ClassId) (ad : Nat → Nat) (m_undoable : Int32) (m_undoStart : Int32) (m_thrown : Int32) (m_inputLength : Int32) (m_position : Int32) (m_start : Int32) (m_token : Int32) (m_value : Int32) (m_letters : Int32) (m_code : Int32) (m_place : Int32) (m_outputLength : Int32) (m_s : Nat → Int32) (m_parsed : Nat → Int32) (m_tried : Nat → Int32) (m_remembered : Nat → Int32) (m_slots : Nat → Int32) (m_kept : Nat → Int32) (m_away : Nat → Int32) (m_input : Nat → Int32) (m_halfway : Nat → Int32) (m_output : Nat → Int32) (v1 : Int32) (v2 : Int32) {o : Int32 × Int32} (hf : f_X12_trusts m_thrown m_s v1 v2 = some o) : mI l yX12_trusts (wq yX12_trusts cX12_trusts 3 (some .boolean)) { frames := 4, cells := 0, slots := 0, locals := 88 } G D (tyA c9) [.ref (ad 0), .int v1, .int v2] (wX12 ad c9 m_undoable m_undoStart m_thrown m_inputLength m_position m_start m_token m_value m_letters m_code m_place m_outputLength m_s m_parsed m_tried m_remembered m_slots m_kept m_away m_input m_halfway m_output) [] 0 0 o.1 (wX12 ad c9 m_undoable m_undoStart o.2 m_inputLength m_position m_start m_token m_value m_letters m_code m_place m_outputLength m_s m_parsed m_tried m_remembered m_slots m_kept m_away m_input m_halfway m_output) := by
  refine mI_of hG (cc := cX12_trusts) (maxL := 3) (ty := .boolean) (by decide) rfl (Nat.le_of_ble_eq_true rfl) ?_
  intro p e s m args below meth c A X
  have X : vX p s m args meth c cX12_trusts 3 (some .boolean) RX12 (wq yX12_trusts cX12_trusts 3 (some .boolean)) D (tyA c9) G A := X
  refine v_eq (lv2 := [(0, .ref (ad 0)), (1, .int v1), (2, .int v2)]) rfl rfl rfl rfl ?_
  rw [f_X12_trusts] at hf
  refine v_aload_n X dX12_trusts_0 0 rfl rfl 1 rfl ?_
  refine v_iload_n X dX12_trusts_1 1 rfl rfl 2 rfl ?_
  refine v_iload_n X dX12_trusts_2 2 rfl rfl 3 rfl ?_
  obtain ⟨o1, ho1, hf⟩ := bnd hf
  refine v_callVi X (ci := 11) (T := TX12) (C := RX12) (As := [.int v1, .int v2]) (rest := []) (ws' := (wX12 ad c9 m_undoable m_undoStart o1.2 m_inputLength m_position m_start m_token m_value m_letters m_code m_place m_outputLength m_s m_parsed m_tried m_remembered m_slots m_kept m_away m_input m_halfway m_output)) (c_X12_noRealms l hG D c9 ad m_undoable m_undoStart m_thrown m_inputLength m_position m_start m_token m_value m_letters m_code m_place m_outputLength m_s m_parsed m_tried m_remembered m_slots m_kept m_away m_input m_halfway m_output v1 v2 ho1) 2 (gV wm_321 wm_322 wm_323 wm_37 wm_324) rfl rfl rfl ⟨rfl, pd_X12_noRealms⟩ ⟨Nat.le_of_ble_eq_true rfl, Nat.le_of_ble_eq_true rfl⟩ 0 rfl rfl rfl rfl (Nat.le_of_ble_eq_true rfl) ⟨Nat.zero_le _, Nat.zero_le _⟩ [0, 1, 2, 3, 4, 5, 6, 7, 8, 9, 10] [] [0, 1, 2, 3, 4, 5, 6, 7, 8, 9, 10] rfl rfl rfl rfl dX12_trusts_3 6 rfl ?_
  refine v_if_eq X (tgt := 11) dX12_trusts_6 rfl 9 rfl hf (fun hf => ?_) (fun hf => ?_)
  · refine v_aload_n X dX12_trusts_11 0 rfl rfl 12 rfl ?_
    refine v_get X (C := RX12) (T := TX12) (N := 22) (ci := 11) (v := _) dX12_trusts_12 (lay_of laym_X12) 0 rfl rfl 0 (by decide) (mw wm_304) rfl rfl 15 rfl ?_
    refine v_iload_n X dX12_trusts_15 1 rfl rfl 16 rfl ?_
    refine v_iload_n X dX12_trusts_16 2 rfl rfl 17 rfl ?_
    obtain ⟨o2, ho2, hf⟩ := bnd hf
    refine v_callSi X (As := [.ref (ad 1), .int v1, .int v2]) (rest := []) (ws' := (wX12 ad c9 m_undoable m_undoStart o1.2 m_inputLength m_position m_start m_token m_value m_letters m_code m_place m_outputLength m_s m_parsed m_tried m_remembered m_slots m_kept m_away m_input m_halfway m_output)) (c_X12_trusted l hG D c9 (ad 1) m_s v1 v2 ho2) 3 (gS wm_35 wm_36 wm_37 wm_38) rfl rfl rfl pd_X12_trusted ⟨Nat.le_of_ble_eq_true rfl, Nat.le_of_ble_eq_true rfl⟩ rfl rfl (Nat.le_of_ble_eq_true rfl) ⟨Nat.zero_le _, Nat.zero_le _⟩ [1] [0, 2, 3, 4, 5, 6, 7, 8, 9, 10] [0, 10, 1, 2, 3, 4, 5, 6, 7, 8, 9] rfl rfl rfl rfl dX12_trusts_17 20 rfl ?_
    obtain ⟨z3, hz3, hf⟩ := bnd hf
    obtain rfl := Option.some.inj hf
    exact v_zretq hz3 X (Nat.zero_le _) (Nat.zero_le _) dX12_trusts_20
  · refine v_iconst X dX12_trusts_9 ic_0 10 rfl ?_
    obtain rfl := Option.some.inj hf
    exact v_zret X (Nat.zero_le _) (Nat.zero_le _) nz0 dX12_trusts_10
theorem pd_X12_trusts : yX12_trusts.cls ≠ "java/lang/invoke/MethodHandle" ∧ yX12_trusts.cls ≠ "java/lang/invoke/VarHandle" ∧ (parseMethodDescriptor yX12_trusts.desc).map (fun d => d.parameters.length) = some 2 := by decide +kernel
def f_X12_distance (m_thrown : Int32) (m_s : Nat → Int32) (m_away : Nat → Int32) (v1 : Int32) (v2 : Int32) : Option (Int32 × Int32 × (Nat → Int32)) :=
  (f_X12_noRealms m_thrown m_s v1 v2).bind fun o1 =>
  if o1.1 = 0 then (
    (f_X12_far m_s m_away v1 v2).bind fun o2 =>
    some (o2.1, o1.2, o2.2))
  else (
    some (0, o1.2, m_away))
set_option maxRecDepth 100000 in
set_option maxHeartbeats 4000000 in
theorem c_X12_distance (l : Launch) {G : (Nat → Prop) → State → Heap → Prop} (hG : vG G) (D : va_G) (c9 : Nat → ClassId) (ad : Nat → Nat) (m_undoable : Int32) (m_undoStart : Int32) (m_thrown : Int32) (m_inputLength : Int32) (m_position : Int32) (m_start : Int32) (m_token : Int32) (m_value : Int32) (m_letters : Int32) (m_code : Int32) (m_place : Int32) (m_outputLength : Int32) (m_s : Nat → Int32) (m_parsed : Nat → Int32) (m_tried : Nat → Int32) (m_remembered : Nat → Int32) (m_slots : Nat → Int32) (m_kept : Nat → Int32) (m_away : Nat → Int32) (m_input : Nat → Int32) (m_halfway : Nat → Int32) (m_output : Nat → Int32) (v1 : Int32) (v2 : Int32) {o : Int32 × Int32 × (Nat → Int32)} (hf : f_X12_distance m_thrown m_s m_away v1 v2 = some o) : mI l yX12_distance (wq yX12_distance cX12_distance 3 (some .int)) { frames := 4, cells := 0, slots := 0, locals := 88 } G D (tyA c9) [.ref (ad 0), .int v1, .int v2] (wX12 ad c9 m_undoable m_undoStart m_thrown m_inputLength m_position m_start m_token m_value m_letters m_code m_place m_outputLength m_s m_parsed m_tried m_remembered m_slots m_kept m_away m_input m_halfway m_output) [] 0 0 o.1 (wX12 ad c9 m_undoable m_undoStart o.2.1 m_inputLength m_position m_start m_token m_value m_letters m_code m_place m_outputLength m_s m_parsed m_tried m_remembered m_slots m_kept o.2.2 m_input m_halfway m_output) := by
  refine mI_of hG (cc := cX12_distance) (maxL := 3) (ty := .int) (by decide) rfl (Nat.le_of_ble_eq_true rfl) ?_
  intro p e s m args below meth c A X
  have X : vX p s m args meth c cX12_distance 3 (some .int) RX12 (wq yX12_distance cX12_distance 3 (some .int)) D (tyA c9) G A := X
  refine v_eq (lv2 := [(0, .ref (ad 0)), (1, .int v1), (2, .int v2)]) rfl rfl rfl rfl ?_
  rw [f_X12_distance] at hf
  refine v_aload_n X dX12_distance_0 0 rfl rfl 1 rfl ?_
  refine v_iload_n X dX12_distance_1 1 rfl rfl 2 rfl ?_
  refine v_iload_n X dX12_distance_2 2 rfl rfl 3 rfl ?_
  obtain ⟨o1, ho1, hf⟩ := bnd hf
  refine v_callVi X (ci := 11) (T := TX12) (C := RX12) (As := [.int v1, .int v2]) (rest := []) (ws' := (wX12 ad c9 m_undoable m_undoStart o1.2 m_inputLength m_position m_start m_token m_value m_letters m_code m_place m_outputLength m_s m_parsed m_tried m_remembered m_slots m_kept m_away m_input m_halfway m_output)) (c_X12_noRealms l hG D c9 ad m_undoable m_undoStart m_thrown m_inputLength m_position m_start m_token m_value m_letters m_code m_place m_outputLength m_s m_parsed m_tried m_remembered m_slots m_kept m_away m_input m_halfway m_output v1 v2 ho1) 2 (gV wm_321 wm_322 wm_323 wm_37 wm_324) rfl rfl rfl ⟨rfl, pd_X12_noRealms⟩ ⟨Nat.le_of_ble_eq_true rfl, Nat.le_of_ble_eq_true rfl⟩ 0 rfl rfl rfl rfl (Nat.le_of_ble_eq_true rfl) ⟨Nat.zero_le _, Nat.zero_le _⟩ [0, 1, 2, 3, 4, 5, 6, 7, 8, 9, 10] [] [0, 1, 2, 3, 4, 5, 6, 7, 8, 9, 10] rfl rfl rfl rfl dX12_distance_3 6 rfl ?_
  refine v_if_eq X (tgt := 11) dX12_distance_6 rfl 9 rfl hf (fun hf => ?_) (fun hf => ?_)
  · refine v_aload_n X dX12_distance_11 0 rfl rfl 12 rfl ?_
    refine v_aload_n X dX12_distance_12 0 rfl rfl 13 rfl ?_
    refine v_get X (C := RX12) (T := TX12) (N := 22) (ci := 11) (v := _) dX12_distance_13 (lay_of laym_X12) 0 rfl rfl 0 (by decide) (mw wm_304) rfl rfl 16 rfl ?_
    refine v_iload_n X dX12_distance_16 1 rfl rfl 17 rfl ?_
    refine v_iload_n X dX12_distance_17 2 rfl rfl 18 rfl ?_
    obtain ⟨o2, ho2, hf⟩ := bnd hf
    refine v_callVi X (ci := 11) (T := TX12) (C := RX12) (As := [.ref (ad 1), .int v1, .int v2]) (rest := []) (ws' := (wX12 ad c9 m_undoable m_undoStart o1.2 m_inputLength m_position m_start m_token m_value m_letters m_code m_place m_outputLength m_s m_parsed m_tried m_remembered m_slots m_kept o2.2 m_input m_halfway m_output)) (c_X12_far l hG D c9 ad m_undoable m_undoStart o1.2 m_inputLength m_position m_start m_token m_value m_letters m_code m_place m_outputLength m_s m_parsed m_tried m_remembered m_slots m_kept m_away m_input m_halfway m_output v1 v2 ho2) 3 (gV wm_325 wm_326 wm_327 wm_37 wm_328) rfl rfl rfl ⟨rfl, pd_X12_far⟩ ⟨Nat.le_of_ble_eq_true rfl, Nat.le_of_ble_eq_true rfl⟩ 0 rfl rfl rfl rfl (Nat.le_of_ble_eq_true rfl) ⟨Nat.zero_le _, Nat.zero_le _⟩ [0, 1, 2, 3, 4, 5, 6, 7, 8, 9, 10] [] [0, 1, 2, 3, 4, 5, 6, 7, 8, 9, 10] rfl rfl rfl rfl dX12_distance_18 21 rfl ?_
    obtain rfl := Option.some.inj hf
    exact v_iret X (Nat.zero_le _) (Nat.zero_le _) dX12_distance_21
  · refine v_iconst X dX12_distance_9 ic_0 10 rfl ?_
    obtain rfl := Option.some.inj hf
    exact v_iret X (Nat.zero_le _) (Nat.zero_le _) dX12_distance_10
theorem pd_X12_distance : yX12_distance.cls ≠ "java/lang/invoke/MethodHandle" ∧ yX12_distance.cls ≠ "java/lang/invoke/VarHandle" ∧ (parseMethodDescriptor yX12_distance.desc).map (fun d => d.parameters.length) = some 2 := by decide +kernel
def f_X12_nextRealm_L25 (m_thrown : Int32) (m_s : Nat → Int32) (v1 : Int32) (v2 : Int32) (v3 : Int32) : Nat → (Nat → Int32) → Int32 → Option (Int32 × Int32 × (Nat → Int32))
  | 0, _, _ => none
  | n + 1, m_away, v4 =>
    (rd m_s 463 3).bind fun x3 =>
    if x3 ≤ v4 then (
      some ((-1), m_thrown, m_away))
    else (
      if v3 ≤ 0 then (
        some ((-1), m_thrown, m_away))
      else (
        (f_X12_trusted m_s v1 v4).bind fun o4 =>
        if o4 = 0 then (
          f_X12_nextRealm_L25 m_thrown m_s v1 v2 v3 n m_away (v4 + 1))
        else (
          (f_X12_far m_s m_away v4 v2).bind fun o5 =>
          if o5.1 = (v3 - 1) then (
            some (v4, m_thrown, o5.2))
          else (
            f_X12_nextRealm_L25 m_thrown m_s v1 v2 v3 n o5.2 (v4 + 1)))))
def f_X12_nextRealm (m_thrown : Int32) (m_s : Nat → Int32) (m_away : Nat → Int32) (v1 : Int32) (v2 : Int32) : Option (Int32 × Int32 × (Nat → Int32)) :=
  (f_X12_noRealms m_thrown m_s v1 v2).bind fun o1 =>
  if o1.1 = 0 then (
    (f_X12_far m_s m_away v1 v2).bind fun o2 =>
    f_X12_nextRealm_L25 o1.2 m_s v1 v2 o2.1 5000 o2.2 0)
  else (
    some (0, o1.2, m_away))
set_option maxRecDepth 100000 in
set_option maxHeartbeats 4000000 in
theorem l_X12_nextRealm_L25 (l : Launch) {G : (Nat → Prop) → State → Heap → Prop} (hG : vG G) (D : va_G) (c9 : Nat → ClassId) (ad : Nat → Nat) (m_undoable : Int32) (m_undoStart : Int32) (m_thrown : Int32) (m_inputLength : Int32) (m_position : Int32) (m_start : Int32) (m_token : Int32) (m_value : Int32) (m_letters : Int32) (m_code : Int32) (m_place : Int32) (m_outputLength : Int32) (m_s : Nat → Int32) (m_parsed : Nat → Int32) (m_tried : Nat → Int32) (m_remembered : Nat → Int32) (m_slots : Nat → Int32) (m_kept : Nat → Int32) (m_input : Nat → Int32) (m_halfway : Nat → Int32) (m_output : Nat → Int32) (v1 : Int32) (v2 : Int32) (v3 : Int32) {p : Program} {e : Env} {s : State} {m : MethodId} {args : Array Value} {below : List Frame} {meth : Method} {c : Code} {A : Nat → Prop} {F : va_W} (X : vX p s m args meth c cX12_nextRealm 5 (some .int) RX12 (wq yX12_nextRealm cX12_nextRealm 5 (some .int)) D (tyA c9) G A) (o : Int32 × Int32 × (Nat → Int32)) :
    ∀ (n : Nat) (m_away : Nat → Int32) (v4 : Int32), f_X12_nextRealm_L25 m_thrown m_s v1 v2 v3 n m_away v4 = some o → vW p l e { frames := 4, cells := 0, slots := 0, locals := 88 } s m args below meth c 5 D A F 0 0 (MQ below (eI D (tyA c9) A o.1 ((wX12 ad c9 m_undoable m_undoStart o.2.1 m_inputLength m_position m_start m_token m_value m_letters m_code m_place m_outputLength m_s m_parsed m_tried m_remembered m_slots m_kept o.2.2 m_input m_halfway m_output) ++ F)) args s 0 0 A) (wX12 ad c9 m_undoable m_undoStart m_thrown m_inputLength m_position m_start m_token m_value m_letters m_code m_place m_outputLength m_s m_parsed m_tried m_remembered m_slots m_kept m_away m_input m_halfway m_output) 25 [(0, .ref (ad 0)), (1, .int v1), (2, .int v2), (3, .int v3), (4, .int v4)] [] := by
  intro n
  induction n with
  | zero =>
    intro m_away v4 hf
    rw [f_X12_nextRealm_L25] at hf
    cases hf
  | succ n ih =>
    intro m_away v4 hf
    rw [f_X12_nextRealm_L25] at hf
    refine v_iload X dX12_nextRealm_25 4 rfl 27 rfl ?_
    refine v_aload_n X dX12_nextRealm_27 0 rfl rfl 28 rfl ?_
    refine v_get X (C := RX12) (T := TX12) (N := 22) (ci := 11) (v := _) dX12_nextRealm_28 (lay_of laym_X12) 0 rfl rfl 0 (by decide) (mw wm_304) rfl rfl 31 rfl ?_
    refine v_iconst X dX12_nextRealm_31 ic_3 32 rfl ?_
    obtain ⟨x3, hx3, hf⟩ := bnd hf
    refine v_iald X dX12_nextRealm_32 1 0 rfl rfl hx3 33 rfl ?_
    refine v_icmp_ge X (tgt := 79) dX12_nextRealm_33 rfl 36 rfl hf (fun hf => ?_) (fun hf => ?_)
    · refine v_iconst X dX12_nextRealm_79 ic_m1 80 rfl ?_
      obtain rfl := Option.some.inj hf
      exact v_iret X (Nat.zero_le _) (Nat.zero_le _) dX12_nextRealm_80
    · refine v_iload_n X dX12_nextRealm_36 3 rfl rfl 37 rfl ?_
      refine v_if_le X (tgt := 79) dX12_nextRealm_37 rfl 40 rfl hf (fun hf => ?_) (fun hf => ?_)
      · refine v_iconst X dX12_nextRealm_79 ic_m1 80 rfl ?_
        obtain rfl := Option.some.inj hf
        exact v_iret X (Nat.zero_le _) (Nat.zero_le _) dX12_nextRealm_80
      · refine v_aload_n X dX12_nextRealm_40 0 rfl rfl 41 rfl ?_
        refine v_get X (C := RX12) (T := TX12) (N := 22) (ci := 11) (v := _) dX12_nextRealm_41 (lay_of laym_X12) 0 rfl rfl 0 (by decide) (mw wm_304) rfl rfl 44 rfl ?_
        refine v_iload_n X dX12_nextRealm_44 1 rfl rfl 45 rfl ?_
        refine v_iload X dX12_nextRealm_45 4 rfl 47 rfl ?_
        obtain ⟨o4, ho4, hf⟩ := bnd hf
        refine v_callSi X (As := [.ref (ad 1), .int v1, .int v4]) (rest := []) (ws' := (wX12 ad c9 m_undoable m_undoStart m_thrown m_inputLength m_position m_start m_token m_value m_letters m_code m_place m_outputLength m_s m_parsed m_tried m_remembered m_slots m_kept m_away m_input m_halfway m_output)) (c_X12_trusted l hG D c9 (ad 1) m_s v1 v4 ho4) 3 (gS wm_35 wm_36 wm_37 wm_38) rfl rfl rfl pd_X12_trusted ⟨Nat.le_of_ble_eq_true rfl, Nat.le_of_ble_eq_true rfl⟩ rfl rfl (Nat.le_of_ble_eq_true rfl) ⟨Nat.zero_le _, Nat.zero_le _⟩ [1] [0, 2, 3, 4, 5, 6, 7, 8, 9, 10] [0, 10, 1, 2, 3, 4, 5, 6, 7, 8, 9] rfl rfl rfl rfl dX12_nextRealm_47 50 rfl ?_
        refine v_if_eq X (tgt := 73) dX12_nextRealm_50 rfl 53 rfl hf (fun hf => ?_) (fun hf => ?_)
        · refine v_iinc X (lv' := [(4, .int (v4 + 1)), (0, .ref (ad 0)), (1, .int v1), (2, .int v2), (3, .int v3)]) dX12_nextRealm_73 4 rfl ic_1 (by decide) rfl 76 rfl ?_
          refine v_goto X (tgt := 25) dX12_nextRealm_76 rfl ?_
          refine v_sub (lv' := [(0, .ref (ad 0)), (1, .int v1), (2, .int v2), (3, .int v3), (4, .int (v4 + 1))]) [1, 2, 3, 4, 0] rfl ?_
          exact ih m_away (v4 + 1) hf
        · refine v_aload_n X dX12_nextRealm_53 0 rfl rfl 54 rfl ?_
          refine v_aload_n X dX12_nextRealm_54 0 rfl rfl 55 rfl ?_
          refine v_get X (C := RX12) (T := TX12) (N := 22) (ci := 11) (v := _) dX12_nextRealm_55 (lay_of laym_X12) 0 rfl rfl 0 (by decide) (mw wm_304) rfl rfl 58 rfl ?_
          refine v_iload X dX12_nextRealm_58 4 rfl 60 rfl ?_
          refine v_iload_n X dX12_nextRealm_60 2 rfl rfl 61 rfl ?_
          obtain ⟨o5, ho5, hf⟩ := bnd hf
          refine v_callVi X (ci := 11) (T := TX12) (C := RX12) (As := [.ref (ad 1), .int v4, .int v2]) (rest := []) (ws' := (wX12 ad c9 m_undoable m_undoStart m_thrown m_inputLength m_position m_start m_token m_value m_letters m_code m_place m_outputLength m_s m_parsed m_tried m_remembered m_slots m_kept o5.2 m_input m_halfway m_output)) (c_X12_far l hG D c9 ad m_undoable m_undoStart m_thrown m_inputLength m_position m_start m_token m_value m_letters m_code m_place m_outputLength m_s m_parsed m_tried m_remembered m_slots m_kept m_away m_input m_halfway m_output v4 v2 ho5) 3 (gV wm_325 wm_326 wm_327 wm_37 wm_328) rfl rfl rfl ⟨rfl, pd_X12_far⟩ ⟨Nat.le_of_ble_eq_true rfl, Nat.le_of_ble_eq_true rfl⟩ 0 rfl rfl rfl rfl (Nat.le_of_ble_eq_true rfl) ⟨Nat.zero_le _, Nat.zero_le _⟩ [0, 1, 2, 3, 4, 5, 6, 7, 8, 9, 10] [] [0, 1, 2, 3, 4, 5, 6, 7, 8, 9, 10] rfl rfl rfl rfl dX12_nextRealm_61 64 rfl ?_
          refine v_iload_n X dX12_nextRealm_64 3 rfl rfl 65 rfl ?_
          refine v_iconst X dX12_nextRealm_65 ic_1 66 rfl ?_
          refine v_isub X dX12_nextRealm_66 67 rfl ?_
          refine v_icmp_ne X (tgt := 73) dX12_nextRealm_67 rfl 70 rfl hf (fun hf => ?_) (fun hf => ?_)
          · refine v_iinc X (lv' := [(4, .int (v4 + 1)), (0, .ref (ad 0)), (1, .int v1), (2, .int v2), (3, .int v3)]) dX12_nextRealm_73 4 rfl ic_1 (by decide) rfl 76 rfl ?_
            refine v_goto X (tgt := 25) dX12_nextRealm_76 rfl ?_
            refine v_sub (lv' := [(0, .ref (ad 0)), (1, .int v1), (2, .int v2), (3, .int v3), (4, .int (v4 + 1))]) [1, 2, 3, 4, 0] rfl ?_
            exact ih o5.2 (v4 + 1) hf
          · refine v_iload X dX12_nextRealm_70 4 rfl 72 rfl ?_
            obtain rfl := Option.some.inj hf
            exact v_iret X (Nat.zero_le _) (Nat.zero_le _) dX12_nextRealm_72
set_option maxRecDepth 100000 in
set_option maxHeartbeats 4000000 in
theorem c_X12_nextRealm (l : Launch) {G : (Nat → Prop) → State → Heap → Prop} (hG : vG G) (D : va_G) (c9 : Nat → ClassId) (ad : Nat → Nat) (m_undoable : Int32) (m_undoStart : Int32) (m_thrown : Int32) (m_inputLength : Int32) (m_position : Int32) (m_start : Int32) (m_token : Int32) (m_value : Int32) (m_letters : Int32) (m_code : Int32) (m_place : Int32) (m_outputLength : Int32) (m_s : Nat → Int32) (m_parsed : Nat → Int32) (m_tried : Nat → Int32) (m_remembered : Nat → Int32) (m_slots : Nat → Int32) (m_kept : Nat → Int32) (m_away : Nat → Int32) (m_input : Nat → Int32) (m_halfway : Nat → Int32) (m_output : Nat → Int32) (v1 : Int32) (v2 : Int32) {o : Int32 × Int32 × (Nat → Int32)} (hf : f_X12_nextRealm m_thrown m_s m_away v1 v2 = some o) : mI l yX12_nextRealm (wq yX12_nextRealm cX12_nextRealm 5 (some .int)) { frames := 4, cells := 0, slots := 0, locals := 88 } G D (tyA c9) [.ref (ad 0), .int v1, .int v2] (wX12 ad c9 m_undoable m_undoStart m_thrown m_inputLength m_position m_start m_token m_value m_letters m_code m_place m_outputLength m_s m_parsed m_tried m_remembered m_slots m_kept m_away m_input m_halfway m_output) [] 0 0 o.1 (wX12 ad c9 m_undoable m_undoStart o.2.1 m_inputLength m_position m_start m_token m_value m_letters m_code m_place m_outputLength m_s m_parsed m_tried m_remembered m_slots m_kept o.2.2 m_input m_halfway m_output) := by
  refine mI_of hG (cc := cX12_nextRealm) (maxL := 5) (ty := .int) (by decide) rfl (Nat.le_of_ble_eq_true rfl) ?_
  intro p e s m args below meth c A X
  have X : vX p s m args meth c cX12_nextRealm 5 (some .int) RX12 (wq yX12_nextRealm cX12_nextRealm 5 (some .int)) D (tyA c9) G A := X
  refine v_eq (lv2 := [(0, .ref (ad 0)), (1, .int v1), (2, .int v2)]) rfl rfl rfl rfl ?_
  rw [f_X12_nextRealm] at hf
  refine v_aload_n X dX12_nextRealm_0 0 rfl rfl 1 rfl ?_
  refine v_iload_n X dX12_nextRealm_1 1 rfl rfl 2 rfl ?_
  refine v_iload_n X dX12_nextRealm_2 2 rfl rfl 3 rfl ?_
  obtain ⟨o1, ho1, hf⟩ := bnd hf
  refine v_callVi X (ci := 11) (T := TX12) (C := RX12) (As := [.int v1, .int v2]) (rest := []) (ws' := (wX12 ad c9 m_undoable m_undoStart o1.2 m_inputLength m_position m_start m_token m_value m_letters m_code m_place m_outputLength m_s m_parsed m_tried m_remembered m_slots m_kept m_away m_input m_halfway m_output)) (c_X12_noRealms l hG D c9 ad m_undoable m_undoStart m_thrown m_inputLength m_position m_start m_token m_value m_letters m_code m_place m_outputLength m_s m_parsed m_tried m_remembered m_slots m_kept m_away m_input m_halfway m_output v1 v2 ho1) 2 (gV wm_321 wm_322 wm_323 wm_37 wm_324) rfl rfl rfl ⟨rfl, pd_X12_noRealms⟩ ⟨Nat.le_of_ble_eq_true rfl, Nat.le_of_ble_eq_true rfl⟩ 0 rfl rfl rfl rfl (Nat.le_of_ble_eq_true rfl) ⟨Nat.zero_le _, Nat.zero_le _⟩ [0, 1, 2, 3, 4, 5, 6, 7, 8, 9, 10] [] [0, 1, 2, 3, 4, 5, 6, 7, 8, 9, 10] rfl rfl rfl rfl dX12_nextRealm_3 6 rfl ?_
  refine v_if_eq X (tgt := 11) dX12_nextRealm_6 rfl 9 rfl hf (fun hf => ?_) (fun hf => ?_)
  · refine v_aload_n X dX12_nextRealm_11 0 rfl rfl 12 rfl ?_
    refine v_aload_n X dX12_nextRealm_12 0 rfl rfl 13 rfl ?_
    refine v_get X (C := RX12) (T := TX12) (N := 22) (ci := 11) (v := _) dX12_nextRealm_13 (lay_of laym_X12) 0 rfl rfl 0 (by decide) (mw wm_304) rfl rfl 16 rfl ?_
    refine v_iload_n X dX12_nextRealm_16 1 rfl rfl 17 rfl ?_
    refine v_iload_n X dX12_nextRealm_17 2 rfl rfl 18 rfl ?_
    obtain ⟨o2, ho2, hf⟩ := bnd hf
    refine v_callVi X (ci := 11) (T := TX12) (C := RX12) (As := [.ref (ad 1), .int v1, .int v2]) (rest := []) (ws' := (wX12 ad c9 m_undoable m_undoStart o1.2 m_inputLength m_position m_start m_token m_value m_letters m_code m_place m_outputLength m_s m_parsed m_tried m_remembered m_slots m_kept o2.2 m_input m_halfway m_output)) (c_X12_far l hG D c9 ad m_undoable m_undoStart o1.2 m_inputLength m_position m_start m_token m_value m_letters m_code m_place m_outputLength m_s m_parsed m_tried m_remembered m_slots m_kept m_away m_input m_halfway m_output v1 v2 ho2) 3 (gV wm_325 wm_326 wm_327 wm_37 wm_328) rfl rfl rfl ⟨rfl, pd_X12_far⟩ ⟨Nat.le_of_ble_eq_true rfl, Nat.le_of_ble_eq_true rfl⟩ 0 rfl rfl rfl rfl (Nat.le_of_ble_eq_true rfl) ⟨Nat.zero_le _, Nat.zero_le _⟩ [0, 1, 2, 3, 4, 5, 6, 7, 8, 9, 10] [] [0, 1, 2, 3, 4, 5, 6, 7, 8, 9, 10] rfl rfl rfl rfl dX12_nextRealm_18 21 rfl ?_
    refine v_istore_n X (lv' := [(3, .int o2.1), (0, .ref (ad 0)), (1, .int v1), (2, .int v2)]) dX12_nextRealm_21 rfl (by decide) rfl 22 rfl ?_
    refine v_iconst X dX12_nextRealm_22 ic_0 23 rfl ?_
    refine v_istore X (lv' := [(4, .int 0), (3, .int o2.1), (0, .ref (ad 0)), (1, .int v1), (2, .int v2)]) dX12_nextRealm_23 (by decide) rfl 25 rfl ?_
    refine v_sub (lv' := [(0, .ref (ad 0)), (1, .int v1), (2, .int v2), (3, .int o2.1), (4, .int 0)]) [2, 3, 4, 1, 0] rfl ?_
    exact l_X12_nextRealm_L25 l hG D c9 ad m_undoable m_undoStart o1.2 m_inputLength m_position m_start m_token m_value m_letters m_code m_place m_outputLength m_s m_parsed m_tried m_remembered m_slots m_kept m_input m_halfway m_output v1 v2 o2.1 X _ 5000 o2.2 0 hf
  · refine v_iconst X dX12_nextRealm_9 ic_0 10 rfl ?_
    obtain rfl := Option.some.inj hf
    exact v_iret X (Nat.zero_le _) (Nat.zero_le _) dX12_nextRealm_10
theorem pd_X12_nextRealm : yX12_nextRealm.cls ≠ "java/lang/invoke/MethodHandle" ∧ yX12_nextRealm.cls ≠ "java/lang/invoke/VarHandle" ∧ (parseMethodDescriptor yX12_nextRealm.desc).map (fun d => d.parameters.length) = some 2 := by decide +kernel
def f_X12_homeOf (m_thrown : Int32) (m_s : Nat → Int32) (v1 : Int32) : Option (Int32 × Int32) :=
  (f_X12_noUser m_thrown m_s v1).bind fun o1 =>
  if o1.1 = 0 then (
    (f_X12_ofUser v1).bind fun o2 =>
    (rd m_s 463 (o2 + 1)).bind fun x3 =>
    some (x3, o1.2))
  else (
    some (0, o1.2))
set_option maxRecDepth 100000 in
set_option maxHeartbeats 4000000 in
theorem c_X12_homeOf (l : Launch) {G : (Nat → Prop) → State → Heap → Prop} (hG : vG G) (D : va_G) (c9 : Nat → ClassId) (ad : Nat → Nat) (m_undoable : Int32) (m_undoStart : Int32) (m_thrown : Int32) (m_inputLength : Int32) (m_position : Int32) (m_start : Int32) (m_token : Int32) (m_value : Int32) (m_letters : Int32) (m_code : Int32) (m_place : Int32) (m_outputLength : Int32) (m_s : Nat → Int32) (m_parsed : Nat → Int32) (m_tried : Nat → Int32) (m_remembered : Nat → Int32) (m_slots : Nat → Int32) (m_kept : Nat → Int32) (m_away : Nat → Int32) (m_input : Nat → Int32) (m_halfway : Nat → Int32) (m_output : Nat → Int32) (v1 : Int32) {o : Int32 × Int32} (hf : f_X12_homeOf m_thrown m_s v1 = some o) : mI l yX12_homeOf (wq yX12_homeOf cX12_homeOf 2 (some .int)) { frames := 3, cells := 0, slots := 0, locals := 66 } G D (tyA c9) [.ref (ad 0), .int v1] (wX12 ad c9 m_undoable m_undoStart m_thrown m_inputLength m_position m_start m_token m_value m_letters m_code m_place m_outputLength m_s m_parsed m_tried m_remembered m_slots m_kept m_away m_input m_halfway m_output) [] 0 0 o.1 (wX12 ad c9 m_undoable m_undoStart o.2 m_inputLength m_position m_start m_token m_value m_letters m_code m_place m_outputLength m_s m_parsed m_tried m_remembered m_slots m_kept m_away m_input m_halfway m_output) := by
  refine mI_of hG (cc := cX12_homeOf) (maxL := 2) (ty := .int) (by decide) rfl (Nat.le_of_ble_eq_true rfl) ?_
  intro p e s m args below meth c A X
  have X : vX p s m args meth c cX12_homeOf 2 (some .int) RX12 (wq yX12_homeOf cX12_homeOf 2 (some .int)) D (tyA c9) G A := X
  refine v_eq (lv2 := [(0, .ref (ad 0)), (1, .int v1)]) rfl rfl rfl rfl ?_
  rw [f_X12_homeOf] at hf
  refine v_aload_n X dX12_homeOf_0 0 rfl rfl 1 rfl ?_
  refine v_iload_n X dX12_homeOf_1 1 rfl rfl 2 rfl ?_
  obtain ⟨o1, ho1, hf⟩ := bnd hf
  refine v_callVi X (ci := 11) (T := TX12) (C := RX12) (As := [.int v1]) (rest := []) (ws' := (wX12 ad c9 m_undoable m_undoStart o1.2 m_inputLength m_position m_start m_token m_value m_letters m_code m_place m_outputLength m_s m_parsed m_tried m_remembered m_slots m_kept m_away m_input m_halfway m_output)) (c_X12_noUser l hG D c9 ad m_undoable m_undoStart m_thrown m_inputLength m_position m_start m_token m_value m_letters m_code m_place m_outputLength m_s m_parsed m_tried m_remembered m_slots m_kept m_away m_input m_halfway m_output v1 ho1) 1 (gV wm_329 wm_330 wm_331 wm_37 wm_332) rfl rfl rfl ⟨rfl, pd_X12_noUser⟩ ⟨Nat.le_of_ble_eq_true rfl, Nat.le_of_ble_eq_true rfl⟩ 0 rfl rfl rfl rfl (Nat.le_of_ble_eq_true rfl) ⟨Nat.zero_le _, Nat.zero_le _⟩ [0, 1, 2, 3, 4, 5, 6, 7, 8, 9, 10] [] [0, 1, 2, 3, 4, 5, 6, 7, 8, 9, 10] rfl rfl rfl rfl dX12_homeOf_2 5 rfl ?_
  refine v_if_eq X (tgt := 10) dX12_homeOf_5 rfl 8 rfl hf (fun hf => ?_) (fun hf => ?_)
  · refine v_aload_n X dX12_homeOf_10 0 rfl rfl 11 rfl ?_
    refine v_get X (C := RX12) (T := TX12) (N := 22) (ci := 11) (v := _) dX12_homeOf_11 (lay_of laym_X12) 0 rfl rfl 0 (by decide) (mw wm_304) rfl rfl 14 rfl ?_
    refine v_iload_n X dX12_homeOf_14 1 rfl rfl 15 rfl ?_
    obtain ⟨o2, ho2, hf⟩ := bnd hf
    refine v_callSi X (As := [.int v1]) (rest := [.ref (ad 1)]) (ws' := (wX12 ad c9 m_undoable m_undoStart o1.2 m_inputLength m_position m_start m_token m_value m_letters m_code m_place m_outputLength m_s m_parsed m_tried m_remembered m_slots m_kept m_away m_input m_halfway m_output)) (c_X12_ofUser l hG D c9 v1 ho2) 1 (gS wm_46 wm_47 wm_37 wm_48) rfl rfl rfl pd_X12_ofUser ⟨Nat.le_of_ble_eq_true rfl, Nat.le_of_ble_eq_true rfl⟩ rfl rfl (Nat.le_of_ble_eq_true rfl) ⟨Nat.zero_le _, Nat.zero_le _⟩ [] [0, 1, 2, 3, 4, 5, 6, 7, 8, 9, 10] [0, 1, 2, 3, 4, 5, 6, 7, 8, 9, 10] rfl rfl rfl rfl dX12_homeOf_15 18 rfl ?_
    refine v_iconst X dX12_homeOf_18 ic_1 19 rfl ?_
    refine v_iadd X dX12_homeOf_19 20 rfl ?_
    obtain ⟨x3, hx3, hf⟩ := bnd hf
    refine v_iald X dX12_homeOf_20 1 0 rfl rfl hx3 21 rfl ?_
    obtain rfl := Option.some.inj hf
    exact v_iret X (Nat.zero_le _) (Nat.zero_le _) dX12_homeOf_21
  · refine v_iconst X dX12_homeOf_8 ic_0 9 rfl ?_
    obtain rfl := Option.some.inj hf
    exact v_iret X (Nat.zero_le _) (Nat.zero_le _) dX12_homeOf_9
theorem pd_X12_homeOf : yX12_homeOf.cls ≠ "java/lang/invoke/MethodHandle" ∧ yX12_homeOf.cls ≠ "java/lang/invoke/VarHandle" ∧ (parseMethodDescriptor yX12_homeOf.desc).map (fun d => d.parameters.length) = some 1 := by decide +kernel
