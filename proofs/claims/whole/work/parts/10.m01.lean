def f_X12_layInput_L2 (w1 : Nat) : Nat → (Nat → Int32) → Int32 → Option ((Nat → Int32))
  | 0, _, _ => none
  | n + 1, m_input, v2 =>
    if (slen w1) ≤ v2 then (
      some (m_input))
    else (
      (sch w1 v2).bind fun x1 =>
      (wr m_input 600 v2 x1).bind fun g2 =>
      f_X12_layInput_L2 w1 n g2 (v2 + 1))
def f_X12_layInput (m_inputLength : Int32) (m_input : Nat → Int32) (w1 : Nat) : Option (Int32 × (Nat → Int32)) :=
  (f_X12_layInput_L2 w1 5000 m_input 0).bind fun o3 =>
  some ((slen w1), o3)
set_option maxRecDepth 100000 in
set_option maxHeartbeats 4000000 in
theorem l_X12_layInput_L2 (l : Launch) {G : (Nat → Prop) → State → Heap → Prop} (hG : vG G) (D : va_G) (c9 : Nat → ClassId) (sk sv : Nat → Nat) (hGU : ∀ (A : Nat → Prop) (U : State) (H : Heap), G A U H → vU sk sv A U H) (ad : Nat → Nat) (m_undoable : Int32) (m_undoStart : Int32) (m_thrown : Int32) (m_inputLength : Int32) (m_position : Int32) (m_start : Int32) (m_token : Int32) (m_value : Int32) (m_letters : Int32) (m_code : Int32) (m_place : Int32) (m_outputLength : Int32) (m_s : Nat → Int32) (m_parsed : Nat → Int32) (m_tried : Nat → Int32) (m_remembered : Nat → Int32) (m_slots : Nat → Int32) (m_kept : Nat → Int32) (m_away : Nat → Int32) (m_halfway : Nat → Int32) (m_output : Nat → Int32) (w1 : Nat) (hw1 : w1 < nJS) {p : Program} {e : Env} {s : State} {m : MethodId} {args : Array Value} {below : List Frame} {meth : Method} {c : Code} {A : Nat → Prop} {F : va_W} (X : vX p s m args meth c cX12_layInput 3 none RX12 (wq yX12_layInput cX12_layInput 3 none) D (tyA c9) G A) {Q : State → Prop} (o : (Nat → Int32)) (K : vW p l e { frames := 5, cells := 0, slots := 0, locals := 150 } s m args below meth c 3 D A F 0 0 Q (wX12 ad c9 m_undoable m_undoStart m_thrown m_inputLength m_position m_start m_token m_value m_letters m_code m_place m_outputLength m_s m_parsed m_tried m_remembered m_slots m_kept m_away o m_halfway m_output) 27 [(0, .ref (ad 0)), (1, .ref (sk w1))] []) :
    ∀ (n : Nat) (m_input : Nat → Int32) (v2 : Int32), f_X12_layInput_L2 w1 n m_input v2 = some o → vW p l e { frames := 5, cells := 0, slots := 0, locals := 150 } s m args below meth c 3 D A F 0 0 Q (wX12 ad c9 m_undoable m_undoStart m_thrown m_inputLength m_position m_start m_token m_value m_letters m_code m_place m_outputLength m_s m_parsed m_tried m_remembered m_slots m_kept m_away m_input m_halfway m_output) 2 [(0, .ref (ad 0)), (1, .ref (sk w1)), (2, .int v2)] [] := by
  intro n
  induction n with
  | zero =>
    intro m_input v2 hf
    rw [f_X12_layInput_L2] at hf
    cases hf
  | succ n ih =>
    intro m_input v2 hf
    rw [f_X12_layInput_L2] at hf
    refine v_iload_n X dX12_layInput_2 2 rfl rfl 3 rfl ?_
    refine v_aload_n X dX12_layInput_3 1 rfl rfl 4 rfl ?_
    refine v_slen X hGU hw1 (gV wm_0 wm_1 wm_2 wm_3 wm_4) ⟨Nat.le_of_ble_eq_true rfl, Nat.le_of_ble_eq_true rfl⟩ (rest := [.int v2]) (Nat.le_of_ble_eq_true rfl) ⟨Nat.zero_le _, Nat.zero_le _⟩ dX12_layInput_4 7 rfl ?_
    refine v_icmp_ge X (tgt := 27) dX12_layInput_7 rfl 10 rfl hf (fun hf => ?_) (fun hf => ?_)
    · obtain rfl := Option.some.inj hf
      refine v_sub (lv' := [(0, .ref (ad 0)), (1, .ref (sk w1))]) [0, 1] rfl ?_
      exact K
    · refine v_aload_n X dX12_layInput_10 0 rfl rfl 11 rfl ?_
      refine v_get X (C := RX12) (T := TX12) (N := 22) (ci := 11) (v := _) dX12_layInput_11 (lay_of laym_X12) 0 rfl rfl 10 (by decide) (mw wm_27) rfl rfl 14 rfl ?_
      refine v_iload_n X dX12_layInput_14 2 rfl rfl 15 rfl ?_
      refine v_aload_n X dX12_layInput_15 1 rfl rfl 16 rfl ?_
      refine v_iload_n X dX12_layInput_16 2 rfl rfl 17 rfl ?_
      obtain ⟨x1, hx1, hf⟩ := bnd hf
      refine v_sch X hGU hw1 hx1 (gV wm_28 wm_29 wm_30 wm_3 wm_31) ⟨Nat.le_of_ble_eq_true rfl, Nat.le_of_ble_eq_true rfl⟩ (rest := [.int v2, .ref (ad 8)]) (Nat.le_of_ble_eq_true rfl) ⟨Nat.zero_le _, Nat.zero_le _⟩ dX12_layInput_17 20 rfl ?_
      obtain ⟨g2, hg2, hf⟩ := bnd hf
      refine v_iast X (ws' := (wX12 ad c9 m_undoable m_undoStart m_thrown m_inputLength m_position m_start m_token m_value m_letters m_code m_place m_outputLength m_s m_parsed m_tried m_remembered m_slots m_kept m_away g2 m_halfway m_output)) dX12_layInput_20 8 0 rfl rfl hg2 rfl 21 rfl ?_
      refine v_iinc X (lv' := [(2, .int (v2 + 1)), (0, .ref (ad 0)), (1, .ref (sk w1))]) dX12_layInput_21 2 rfl ic_1 (by decide) rfl 24 rfl ?_
      refine v_goto X (tgt := 2) dX12_layInput_24 rfl ?_
      refine v_sub (lv' := [(0, .ref (ad 0)), (1, .ref (sk w1)), (2, .int (v2 + 1))]) [1, 2, 0] rfl ?_
      exact ih g2 (v2 + 1) hf
set_option maxRecDepth 100000 in
set_option maxHeartbeats 4000000 in
theorem c_X12_layInput (l : Launch) {G : (Nat → Prop) → State → Heap → Prop} (hG : vG G) (D : va_G) (c9 : Nat → ClassId) (sk sv : Nat → Nat) (hGU : ∀ (A : Nat → Prop) (U : State) (H : Heap), G A U H → vU sk sv A U H) (ad : Nat → Nat) (m_undoable : Int32) (m_undoStart : Int32) (m_thrown : Int32) (m_inputLength : Int32) (m_position : Int32) (m_start : Int32) (m_token : Int32) (m_value : Int32) (m_letters : Int32) (m_code : Int32) (m_place : Int32) (m_outputLength : Int32) (m_s : Nat → Int32) (m_parsed : Nat → Int32) (m_tried : Nat → Int32) (m_remembered : Nat → Int32) (m_slots : Nat → Int32) (m_kept : Nat → Int32) (m_away : Nat → Int32) (m_input : Nat → Int32) (m_halfway : Nat → Int32) (m_output : Nat → Int32) (w1 : Nat) (hw1 : w1 < nJS) {o : Int32 × (Nat → Int32)} (hf : f_X12_layInput m_inputLength m_input w1 = some o) : mV l yX12_layInput (wq yX12_layInput cX12_layInput 3 none) { frames := 5, cells := 0, slots := 0, locals := 150 } G D (tyA c9) [.ref (ad 0), .ref (sk w1)] (wX12 ad c9 m_undoable m_undoStart m_thrown m_inputLength m_position m_start m_token m_value m_letters m_code m_place m_outputLength m_s m_parsed m_tried m_remembered m_slots m_kept m_away m_input m_halfway m_output) [] 0 0 (wX12 ad c9 m_undoable m_undoStart m_thrown o.1 m_position m_start m_token m_value m_letters m_code m_place m_outputLength m_s m_parsed m_tried m_remembered m_slots m_kept m_away o.2 m_halfway m_output) := by
  refine mV_of hG (cc := cX12_layInput) (maxL := 3) (by decide) rfl (Nat.le_of_ble_eq_true rfl) ?_
  intro p e s m args below meth c A hnm X
  have X : vX p s m args meth c cX12_layInput 3 none RX12 (wq yX12_layInput cX12_layInput 3 none) D (tyA c9) G A := X
  refine v_eq (lv2 := [(0, .ref (ad 0)), (1, .ref (sk w1))]) rfl rfl rfl rfl ?_
  rw [f_X12_layInput] at hf
  refine v_iconst X dX12_layInput_0 ic_0 1 rfl ?_
  refine v_istore_n X (lv' := [(2, .int 0), (0, .ref (ad 0)), (1, .ref (sk w1))]) dX12_layInput_1 rfl (by decide) rfl 2 rfl ?_
  obtain ⟨o3, ho3, hf⟩ := bnd hf
  refine v_sub (lv' := [(0, .ref (ad 0)), (1, .ref (sk w1)), (2, .int 0)]) [1, 2, 0] rfl ?_
  refine l_X12_layInput_L2 l hG D c9 sk sv hGU ad m_undoable m_undoStart m_thrown m_inputLength m_position m_start m_token m_value m_letters m_code m_place m_outputLength m_s m_parsed m_tried m_remembered m_slots m_kept m_away m_halfway m_output w1 hw1 X o3 ?_ 5000 m_input 0 ho3
  refine v_aload_n X dX12_layInput_27 0 rfl rfl 28 rfl ?_
  refine v_aload_n X dX12_layInput_28 1 rfl rfl 29 rfl ?_
  refine v_slen X hGU hw1 (gV wm_0 wm_1 wm_2 wm_3 wm_4) ⟨Nat.le_of_ble_eq_true rfl, Nat.le_of_ble_eq_true rfl⟩ (rest := [.ref (ad 0)]) (Nat.le_of_ble_eq_true rfl) ⟨Nat.zero_le _, Nat.zero_le _⟩ dX12_layInput_29 32 rfl ?_
  refine v_put X (C := RX12) (T := TX12) (N := 22) (ci := 11) (ty := tyX12 11) (ws' := (wX12 ad c9 m_undoable m_undoStart m_thrown (slen w1) m_position m_start m_token m_value m_letters m_code m_place m_outputLength m_s m_parsed m_tried m_remembered m_slots m_kept m_away o3 m_halfway m_output)) dX12_layInput_32 (lay_of laym_X12) 0 rfl rfl 11 (by decide) tyX12 tyX12_ok nmX12 (mw wm_32) rfl rfl (tyX12_ok 11 (by decide)) rfl rfl (Nat.le_of_ble_eq_true rfl) rfl 35 rfl ?_
  obtain rfl := Option.some.inj hf
  exact v_vret X (Nat.zero_le _) (Nat.zero_le _) dX12_layInput_35
theorem pd_X12_layInput : yX12_layInput.cls ≠ "java/lang/invoke/MethodHandle" ∧ yX12_layInput.cls ≠ "java/lang/invoke/VarHandle" ∧ (parseMethodDescriptor yX12_layInput.desc).map (fun d => d.parameters.length) = some 1 := by decide +kernel
def f_X12_thrown (m_thrown : Int32) : Option (Int32) :=
  some (m_thrown)
set_option maxRecDepth 100000 in
set_option maxHeartbeats 4000000 in
theorem c_X12_thrown (l : Launch) {G : (Nat → Prop) → State → Heap → Prop} (hG : vG G) (D : va_G) (c9 : Nat → ClassId) (ad : Nat → Nat) (m_undoable : Int32) (m_undoStart : Int32) (m_thrown : Int32) (m_inputLength : Int32) (m_position : Int32) (m_start : Int32) (m_token : Int32) (m_value : Int32) (m_letters : Int32) (m_code : Int32) (m_place : Int32) (m_outputLength : Int32) (m_s : Nat → Int32) (m_parsed : Nat → Int32) (m_tried : Nat → Int32) (m_remembered : Nat → Int32) (m_slots : Nat → Int32) (m_kept : Nat → Int32) (m_away : Nat → Int32) (m_input : Nat → Int32) (m_halfway : Nat → Int32) (m_output : Nat → Int32)  {o : Int32} (hf : f_X12_thrown m_thrown = some o) : mI l yX12_thrown (wq yX12_thrown cX12_thrown 1 (some .int)) { frames := 0, cells := 0, slots := 0, locals := 0 } G D (tyA c9) [.ref (ad 0)] (wX12 ad c9 m_undoable m_undoStart m_thrown m_inputLength m_position m_start m_token m_value m_letters m_code m_place m_outputLength m_s m_parsed m_tried m_remembered m_slots m_kept m_away m_input m_halfway m_output) [] 0 0 o (wX12 ad c9 m_undoable m_undoStart m_thrown m_inputLength m_position m_start m_token m_value m_letters m_code m_place m_outputLength m_s m_parsed m_tried m_remembered m_slots m_kept m_away m_input m_halfway m_output) := by
  refine mI_of hG (cc := cX12_thrown) (maxL := 1) (ty := .int) (by decide) rfl (Nat.le_of_ble_eq_true rfl) ?_
  intro p e s m args below meth c A X
  have X : vX p s m args meth c cX12_thrown 1 (some .int) RX12 (wq yX12_thrown cX12_thrown 1 (some .int)) D (tyA c9) G A := X
  refine v_eq (lv2 := [(0, .ref (ad 0))]) rfl rfl rfl rfl ?_
  rw [f_X12_thrown] at hf
  refine v_aload_n X dX12_thrown_0 0 rfl rfl 1 rfl ?_
  refine v_get X (C := RX12) (T := TX12) (N := 22) (ci := 11) (v := _) dX12_thrown_1 (lay_of laym_X12) 0 rfl rfl 8 (by decide) (mw wm_33) rfl rfl 4 rfl ?_
  obtain rfl := Option.some.inj hf
  exact v_iret X (Nat.zero_le _) (Nat.zero_le _) dX12_thrown_4
theorem pd_X12_thrown : yX12_thrown.cls ≠ "java/lang/invoke/MethodHandle" ∧ yX12_thrown.cls ≠ "java/lang/invoke/VarHandle" ∧ (parseMethodDescriptor yX12_thrown.desc).map (fun d => d.parameters.length) = some 0 := by decide +kernel
def f_X12_refuses (m_thrown : Int32) (v1 : Int32) (v2 : Int32) : Option (Int32 × Int32) :=
  Option.bind (if v1 = 0 then (
    some (m_thrown))
  else (
    if m_thrown = 0 then (
      some (v2))
    else (
      some (m_thrown))) : Option (Int32)) fun j1 =>
  if j1 = 0 then (
    some (0, j1))
  else (
    some (1, j1))
set_option maxRecDepth 100000 in
set_option maxHeartbeats 4000000 in
theorem c_X12_refuses (l : Launch) {G : (Nat → Prop) → State → Heap → Prop} (hG : vG G) (D : va_G) (c9 : Nat → ClassId) (ad : Nat → Nat) (m_undoable : Int32) (m_undoStart : Int32) (m_thrown : Int32) (m_inputLength : Int32) (m_position : Int32) (m_start : Int32) (m_token : Int32) (m_value : Int32) (m_letters : Int32) (m_code : Int32) (m_place : Int32) (m_outputLength : Int32) (m_s : Nat → Int32) (m_parsed : Nat → Int32) (m_tried : Nat → Int32) (m_remembered : Nat → Int32) (m_slots : Nat → Int32) (m_kept : Nat → Int32) (m_away : Nat → Int32) (m_input : Nat → Int32) (m_halfway : Nat → Int32) (m_output : Nat → Int32) (v1 : Int32) (v2 : Int32) {o : Int32 × Int32} (hf : f_X12_refuses m_thrown v1 v2 = some o) : mI l yX12_refuses (wq yX12_refuses cX12_refuses 3 (some .boolean)) { frames := 0, cells := 0, slots := 0, locals := 0 } G D (tyA c9) [.ref (ad 0), .int v1, .int v2] (wX12 ad c9 m_undoable m_undoStart m_thrown m_inputLength m_position m_start m_token m_value m_letters m_code m_place m_outputLength m_s m_parsed m_tried m_remembered m_slots m_kept m_away m_input m_halfway m_output) [] 0 0 o.1 (wX12 ad c9 m_undoable m_undoStart o.2 m_inputLength m_position m_start m_token m_value m_letters m_code m_place m_outputLength m_s m_parsed m_tried m_remembered m_slots m_kept m_away m_input m_halfway m_output) := by
  refine mI_of hG (cc := cX12_refuses) (maxL := 3) (ty := .boolean) (by decide) rfl (Nat.le_of_ble_eq_true rfl) ?_
  intro p e s m args below meth c A X
  have X : vX p s m args meth c cX12_refuses 3 (some .boolean) RX12 (wq yX12_refuses cX12_refuses 3 (some .boolean)) D (tyA c9) G A := X
  refine v_eq (lv2 := [(0, .ref (ad 0)), (1, .int v1), (2, .int v2)]) rfl rfl rfl rfl ?_
  rw [f_X12_refuses] at hf
  refine v_iload_n X dX12_refuses_0 1 rfl rfl 1 rfl ?_
  obtain ⟨j1, hj1, hf⟩ := bnd hf
  have Jj1 : vW p l e { frames := 0, cells := 0, slots := 0, locals := 0 } s m args below meth c 3 D A [] 0 0 (MQ below (eI D (tyA c9) A o.1 ((wX12 ad c9 m_undoable m_undoStart o.2 m_inputLength m_position m_start m_token m_value m_letters m_code m_place m_outputLength m_s m_parsed m_tried m_remembered m_slots m_kept m_away m_input m_halfway m_output) ++ [])) args s 0 0 A) (wX12 ad c9 m_undoable m_undoStart j1 m_inputLength m_position m_start m_token m_value m_letters m_code m_place m_outputLength m_s m_parsed m_tried m_remembered m_slots m_kept m_away m_input m_halfway m_output) 16 [(0, .ref (ad 0))] [] := by
    refine v_aload_n X dX12_refuses_16 0 rfl rfl 17 rfl ?_
    refine v_get X (C := RX12) (T := TX12) (N := 22) (ci := 11) (v := _) dX12_refuses_17 (lay_of laym_X12) 0 rfl rfl 8 (by decide) (mw wm_33) rfl rfl 20 rfl ?_
    refine v_if_eq X (tgt := 27) dX12_refuses_20 rfl 23 rfl hf (fun hf => ?_) (fun hf => ?_)
    · refine v_iconst X dX12_refuses_27 ic_0 28 rfl ?_
      obtain rfl := Option.some.inj hf
      exact v_zret X (Nat.zero_le _) (Nat.zero_le _) nz0 dX12_refuses_28
    · refine v_iconst X dX12_refuses_23 ic_1 24 rfl ?_
      refine v_goto X (tgt := 28) dX12_refuses_24 rfl ?_
      obtain rfl := Option.some.inj hf
      exact v_zret X (Nat.zero_le _) (Nat.zero_le _) nz1 dX12_refuses_28
  clear hf
  refine v_if_eq X (tgt := 16) dX12_refuses_1 rfl 4 rfl hj1 (fun hf => ?_) (fun hf => ?_)
  · obtain rfl := Option.some.inj hf
    refine v_sub (lv' := [(0, .ref (ad 0))]) [0] rfl ?_
    exact Jj1
  · refine v_aload_n X dX12_refuses_4 0 rfl rfl 5 rfl ?_
    refine v_get X (C := RX12) (T := TX12) (N := 22) (ci := 11) (v := _) dX12_refuses_5 (lay_of laym_X12) 0 rfl rfl 8 (by decide) (mw wm_33) rfl rfl 8 rfl ?_
    refine v_if_ne X (tgt := 16) dX12_refuses_8 rfl 11 rfl hf (fun hf => ?_) (fun hf => ?_)
    · obtain rfl := Option.some.inj hf
      refine v_sub (lv' := [(0, .ref (ad 0))]) [0] rfl ?_
      exact Jj1
    · refine v_aload_n X dX12_refuses_11 0 rfl rfl 12 rfl ?_
      refine v_iload_n X dX12_refuses_12 2 rfl rfl 13 rfl ?_
      refine v_put X (C := RX12) (T := TX12) (N := 22) (ci := 11) (ty := tyX12 8) (ws' := (wX12 ad c9 m_undoable m_undoStart v2 m_inputLength m_position m_start m_token m_value m_letters m_code m_place m_outputLength m_s m_parsed m_tried m_remembered m_slots m_kept m_away m_input m_halfway m_output)) dX12_refuses_13 (lay_of laym_X12) 0 rfl rfl 8 (by decide) tyX12 tyX12_ok nmX12 (mw wm_33) rfl rfl (tyX12_ok 8 (by decide)) rfl rfl (Nat.le_of_ble_eq_true rfl) rfl 16 rfl ?_
      obtain rfl := Option.some.inj hf
      refine v_sub (lv' := [(0, .ref (ad 0))]) [0] rfl ?_
      exact Jj1
theorem pd_X12_refuses : yX12_refuses.cls ≠ "java/lang/invoke/MethodHandle" ∧ yX12_refuses.cls ≠ "java/lang/invoke/VarHandle" ∧ (parseMethodDescriptor yX12_refuses.desc).map (fun d => d.parameters.length) = some 2 := by decide +kernel
def f_X12_isBetween (v0 : Int32) (v1 : Int32) (v2 : Int32) : Option (Int32) :=
  if v0 < v1 then (
    some (0))
  else (
    if v2 < v0 then (
      some (0))
    else (
      some (1)))
set_option maxRecDepth 100000 in
set_option maxHeartbeats 4000000 in
theorem c_X12_isBetween (l : Launch) {G : (Nat → Prop) → State → Heap → Prop} (hG : vG G) (D : va_G) (c9 : Nat → ClassId)   (v0 : Int32) (v1 : Int32) (v2 : Int32) {o : Int32} (hf : f_X12_isBetween v0 v1 v2 = some o) : mI l yX12_isBetween (wq yX12_isBetween cX12_isBetween 3 (some .boolean)) { frames := 0, cells := 0, slots := 0, locals := 0 } G D (tyA c9) [.int v0, .int v1, .int v2] [] [] 0 0 o [] := by
  refine mI_of hG (cc := cX12_isBetween) (maxL := 3) (ty := .boolean) (by decide) rfl (Nat.le_of_ble_eq_true rfl) ?_
  intro p e s m args below meth c A X
  have X : vX p s m args meth c cX12_isBetween 3 (some .boolean) RX12 (wq yX12_isBetween cX12_isBetween 3 (some .boolean)) D (tyA c9) G A := X
  refine v_eq (lv2 := [(0, .int v0), (1, .int v1), (2, .int v2)]) rfl rfl rfl rfl ?_
  rw [f_X12_isBetween] at hf
  refine v_iload_n X dX12_isBetween_0 0 rfl rfl 1 rfl ?_
  refine v_iload_n X dX12_isBetween_1 1 rfl rfl 2 rfl ?_
  refine v_icmp_lt X (tgt := 14) dX12_isBetween_2 rfl 5 rfl hf (fun hf => ?_) (fun hf => ?_)
  · refine v_iconst X dX12_isBetween_14 ic_0 15 rfl ?_
    obtain rfl := Option.some.inj hf
    exact v_zret X (Nat.zero_le _) (Nat.zero_le _) nz0 dX12_isBetween_15
  · refine v_iload_n X dX12_isBetween_5 0 rfl rfl 6 rfl ?_
    refine v_iload_n X dX12_isBetween_6 2 rfl rfl 7 rfl ?_
    refine v_icmp_gt X (tgt := 14) dX12_isBetween_7 rfl 10 rfl hf (fun hf => ?_) (fun hf => ?_)
    · refine v_iconst X dX12_isBetween_14 ic_0 15 rfl ?_
      obtain rfl := Option.some.inj hf
      exact v_zret X (Nat.zero_le _) (Nat.zero_le _) nz0 dX12_isBetween_15
    · refine v_iconst X dX12_isBetween_10 ic_1 11 rfl ?_
      refine v_goto X (tgt := 15) dX12_isBetween_11 rfl ?_
      obtain rfl := Option.some.inj hf
      exact v_zret X (Nat.zero_le _) (Nat.zero_le _) nz1 dX12_isBetween_15
theorem pd_X12_isBetween : yX12_isBetween.cls ≠ "java/lang/invoke/MethodHandle" ∧ yX12_isBetween.cls ≠ "java/lang/invoke/VarHandle" ∧ (parseMethodDescriptor yX12_isBetween.desc).map (fun d => d.parameters.length) = some 3 := by decide +kernel
def f_X12_copyRow_L3 (fn : Nat) (tn : Nat) (fa : Nat → Int32) (v1 : Int32) (v3 : Int32) : Nat → (Nat → Int32) → Int32 → Option ((Nat → Int32))
  | 0, _, _ => none
  | n + 1, ta, v4 =>
    if 463 ≤ v4 then (
      some (ta))
    else (
      (rd fa fn (v1 + v4)).bind fun x1 =>
      (wr ta tn (v3 + v4) x1).bind fun g2 =>
      f_X12_copyRow_L3 fn tn fa v1 v3 n g2 (v4 + 1))
def f_X12_copyRow (fn : Nat) (tn : Nat) (fa : Nat → Int32) (ta : Nat → Int32) (v1 : Int32) (v3 : Int32) : Option ((Nat → Int32)) :=
  (f_X12_copyRow_L3 fn tn fa v1 v3 5000 ta 0).bind fun o3 =>
  some (o3)
set_option maxRecDepth 100000 in
set_option maxHeartbeats 4000000 in
theorem l_X12_copyRow_L3 (l : Launch) {G : (Nat → Prop) → State → Heap → Prop} (hG : vG G) (D : va_G) (c9 : Nat → ClassId) (a_fa : Nat) (a_ta : Nat) (fn : Nat) (tn : Nat) (fa : Nat → Int32) (v1 : Int32) (v3 : Int32) {p : Program} {e : Env} {s : State} {m : MethodId} {args : Array Value} {below : List Frame} {meth : Method} {c : Code} {A : Nat → Prop} {F : va_W} (X : vX p s m args meth c cX12_copyRow 5 none RX12 (wq yX12_copyRow cX12_copyRow 5 none) D (tyA c9) G A) {Q : State → Prop} (o : (Nat → Int32)) (K : vW p l e { frames := 0, cells := 0, slots := 0, locals := 0 } s m args below meth c 5 D A F 0 0 Q ([(a_fa, .inl (c9 0, fn, .inl fa))] ++ [(a_ta, .inl (c9 0, tn, .inl o))]) 29 [] []) :
    ∀ (n : Nat) (ta : Nat → Int32) (v4 : Int32), f_X12_copyRow_L3 fn tn fa v1 v3 n ta v4 = some o → vW p l e { frames := 0, cells := 0, slots := 0, locals := 0 } s m args below meth c 5 D A F 0 0 Q ([(a_fa, .inl (c9 0, fn, .inl fa))] ++ [(a_ta, .inl (c9 0, tn, .inl ta))]) 3 [(0, .ref a_fa), (1, .int v1), (2, .ref a_ta), (3, .int v3), (4, .int v4)] [] := by
  intro n
  induction n with
  | zero =>
    intro ta v4 hf
    rw [f_X12_copyRow_L3] at hf
    cases hf
  | succ n ih =>
    intro ta v4 hf
    rw [f_X12_copyRow_L3] at hf
    refine v_iload X dX12_copyRow_3 4 rfl 5 rfl ?_
    refine v_sipush X dX12_copyRow_5 sp_463 8 rfl ?_
    refine v_icmp_ge X (tgt := 29) dX12_copyRow_8 rfl 11 rfl hf (fun hf => ?_) (fun hf => ?_)
    · obtain rfl := Option.some.inj hf
      refine v_sub (lv' := []) [] rfl ?_
      exact K
    · refine v_aload_n X dX12_copyRow_11 2 rfl rfl 12 rfl ?_
      refine v_iload_n X dX12_copyRow_12 3 rfl rfl 13 rfl ?_
      refine v_iload X dX12_copyRow_13 4 rfl 15 rfl ?_
      refine v_iadd X dX12_copyRow_15 16 rfl ?_
      refine v_aload_n X dX12_copyRow_16 0 rfl rfl 17 rfl ?_
      refine v_iload_n X dX12_copyRow_17 1 rfl rfl 18 rfl ?_
      refine v_iload X dX12_copyRow_18 4 rfl 20 rfl ?_
      refine v_iadd X dX12_copyRow_20 21 rfl ?_
      obtain ⟨x1, hx1, hf⟩ := bnd hf
      refine v_iald X dX12_copyRow_21 0 0 rfl rfl hx1 22 rfl ?_
      obtain ⟨g2, hg2, hf⟩ := bnd hf
      refine v_iast X (ws' := ([(a_fa, .inl (c9 0, fn, .inl fa))] ++ [(a_ta, .inl (c9 0, tn, .inl g2))])) dX12_copyRow_22 1 0 rfl rfl hg2 rfl 23 rfl ?_
      refine v_iinc X (lv' := [(4, .int (v4 + 1)), (0, .ref a_fa), (1, .int v1), (2, .ref a_ta), (3, .int v3)]) dX12_copyRow_23 4 rfl ic_1 (by decide) rfl 26 rfl ?_
      refine v_goto X (tgt := 3) dX12_copyRow_26 rfl ?_
      refine v_sub (lv' := [(0, .ref a_fa), (1, .int v1), (2, .ref a_ta), (3, .int v3), (4, .int (v4 + 1))]) [1, 2, 3, 4, 0] rfl ?_
      exact ih g2 (v4 + 1) hf
set_option maxRecDepth 100000 in
set_option maxHeartbeats 4000000 in
theorem c_X12_copyRow (l : Launch) {G : (Nat → Prop) → State → Heap → Prop} (hG : vG G) (D : va_G) (c9 : Nat → ClassId) (a_fa : Nat) (a_ta : Nat) (fn : Nat) (tn : Nat) (fa : Nat → Int32) (ta : Nat → Int32) (v1 : Int32) (v3 : Int32) {o : (Nat → Int32)} (hf : f_X12_copyRow fn tn fa ta v1 v3 = some o) : mV l yX12_copyRow (wq yX12_copyRow cX12_copyRow 5 none) { frames := 0, cells := 0, slots := 0, locals := 0 } G D (tyA c9) [.ref a_fa, .int v1, .ref a_ta, .int v3] ([(a_fa, .inl (c9 0, fn, .inl fa))] ++ [(a_ta, .inl (c9 0, tn, .inl ta))]) [] 0 0 ([(a_fa, .inl (c9 0, fn, .inl fa))] ++ [(a_ta, .inl (c9 0, tn, .inl o))]) := by
  refine mV_of hG (cc := cX12_copyRow) (maxL := 5) (by decide) rfl (Nat.le_of_ble_eq_true rfl) ?_
  intro p e s m args below meth c A hnm X
  have X : vX p s m args meth c cX12_copyRow 5 none RX12 (wq yX12_copyRow cX12_copyRow 5 none) D (tyA c9) G A := X
  refine v_eq (lv2 := [(0, .ref a_fa), (1, .int v1), (2, .ref a_ta), (3, .int v3)]) rfl rfl rfl rfl ?_
  rw [f_X12_copyRow] at hf
  refine v_iconst X dX12_copyRow_0 ic_0 1 rfl ?_
  refine v_istore X (lv' := [(4, .int 0), (0, .ref a_fa), (1, .int v1), (2, .ref a_ta), (3, .int v3)]) dX12_copyRow_1 (by decide) rfl 3 rfl ?_
  obtain ⟨o3, ho3, hf⟩ := bnd hf
  refine v_sub (lv' := [(0, .ref a_fa), (1, .int v1), (2, .ref a_ta), (3, .int v3), (4, .int 0)]) [1, 2, 3, 4, 0] rfl ?_
  refine l_X12_copyRow_L3 l hG D c9 a_fa a_ta fn tn fa v1 v3 X o3 ?_ 5000 ta 0 ho3
  obtain rfl := Option.some.inj hf
  exact v_vret X (Nat.zero_le _) (Nat.zero_le _) dX12_copyRow_29
theorem pd_X12_copyRow : yX12_copyRow.cls ≠ "java/lang/invoke/MethodHandle" ∧ yX12_copyRow.cls ≠ "java/lang/invoke/VarHandle" ∧ (parseMethodDescriptor yX12_copyRow.desc).map (fun d => d.parameters.length) = some 4 := by decide +kernel
def f_X12_lesser (v0 : Int32) (v1 : Int32) : Option (Int32) :=
  if v1 ≤ v0 then (
    some (v1))
  else (
    some (v0))
set_option maxRecDepth 100000 in
set_option maxHeartbeats 4000000 in
theorem c_X12_lesser (l : Launch) {G : (Nat → Prop) → State → Heap → Prop} (hG : vG G) (D : va_G) (c9 : Nat → ClassId)   (v0 : Int32) (v1 : Int32) {o : Int32} (hf : f_X12_lesser v0 v1 = some o) : mI l yX12_lesser (wq yX12_lesser cX12_lesser 2 (some .int)) { frames := 0, cells := 0, slots := 0, locals := 0 } G D (tyA c9) [.int v0, .int v1] [] [] 0 0 o [] := by
  refine mI_of hG (cc := cX12_lesser) (maxL := 2) (ty := .int) (by decide) rfl (Nat.le_of_ble_eq_true rfl) ?_
  intro p e s m args below meth c A X
  have X : vX p s m args meth c cX12_lesser 2 (some .int) RX12 (wq yX12_lesser cX12_lesser 2 (some .int)) D (tyA c9) G A := X
  refine v_eq (lv2 := [(0, .int v0), (1, .int v1)]) rfl rfl rfl rfl ?_
  rw [f_X12_lesser] at hf
  refine v_iload_n X dX12_lesser_0 0 rfl rfl 1 rfl ?_
  refine v_iload_n X dX12_lesser_1 1 rfl rfl 2 rfl ?_
  refine v_icmp_ge X (tgt := 9) dX12_lesser_2 rfl 5 rfl hf (fun hf => ?_) (fun hf => ?_)
  · refine v_iload_n X dX12_lesser_9 1 rfl rfl 10 rfl ?_
    obtain rfl := Option.some.inj hf
    exact v_iret X (Nat.zero_le _) (Nat.zero_le _) dX12_lesser_10
  · refine v_iload_n X dX12_lesser_5 0 rfl rfl 6 rfl ?_
    refine v_goto X (tgt := 10) dX12_lesser_6 rfl ?_
    obtain rfl := Option.some.inj hf
    exact v_iret X (Nat.zero_le _) (Nat.zero_le _) dX12_lesser_10
theorem pd_X12_lesser : yX12_lesser.cls ≠ "java/lang/invoke/MethodHandle" ∧ yX12_lesser.cls ≠ "java/lang/invoke/VarHandle" ∧ (parseMethodDescriptor yX12_lesser.desc).map (fun d => d.parameters.length) = some 2 := by decide +kernel
def f_X12_greater (v0 : Int32) (v1 : Int32) : Option (Int32) :=
  if v0 ≤ v1 then (
    some (v1))
  else (
    some (v0))
set_option maxRecDepth 100000 in
set_option maxHeartbeats 4000000 in
theorem c_X12_greater (l : Launch) {G : (Nat → Prop) → State → Heap → Prop} (hG : vG G) (D : va_G) (c9 : Nat → ClassId)   (v0 : Int32) (v1 : Int32) {o : Int32} (hf : f_X12_greater v0 v1 = some o) : mI l yX12_greater (wq yX12_greater cX12_greater 2 (some .int)) { frames := 0, cells := 0, slots := 0, locals := 0 } G D (tyA c9) [.int v0, .int v1] [] [] 0 0 o [] := by
  refine mI_of hG (cc := cX12_greater) (maxL := 2) (ty := .int) (by decide) rfl (Nat.le_of_ble_eq_true rfl) ?_
  intro p e s m args below meth c A X
  have X : vX p s m args meth c cX12_greater 2 (some .int) RX12 (wq yX12_greater cX12_greater 2 (some .int)) D (tyA c9) G A := X
  refine v_eq (lv2 := [(0, .int v0), (1, .int v1)]) rfl rfl rfl rfl ?_
  rw [f_X12_greater] at hf
  refine v_iload_n X dX12_greater_0 0 rfl rfl 1 rfl ?_
  refine v_iload_n X dX12_greater_1 1 rfl rfl 2 rfl ?_
  refine v_icmp_le X (tgt := 9) dX12_greater_2 rfl 5 rfl hf (fun hf => ?_) (fun hf => ?_)
  · refine v_iload_n X dX12_greater_9 1 rfl rfl 10 rfl ?_
    obtain rfl := Option.some.inj hf
    exact v_iret X (Nat.zero_le _) (Nat.zero_le _) dX12_greater_10
  · refine v_iload_n X dX12_greater_5 0 rfl rfl 6 rfl ?_
    refine v_goto X (tgt := 10) dX12_greater_6 rfl ?_
    obtain rfl := Option.some.inj hf
    exact v_iret X (Nat.zero_le _) (Nat.zero_le _) dX12_greater_10
theorem pd_X12_greater : yX12_greater.cls ≠ "java/lang/invoke/MethodHandle" ∧ yX12_greater.cls ≠ "java/lang/invoke/VarHandle" ∧ (parseMethodDescriptor yX12_greater.desc).map (fun d => d.parameters.length) = some 2 := by decide +kernel
def f_X12_ofRealm (v0 : Int32) : Option (Int32) :=
  some ((10 + (4 * v0)))
set_option maxRecDepth 100000 in
set_option maxHeartbeats 4000000 in
theorem c_X12_ofRealm (l : Launch) {G : (Nat → Prop) → State → Heap → Prop} (hG : vG G) (D : va_G) (c9 : Nat → ClassId)   (v0 : Int32) {o : Int32} (hf : f_X12_ofRealm v0 = some o) : mI l yX12_ofRealm (wq yX12_ofRealm cX12_ofRealm 1 (some .int)) { frames := 0, cells := 0, slots := 0, locals := 0 } G D (tyA c9) [.int v0] [] [] 0 0 o [] := by
  refine mI_of hG (cc := cX12_ofRealm) (maxL := 1) (ty := .int) (by decide) rfl (Nat.le_of_ble_eq_true rfl) ?_
  intro p e s m args below meth c A X
  have X : vX p s m args meth c cX12_ofRealm 1 (some .int) RX12 (wq yX12_ofRealm cX12_ofRealm 1 (some .int)) D (tyA c9) G A := X
  refine v_eq (lv2 := [(0, .int v0)]) rfl rfl rfl rfl ?_
  rw [f_X12_ofRealm] at hf
  refine v_bipush X dX12_ofRealm_0 bp_10 2 rfl ?_
  refine v_iconst X dX12_ofRealm_2 ic_4 3 rfl ?_
  refine v_iload_n X dX12_ofRealm_3 0 rfl rfl 4 rfl ?_
  refine v_imul X dX12_ofRealm_4 5 rfl ?_
  refine v_iadd X dX12_ofRealm_5 6 rfl ?_
  obtain rfl := Option.some.inj hf
  exact v_iret X (Nat.zero_le _) (Nat.zero_le _) dX12_ofRealm_6
theorem pd_X12_ofRealm : yX12_ofRealm.cls ≠ "java/lang/invoke/MethodHandle" ∧ yX12_ofRealm.cls ≠ "java/lang/invoke/VarHandle" ∧ (parseMethodDescriptor yX12_ofRealm.desc).map (fun d => d.parameters.length) = some 1 := by decide +kernel
def f_X12_ofUser (v0 : Int32) : Option (Int32) :=
  some ((55 + (5 * v0)))
set_option maxRecDepth 100000 in
set_option maxHeartbeats 4000000 in
theorem c_X12_ofUser (l : Launch) {G : (Nat → Prop) → State → Heap → Prop} (hG : vG G) (D : va_G) (c9 : Nat → ClassId)   (v0 : Int32) {o : Int32} (hf : f_X12_ofUser v0 = some o) : mI l yX12_ofUser (wq yX12_ofUser cX12_ofUser 1 (some .int)) { frames := 0, cells := 0, slots := 0, locals := 0 } G D (tyA c9) [.int v0] [] [] 0 0 o [] := by
  refine mI_of hG (cc := cX12_ofUser) (maxL := 1) (ty := .int) (by decide) rfl (Nat.le_of_ble_eq_true rfl) ?_
  intro p e s m args below meth c A X
  have X : vX p s m args meth c cX12_ofUser 1 (some .int) RX12 (wq yX12_ofUser cX12_ofUser 1 (some .int)) D (tyA c9) G A := X
  refine v_eq (lv2 := [(0, .int v0)]) rfl rfl rfl rfl ?_
  rw [f_X12_ofUser] at hf
  refine v_bipush X dX12_ofUser_0 bp_55 2 rfl ?_
  refine v_iconst X dX12_ofUser_2 ic_5 3 rfl ?_
  refine v_iload_n X dX12_ofUser_3 0 rfl rfl 4 rfl ?_
  refine v_imul X dX12_ofUser_4 5 rfl ?_
  refine v_iadd X dX12_ofUser_5 6 rfl ?_
  obtain rfl := Option.some.inj hf
  exact v_iret X (Nat.zero_le _) (Nat.zero_le _) dX12_ofUser_6
theorem pd_X12_ofUser : yX12_ofUser.cls ≠ "java/lang/invoke/MethodHandle" ∧ yX12_ofUser.cls ≠ "java/lang/invoke/VarHandle" ∧ (parseMethodDescriptor yX12_ofUser.desc).map (fun d => d.parameters.length) = some 1 := by decide +kernel
def f_X12_ofService (v0 : Int32) : Option (Int32) :=
  some ((85 + (3 * v0)))
set_option maxRecDepth 100000 in
set_option maxHeartbeats 4000000 in
theorem c_X12_ofService (l : Launch) {G : (Nat → Prop) → State → Heap → Prop} (hG : vG G) (D : va_G) (c9 : Nat → ClassId)   (v0 : Int32) {o : Int32} (hf : f_X12_ofService v0 = some o) : mI l yX12_ofService (wq yX12_ofService cX12_ofService 1 (some .int)) { frames := 0, cells := 0, slots := 0, locals := 0 } G D (tyA c9) [.int v0] [] [] 0 0 o [] := by
  refine mI_of hG (cc := cX12_ofService) (maxL := 1) (ty := .int) (by decide) rfl (Nat.le_of_ble_eq_true rfl) ?_
  intro p e s m args below meth c A X
  have X : vX p s m args meth c cX12_ofService 1 (some .int) RX12 (wq yX12_ofService cX12_ofService 1 (some .int)) D (tyA c9) G A := X
  refine v_eq (lv2 := [(0, .int v0)]) rfl rfl rfl rfl ?_
  rw [f_X12_ofService] at hf
  refine v_bipush X dX12_ofService_0 bp_85 2 rfl ?_
  refine v_iconst X dX12_ofService_2 ic_3 3 rfl ?_
  refine v_iload_n X dX12_ofService_3 0 rfl rfl 4 rfl ?_
  refine v_imul X dX12_ofService_4 5 rfl ?_
  refine v_iadd X dX12_ofService_5 6 rfl ?_
  obtain rfl := Option.some.inj hf
  exact v_iret X (Nat.zero_le _) (Nat.zero_le _) dX12_ofService_6
theorem pd_X12_ofService : yX12_ofService.cls ≠ "java/lang/invoke/MethodHandle" ∧ yX12_ofService.cls ≠ "java/lang/invoke/VarHandle" ∧ (parseMethodDescriptor yX12_ofService.desc).map (fun d => d.parameters.length) = some 1 := by decide +kernel
def f_X12_ofTicket (v0 : Int32) : Option (Int32) :=
  some ((103 + (10 * v0)))
set_option maxRecDepth 100000 in
set_option maxHeartbeats 4000000 in
theorem c_X12_ofTicket (l : Launch) {G : (Nat → Prop) → State → Heap → Prop} (hG : vG G) (D : va_G) (c9 : Nat → ClassId)   (v0 : Int32) {o : Int32} (hf : f_X12_ofTicket v0 = some o) : mI l yX12_ofTicket (wq yX12_ofTicket cX12_ofTicket 1 (some .int)) { frames := 0, cells := 0, slots := 0, locals := 0 } G D (tyA c9) [.int v0] [] [] 0 0 o [] := by
  refine mI_of hG (cc := cX12_ofTicket) (maxL := 1) (ty := .int) (by decide) rfl (Nat.le_of_ble_eq_true rfl) ?_
  intro p e s m args below meth c A X
  have X : vX p s m args meth c cX12_ofTicket 1 (some .int) RX12 (wq yX12_ofTicket cX12_ofTicket 1 (some .int)) D (tyA c9) G A := X
  refine v_eq (lv2 := [(0, .int v0)]) rfl rfl rfl rfl ?_
  rw [f_X12_ofTicket] at hf
  refine v_bipush X dX12_ofTicket_0 bp_103 2 rfl ?_
  refine v_bipush X dX12_ofTicket_2 bp_10 4 rfl ?_
  refine v_iload_n X dX12_ofTicket_4 0 rfl rfl 5 rfl ?_
  refine v_imul X dX12_ofTicket_5 6 rfl ?_
  refine v_iadd X dX12_ofTicket_6 7 rfl ?_
  obtain rfl := Option.some.inj hf
  exact v_iret X (Nat.zero_le _) (Nat.zero_le _) dX12_ofTicket_7
theorem pd_X12_ofTicket : yX12_ofTicket.cls ≠ "java/lang/invoke/MethodHandle" ∧ yX12_ofTicket.cls ≠ "java/lang/invoke/VarHandle" ∧ (parseMethodDescriptor yX12_ofTicket.desc).map (fun d => d.parameters.length) = some 1 := by decide +kernel
def f_X12_ofUse (v0 : Int32) : Option (Int32) :=
  some ((343 + (4 * v0)))
set_option maxRecDepth 100000 in
set_option maxHeartbeats 4000000 in
theorem c_X12_ofUse (l : Launch) {G : (Nat → Prop) → State → Heap → Prop} (hG : vG G) (D : va_G) (c9 : Nat → ClassId)   (v0 : Int32) {o : Int32} (hf : f_X12_ofUse v0 = some o) : mI l yX12_ofUse (wq yX12_ofUse cX12_ofUse 1 (some .int)) { frames := 0, cells := 0, slots := 0, locals := 0 } G D (tyA c9) [.int v0] [] [] 0 0 o [] := by
  refine mI_of hG (cc := cX12_ofUse) (maxL := 1) (ty := .int) (by decide) rfl (Nat.le_of_ble_eq_true rfl) ?_
  intro p e s m args below meth c A X
  have X : vX p s m args meth c cX12_ofUse 1 (some .int) RX12 (wq yX12_ofUse cX12_ofUse 1 (some .int)) D (tyA c9) G A := X
  refine v_eq (lv2 := [(0, .int v0)]) rfl rfl rfl rfl ?_
  rw [f_X12_ofUse] at hf
  refine v_sipush X dX12_ofUse_0 sp_343 3 rfl ?_
  refine v_iconst X dX12_ofUse_3 ic_4 4 rfl ?_
  refine v_iload_n X dX12_ofUse_4 0 rfl rfl 5 rfl ?_
  refine v_imul X dX12_ofUse_5 6 rfl ?_
  refine v_iadd X dX12_ofUse_6 7 rfl ?_
  obtain rfl := Option.some.inj hf
  exact v_iret X (Nat.zero_le _) (Nat.zero_le _) dX12_ofUse_7
theorem pd_X12_ofUse : yX12_ofUse.cls ≠ "java/lang/invoke/MethodHandle" ∧ yX12_ofUse.cls ≠ "java/lang/invoke/VarHandle" ∧ (parseMethodDescriptor yX12_ofUse.desc).map (fun d => d.parameters.length) = some 1 := by decide +kernel
def f_X12_trusted (ga : Nat → Int32) (v1 : Int32) (v2 : Int32) : Option (Int32) :=
  (rd ga 463 ((30 + (5 * v1)) + v2)).bind fun x1 =>
  if x1 = 1 then (
    some (1))
  else (
    some (0))
set_option maxRecDepth 100000 in
set_option maxHeartbeats 4000000 in
theorem c_X12_trusted (l : Launch) {G : (Nat → Prop) → State → Heap → Prop} (hG : vG G) (D : va_G) (c9 : Nat → ClassId) (a_ga : Nat) (ga : Nat → Int32) (v1 : Int32) (v2 : Int32) {o : Int32} (hf : f_X12_trusted ga v1 v2 = some o) : mI l yX12_trusted (wq yX12_trusted cX12_trusted 3 (some .boolean)) { frames := 0, cells := 0, slots := 0, locals := 0 } G D (tyA c9) [.ref a_ga, .int v1, .int v2] ([(a_ga, .inl (c9 0, 463, .inl ga))]) [] 0 0 o ([(a_ga, .inl (c9 0, 463, .inl ga))]) := by
  refine mI_of hG (cc := cX12_trusted) (maxL := 3) (ty := .boolean) (by decide) rfl (Nat.le_of_ble_eq_true rfl) ?_
  intro p e s m args below meth c A X
  have X : vX p s m args meth c cX12_trusted 3 (some .boolean) RX12 (wq yX12_trusted cX12_trusted 3 (some .boolean)) D (tyA c9) G A := X
  refine v_eq (lv2 := [(0, .ref a_ga), (1, .int v1), (2, .int v2)]) rfl rfl rfl rfl ?_
  rw [f_X12_trusted] at hf
  refine v_aload_n X dX12_trusted_0 0 rfl rfl 1 rfl ?_
  refine v_bipush X dX12_trusted_1 bp_30 3 rfl ?_
  refine v_iconst X dX12_trusted_3 ic_5 4 rfl ?_
  refine v_iload_n X dX12_trusted_4 1 rfl rfl 5 rfl ?_
  refine v_imul X dX12_trusted_5 6 rfl ?_
  refine v_iadd X dX12_trusted_6 7 rfl ?_
  refine v_iload_n X dX12_trusted_7 2 rfl rfl 8 rfl ?_
  refine v_iadd X dX12_trusted_8 9 rfl ?_
  obtain ⟨x1, hx1, hf⟩ := bnd hf
  refine v_iald X dX12_trusted_9 0 0 rfl rfl hx1 10 rfl ?_
  refine v_iconst X dX12_trusted_10 ic_1 11 rfl ?_
  refine v_icmp_ne X (tgt := 18) dX12_trusted_11 rfl 14 rfl hf (fun hf => ?_) (fun hf => ?_)
  · refine v_iconst X dX12_trusted_18 ic_0 19 rfl ?_
    obtain rfl := Option.some.inj hf
    exact v_zret X (Nat.zero_le _) (Nat.zero_le _) nz0 dX12_trusted_19
  · refine v_iconst X dX12_trusted_14 ic_1 15 rfl ?_
    refine v_goto X (tgt := 19) dX12_trusted_15 rfl ?_
    obtain rfl := Option.some.inj hf
    exact v_zret X (Nat.zero_le _) (Nat.zero_le _) nz1 dX12_trusted_19
theorem pd_X12_trusted : yX12_trusted.cls ≠ "java/lang/invoke/MethodHandle" ∧ yX12_trusted.cls ≠ "java/lang/invoke/VarHandle" ∧ (parseMethodDescriptor yX12_trusted.desc).map (fun d => d.parameters.length) = some 3 := by decide +kernel
def f_X12_spread_L2 (m_s : Nat → Int32) (v2 : Int32) : Nat → (Nat → Int32) → Int32 → Option ((Nat → Int32))
  | 0, _, _ => none
  | n + 1, m_away, v3 =>
    (rd m_s 463 3).bind fun x1 =>
    if x1 ≤ v3 then (
      some (m_away))
    else (
      if v3 = v2 then (
        (wr m_away 5 v3 0).bind fun g3 =>
        f_X12_spread_L2 m_s v2 n g3 (v3 + 1))
      else (
        (wr m_away 5 v3 99).bind fun g2 =>
        f_X12_spread_L2 m_s v2 n g2 (v3 + 1)))
def f_X12_spread_L55 (m_s : Nat → Int32) (v4 : Int32) : Nat → (Nat → Int32) → Int32 → Option ((Nat → Int32))
  | 0, _, _ => none
  | n + 1, m_away, v5 =>
    (rd m_s 463 3).bind fun x7 =>
    if x7 ≤ v5 then (
      some (m_away))
    else (
      (f_X12_trusted m_s v4 v5).bind fun o8 =>
      if o8 = 0 then (
        (rd m_away 5 v5).bind fun x9 =>
        (wr m_away 5 v5 x9).bind fun g10 =>
        f_X12_spread_L55 m_s v4 n g10 (v5 + 1))
      else (
        (rd m_away 5 v5).bind fun x11 =>
        (rd m_away 5 v4).bind fun x12 =>
        (f_X12_lesser x11 (x12 + 1)).bind fun o13 =>
        (wr m_away 5 v5 o13).bind fun g14 =>
        f_X12_spread_L55 m_s v4 n g14 (v5 + 1)))
def f_X12_spread_L44 (m_s : Nat → Int32) : Nat → (Nat → Int32) → Int32 → Option ((Nat → Int32))
  | 0, _, _ => none
  | n + 1, m_away, v4 =>
    (rd m_s 463 3).bind fun x6 =>
    if x6 ≤ v4 then (
      some (m_away))
    else (
      (f_X12_spread_L55 m_s v4 5000 m_away 0).bind fun o15 =>
      f_X12_spread_L44 m_s n o15 (v4 + 1))
def f_X12_spread_L34 (m_s : Nat → Int32) : Nat → (Nat → Int32) → Int32 → Option ((Nat → Int32))
  | 0, _, _ => none
  | n + 1, m_away, v3 =>
    (rd m_s 463 3).bind fun x5 =>
    if x5 ≤ v3 then (
      some (m_away))
    else (
      (f_X12_spread_L44 m_s 5000 m_away 0).bind fun o16 =>
      f_X12_spread_L34 m_s n o16 (v3 + 1))
def f_X12_spread (m_s : Nat → Int32) (m_away : Nat → Int32) (v2 : Int32) : Option ((Nat → Int32)) :=
  (f_X12_spread_L2 m_s v2 5000 m_away 0).bind fun o4 =>
  (f_X12_spread_L34 m_s 5000 o4 0).bind fun o17 =>
  some (o17)
set_option maxRecDepth 100000 in
set_option maxHeartbeats 4000000 in
theorem l_X12_spread_L2 (l : Launch) {G : (Nat → Prop) → State → Heap → Prop} (hG : vG G) (D : va_G) (c9 : Nat → ClassId) (ad : Nat → Nat) (m_undoable : Int32) (m_undoStart : Int32) (m_thrown : Int32) (m_inputLength : Int32) (m_position : Int32) (m_start : Int32) (m_token : Int32) (m_value : Int32) (m_letters : Int32) (m_code : Int32) (m_place : Int32) (m_outputLength : Int32) (m_s : Nat → Int32) (m_parsed : Nat → Int32) (m_tried : Nat → Int32) (m_remembered : Nat → Int32) (m_slots : Nat → Int32) (m_kept : Nat → Int32) (m_input : Nat → Int32) (m_halfway : Nat → Int32) (m_output : Nat → Int32) (v2 : Int32) {p : Program} {e : Env} {s : State} {m : MethodId} {args : Array Value} {below : List Frame} {meth : Method} {c : Code} {A : Nat → Prop} {F : va_W} (X : vX p s m args meth c cX12_spread 6 none RX12 (wq yX12_spread cX12_spread 6 none) D (tyA c9) G A) {Q : State → Prop} (o : (Nat → Int32)) (K : vW p l e { frames := 1, cells := 0, slots := 0, locals := 22 } s m args below meth c 6 D A F 0 0 Q (wX12 ad c9 m_undoable m_undoStart m_thrown m_inputLength m_position m_start m_token m_value m_letters m_code m_place m_outputLength m_s m_parsed m_tried m_remembered m_slots m_kept o m_input m_halfway m_output) 32 [(0, .ref (ad 0)), (1, .ref (ad 1))] []) :
    ∀ (n : Nat) (m_away : Nat → Int32) (v3 : Int32), f_X12_spread_L2 m_s v2 n m_away v3 = some o → vW p l e { frames := 1, cells := 0, slots := 0, locals := 22 } s m args below meth c 6 D A F 0 0 Q (wX12 ad c9 m_undoable m_undoStart m_thrown m_inputLength m_position m_start m_token m_value m_letters m_code m_place m_outputLength m_s m_parsed m_tried m_remembered m_slots m_kept m_away m_input m_halfway m_output) 2 [(0, .ref (ad 0)), (1, .ref (ad 1)), (2, .int v2), (3, .int v3)] [] := by
  intro n
  induction n with
  | zero =>
    intro m_away v3 hf
    rw [f_X12_spread_L2] at hf
    cases hf
  | succ n ih =>
    intro m_away v3 hf
    rw [f_X12_spread_L2] at hf
    refine v_iload_n X dX12_spread_2 3 rfl rfl 3 rfl ?_
    refine v_aload_n X dX12_spread_3 1 rfl rfl 4 rfl ?_
    refine v_iconst X dX12_spread_4 ic_3 5 rfl ?_
    obtain ⟨x1, hx1, hf⟩ := bnd hf
    refine v_iald X dX12_spread_5 1 0 rfl rfl hx1 6 rfl ?_
    refine v_icmp_ge X (tgt := 32) dX12_spread_6 rfl 9 rfl hf (fun hf => ?_) (fun hf => ?_)
    · obtain rfl := Option.some.inj hf
      refine v_sub (lv' := [(0, .ref (ad 0)), (1, .ref (ad 1))]) [0, 1] rfl ?_
      exact K
    · refine v_aload_n X dX12_spread_9 0 rfl rfl 10 rfl ?_
      refine v_get X (C := RX12) (T := TX12) (N := 22) (ci := 11) (v := _) dX12_spread_10 (lay_of laym_X12) 0 rfl rfl 9 (by decide) (mw wm_34) rfl rfl 13 rfl ?_
      refine v_iload_n X dX12_spread_13 3 rfl rfl 14 rfl ?_
      refine v_iload_n X dX12_spread_14 3 rfl rfl 15 rfl ?_
      refine v_iload_n X dX12_spread_15 2 rfl rfl 16 rfl ?_
      refine v_icmp_ne X (tgt := 23) dX12_spread_16 rfl 19 rfl hf (fun hf => ?_) (fun hf => ?_)
      · refine v_bipush X dX12_spread_23 bp_99 25 rfl ?_
        obtain ⟨g2, hg2, hf⟩ := bnd hf
        refine v_iast X (ws' := (wX12 ad c9 m_undoable m_undoStart m_thrown m_inputLength m_position m_start m_token m_value m_letters m_code m_place m_outputLength m_s m_parsed m_tried m_remembered m_slots m_kept g2 m_input m_halfway m_output)) dX12_spread_25 7 0 rfl rfl hg2 rfl 26 rfl ?_
        refine v_iinc X (lv' := [(3, .int (v3 + 1)), (0, .ref (ad 0)), (1, .ref (ad 1)), (2, .int v2)]) dX12_spread_26 3 rfl ic_1 (by decide) rfl 29 rfl ?_
        refine v_goto X (tgt := 2) dX12_spread_29 rfl ?_
        refine v_sub (lv' := [(0, .ref (ad 0)), (1, .ref (ad 1)), (2, .int v2), (3, .int (v3 + 1))]) [1, 2, 3, 0] rfl ?_
        exact ih g2 (v3 + 1) hf
      · refine v_iconst X dX12_spread_19 ic_0 20 rfl ?_
        refine v_goto X (tgt := 25) dX12_spread_20 rfl ?_
        obtain ⟨g3, hg3, hf⟩ := bnd hf
        refine v_iast X (ws' := (wX12 ad c9 m_undoable m_undoStart m_thrown m_inputLength m_position m_start m_token m_value m_letters m_code m_place m_outputLength m_s m_parsed m_tried m_remembered m_slots m_kept g3 m_input m_halfway m_output)) dX12_spread_25 7 0 rfl rfl hg3 rfl 26 rfl ?_
        refine v_iinc X (lv' := [(3, .int (v3 + 1)), (0, .ref (ad 0)), (1, .ref (ad 1)), (2, .int v2)]) dX12_spread_26 3 rfl ic_1 (by decide) rfl 29 rfl ?_
        refine v_goto X (tgt := 2) dX12_spread_29 rfl ?_
        refine v_sub (lv' := [(0, .ref (ad 0)), (1, .ref (ad 1)), (2, .int v2), (3, .int (v3 + 1))]) [1, 2, 3, 0] rfl ?_
        exact ih g3 (v3 + 1) hf
set_option maxRecDepth 100000 in
set_option maxHeartbeats 4000000 in
theorem l_X12_spread_L55 (l : Launch) {G : (Nat → Prop) → State → Heap → Prop} (hG : vG G) (D : va_G) (c9 : Nat → ClassId) (ad : Nat → Nat) (m_undoable : Int32) (m_undoStart : Int32) (m_thrown : Int32) (m_inputLength : Int32) (m_position : Int32) (m_start : Int32) (m_token : Int32) (m_value : Int32) (m_letters : Int32) (m_code : Int32) (m_place : Int32) (m_outputLength : Int32) (m_s : Nat → Int32) (m_parsed : Nat → Int32) (m_tried : Nat → Int32) (m_remembered : Nat → Int32) (m_slots : Nat → Int32) (m_kept : Nat → Int32) (m_input : Nat → Int32) (m_halfway : Nat → Int32) (m_output : Nat → Int32) (v3 : Int32) (v4 : Int32) {p : Program} {e : Env} {s : State} {m : MethodId} {args : Array Value} {below : List Frame} {meth : Method} {c : Code} {A : Nat → Prop} {F : va_W} (X : vX p s m args meth c cX12_spread 6 none RX12 (wq yX12_spread cX12_spread 6 none) D (tyA c9) G A) {Q : State → Prop} (o : (Nat → Int32)) (K : vW p l e { frames := 1, cells := 0, slots := 0, locals := 22 } s m args below meth c 6 D A F 0 0 Q (wX12 ad c9 m_undoable m_undoStart m_thrown m_inputLength m_position m_start m_token m_value m_letters m_code m_place m_outputLength m_s m_parsed m_tried m_remembered m_slots m_kept o m_input m_halfway m_output) 116 [(0, .ref (ad 0)), (1, .ref (ad 1)), (3, .int v3), (4, .int v4)] []) :
    ∀ (n : Nat) (m_away : Nat → Int32) (v5 : Int32), f_X12_spread_L55 m_s v4 n m_away v5 = some o → vW p l e { frames := 1, cells := 0, slots := 0, locals := 22 } s m args below meth c 6 D A F 0 0 Q (wX12 ad c9 m_undoable m_undoStart m_thrown m_inputLength m_position m_start m_token m_value m_letters m_code m_place m_outputLength m_s m_parsed m_tried m_remembered m_slots m_kept m_away m_input m_halfway m_output) 55 [(0, .ref (ad 0)), (1, .ref (ad 1)), (3, .int v3), (4, .int v4), (5, .int v5)] [] := by
  intro n
  induction n with
  | zero =>
    intro m_away v5 hf
    rw [f_X12_spread_L55] at hf
    cases hf
  | succ n ih =>
    intro m_away v5 hf
    rw [f_X12_spread_L55] at hf
    refine v_iload X dX12_spread_55 4 rfl 57 rfl ?_
    refine v_aload_n X dX12_spread_57 1 rfl rfl 58 rfl ?_
    refine v_iconst X dX12_spread_58 ic_3 59 rfl ?_
    obtain ⟨x7, hx7, hf⟩ := bnd hf
    refine v_iald X dX12_spread_59 1 0 rfl rfl hx7 60 rfl ?_
    refine v_icmp_ge X (tgt := 116) dX12_spread_60 rfl 63 rfl hf (fun hf => ?_) (fun hf => ?_)
    · obtain rfl := Option.some.inj hf
      refine v_sub (lv' := [(0, .ref (ad 0)), (1, .ref (ad 1)), (3, .int v3), (4, .int v4)]) [0, 1, 2, 3] rfl ?_
      exact K
    · refine v_aload_n X dX12_spread_63 0 rfl rfl 64 rfl ?_
      refine v_get X (C := RX12) (T := TX12) (N := 22) (ci := 11) (v := _) dX12_spread_64 (lay_of laym_X12) 0 rfl rfl 9 (by decide) (mw wm_34) rfl rfl 67 rfl ?_
      refine v_iload X dX12_spread_67 4 rfl 69 rfl ?_
      refine v_aload_n X dX12_spread_69 1 rfl rfl 70 rfl ?_
      refine v_iload X dX12_spread_70 3 rfl 72 rfl ?_
      refine v_iload X dX12_spread_72 4 rfl 74 rfl ?_
      obtain ⟨o8, ho8, hf⟩ := bnd hf
      refine v_callSi X (As := [.ref (ad 1), .int v4, .int v5]) (rest := [.int v5, .ref (ad 7)]) (ws' := (wX12 ad c9 m_undoable m_undoStart m_thrown m_inputLength m_position m_start m_token m_value m_letters m_code m_place m_outputLength m_s m_parsed m_tried m_remembered m_slots m_kept m_away m_input m_halfway m_output)) (c_X12_trusted l hG D c9 (ad 1) m_s v4 v5 ho8) 3 (gS wm_35 wm_36 wm_37 wm_38) rfl rfl rfl pd_X12_trusted ⟨Nat.le_of_ble_eq_true rfl, Nat.le_of_ble_eq_true rfl⟩ rfl rfl (Nat.le_of_ble_eq_true rfl) ⟨Nat.zero_le _, Nat.zero_le _⟩ [1] [0, 2, 3, 4, 5, 6, 7, 8, 9, 10] [0, 10, 1, 2, 3, 4, 5, 6, 7, 8, 9] rfl rfl rfl rfl dX12_spread_74 77 rfl ?_
      refine v_if_eq X (tgt := 102) dX12_spread_77 rfl 80 rfl hf (fun hf => ?_) (fun hf => ?_)
      · refine v_aload_n X dX12_spread_102 0 rfl rfl 103 rfl ?_
        refine v_get X (C := RX12) (T := TX12) (N := 22) (ci := 11) (v := _) dX12_spread_103 (lay_of laym_X12) 0 rfl rfl 9 (by decide) (mw wm_34) rfl rfl 106 rfl ?_
        refine v_iload X dX12_spread_106 4 rfl 108 rfl ?_
        obtain ⟨x9, hx9, hf⟩ := bnd hf
        refine v_iald X dX12_spread_108 7 0 rfl rfl hx9 109 rfl ?_
        obtain ⟨g10, hg10, hf⟩ := bnd hf
        refine v_iast X (ws' := (wX12 ad c9 m_undoable m_undoStart m_thrown m_inputLength m_position m_start m_token m_value m_letters m_code m_place m_outputLength m_s m_parsed m_tried m_remembered m_slots m_kept g10 m_input m_halfway m_output)) dX12_spread_109 7 0 rfl rfl hg10 rfl 110 rfl ?_
        refine v_iinc X (lv' := [(5, .int (v5 + 1)), (0, .ref (ad 0)), (1, .ref (ad 1)), (3, .int v3), (4, .int v4)]) dX12_spread_110 4 rfl ic_1 (by decide) rfl 113 rfl ?_
        refine v_goto X (tgt := 55) dX12_spread_113 rfl ?_
        refine v_sub (lv' := [(0, .ref (ad 0)), (1, .ref (ad 1)), (3, .int v3), (4, .int v4), (5, .int (v5 + 1))]) [1, 2, 3, 4, 0] rfl ?_
        exact ih g10 (v5 + 1) hf
      · refine v_aload_n X dX12_spread_80 0 rfl rfl 81 rfl ?_
        refine v_get X (C := RX12) (T := TX12) (N := 22) (ci := 11) (v := _) dX12_spread_81 (lay_of laym_X12) 0 rfl rfl 9 (by decide) (mw wm_34) rfl rfl 84 rfl ?_
        refine v_iload X dX12_spread_84 4 rfl 86 rfl ?_
        obtain ⟨x11, hx11, hf⟩ := bnd hf
        refine v_iald X dX12_spread_86 7 0 rfl rfl hx11 87 rfl ?_
        refine v_aload_n X dX12_spread_87 0 rfl rfl 88 rfl ?_
        refine v_get X (C := RX12) (T := TX12) (N := 22) (ci := 11) (v := _) dX12_spread_88 (lay_of laym_X12) 0 rfl rfl 9 (by decide) (mw wm_34) rfl rfl 91 rfl ?_
        refine v_iload X dX12_spread_91 3 rfl 93 rfl ?_
        obtain ⟨x12, hx12, hf⟩ := bnd hf
        refine v_iald X dX12_spread_93 7 0 rfl rfl hx12 94 rfl ?_
        refine v_iconst X dX12_spread_94 ic_1 95 rfl ?_
        refine v_iadd X dX12_spread_95 96 rfl ?_
        obtain ⟨o13, ho13, hf⟩ := bnd hf
        refine v_callSi X (As := [.int x11, .int (x12 + 1)]) (rest := [.int v5, .ref (ad 7)]) (ws' := (wX12 ad c9 m_undoable m_undoStart m_thrown m_inputLength m_position m_start m_token m_value m_letters m_code m_place m_outputLength m_s m_parsed m_tried m_remembered m_slots m_kept m_away m_input m_halfway m_output)) (c_X12_lesser l hG D c9 x11 (x12 + 1) ho13) 2 (gS wm_39 wm_40 wm_37 wm_41) rfl rfl rfl pd_X12_lesser ⟨Nat.le_of_ble_eq_true rfl, Nat.le_of_ble_eq_true rfl⟩ rfl rfl (Nat.le_of_ble_eq_true rfl) ⟨Nat.zero_le _, Nat.zero_le _⟩ [] [0, 1, 2, 3, 4, 5, 6, 7, 8, 9, 10] [0, 1, 2, 3, 4, 5, 6, 7, 8, 9, 10] rfl rfl rfl rfl dX12_spread_96 99 rfl ?_
        refine v_goto X (tgt := 109) dX12_spread_99 rfl ?_
        obtain ⟨g14, hg14, hf⟩ := bnd hf
        refine v_iast X (ws' := (wX12 ad c9 m_undoable m_undoStart m_thrown m_inputLength m_position m_start m_token m_value m_letters m_code m_place m_outputLength m_s m_parsed m_tried m_remembered m_slots m_kept g14 m_input m_halfway m_output)) dX12_spread_109 7 0 rfl rfl hg14 rfl 110 rfl ?_
        refine v_iinc X (lv' := [(5, .int (v5 + 1)), (0, .ref (ad 0)), (1, .ref (ad 1)), (3, .int v3), (4, .int v4)]) dX12_spread_110 4 rfl ic_1 (by decide) rfl 113 rfl ?_
        refine v_goto X (tgt := 55) dX12_spread_113 rfl ?_
        refine v_sub (lv' := [(0, .ref (ad 0)), (1, .ref (ad 1)), (3, .int v3), (4, .int v4), (5, .int (v5 + 1))]) [1, 2, 3, 4, 0] rfl ?_
        exact ih g14 (v5 + 1) hf
set_option maxRecDepth 100000 in
set_option maxHeartbeats 4000000 in
theorem l_X12_spread_L44 (l : Launch) {G : (Nat → Prop) → State → Heap → Prop} (hG : vG G) (D : va_G) (c9 : Nat → ClassId) (ad : Nat → Nat) (m_undoable : Int32) (m_undoStart : Int32) (m_thrown : Int32) (m_inputLength : Int32) (m_position : Int32) (m_start : Int32) (m_token : Int32) (m_value : Int32) (m_letters : Int32) (m_code : Int32) (m_place : Int32) (m_outputLength : Int32) (m_s : Nat → Int32) (m_parsed : Nat → Int32) (m_tried : Nat → Int32) (m_remembered : Nat → Int32) (m_slots : Nat → Int32) (m_kept : Nat → Int32) (m_input : Nat → Int32) (m_halfway : Nat → Int32) (m_output : Nat → Int32) (v3 : Int32) {p : Program} {e : Env} {s : State} {m : MethodId} {args : Array Value} {below : List Frame} {meth : Method} {c : Code} {A : Nat → Prop} {F : va_W} (X : vX p s m args meth c cX12_spread 6 none RX12 (wq yX12_spread cX12_spread 6 none) D (tyA c9) G A) {Q : State → Prop} (o : (Nat → Int32)) (K : vW p l e { frames := 1, cells := 0, slots := 0, locals := 22 } s m args below meth c 6 D A F 0 0 Q (wX12 ad c9 m_undoable m_undoStart m_thrown m_inputLength m_position m_start m_token m_value m_letters m_code m_place m_outputLength m_s m_parsed m_tried m_remembered m_slots m_kept o m_input m_halfway m_output) 122 [(0, .ref (ad 0)), (1, .ref (ad 1)), (3, .int v3)] []) :
    ∀ (n : Nat) (m_away : Nat → Int32) (v4 : Int32), f_X12_spread_L44 m_s n m_away v4 = some o → vW p l e { frames := 1, cells := 0, slots := 0, locals := 22 } s m args below meth c 6 D A F 0 0 Q (wX12 ad c9 m_undoable m_undoStart m_thrown m_inputLength m_position m_start m_token m_value m_letters m_code m_place m_outputLength m_s m_parsed m_tried m_remembered m_slots m_kept m_away m_input m_halfway m_output) 44 [(0, .ref (ad 0)), (1, .ref (ad 1)), (3, .int v3), (4, .int v4)] [] := by
  intro n
  induction n with
  | zero =>
    intro m_away v4 hf
    rw [f_X12_spread_L44] at hf
    cases hf
  | succ n ih =>
    intro m_away v4 hf
    rw [f_X12_spread_L44] at hf
    refine v_iload X dX12_spread_44 3 rfl 46 rfl ?_
    refine v_aload_n X dX12_spread_46 1 rfl rfl 47 rfl ?_
    refine v_iconst X dX12_spread_47 ic_3 48 rfl ?_
    obtain ⟨x6, hx6, hf⟩ := bnd hf
    refine v_iald X dX12_spread_48 1 0 rfl rfl hx6 49 rfl ?_
    refine v_icmp_ge X (tgt := 122) dX12_spread_49 rfl 52 rfl hf (fun hf => ?_) (fun hf => ?_)
    · obtain rfl := Option.some.inj hf
      refine v_sub (lv' := [(0, .ref (ad 0)), (1, .ref (ad 1)), (3, .int v3)]) [0, 1, 2] rfl ?_
      exact K
    · refine v_iconst X dX12_spread_52 ic_0 53 rfl ?_
      refine v_istore X (lv' := [(5, .int 0), (0, .ref (ad 0)), (1, .ref (ad 1)), (3, .int v3), (4, .int v4)]) dX12_spread_53 (by decide) rfl 55 rfl ?_
      obtain ⟨o15, ho15, hf⟩ := bnd hf
      refine v_sub (lv' := [(0, .ref (ad 0)), (1, .ref (ad 1)), (3, .int v3), (4, .int v4), (5, .int 0)]) [1, 2, 3, 4, 0] rfl ?_
      refine l_X12_spread_L55 l hG D c9 ad m_undoable m_undoStart m_thrown m_inputLength m_position m_start m_token m_value m_letters m_code m_place m_outputLength m_s m_parsed m_tried m_remembered m_slots m_kept m_input m_halfway m_output v3 v4 X o15 ?_ 5000 m_away 0 ho15
      refine v_iinc X (lv' := [(4, .int (v4 + 1)), (0, .ref (ad 0)), (1, .ref (ad 1)), (3, .int v3)]) dX12_spread_116 3 rfl ic_1 (by decide) rfl 119 rfl ?_
      refine v_goto X (tgt := 44) dX12_spread_119 rfl ?_
      refine v_sub (lv' := [(0, .ref (ad 0)), (1, .ref (ad 1)), (3, .int v3), (4, .int (v4 + 1))]) [1, 2, 3, 0] rfl ?_
      exact ih o15 (v4 + 1) hf
set_option maxRecDepth 100000 in
set_option maxHeartbeats 4000000 in
theorem l_X12_spread_L34 (l : Launch) {G : (Nat → Prop) → State → Heap → Prop} (hG : vG G) (D : va_G) (c9 : Nat → ClassId) (ad : Nat → Nat) (m_undoable : Int32) (m_undoStart : Int32) (m_thrown : Int32) (m_inputLength : Int32) (m_position : Int32) (m_start : Int32) (m_token : Int32) (m_value : Int32) (m_letters : Int32) (m_code : Int32) (m_place : Int32) (m_outputLength : Int32) (m_s : Nat → Int32) (m_parsed : Nat → Int32) (m_tried : Nat → Int32) (m_remembered : Nat → Int32) (m_slots : Nat → Int32) (m_kept : Nat → Int32) (m_input : Nat → Int32) (m_halfway : Nat → Int32) (m_output : Nat → Int32) {p : Program} {e : Env} {s : State} {m : MethodId} {args : Array Value} {below : List Frame} {meth : Method} {c : Code} {A : Nat → Prop} {F : va_W} (X : vX p s m args meth c cX12_spread 6 none RX12 (wq yX12_spread cX12_spread 6 none) D (tyA c9) G A) {Q : State → Prop} (o : (Nat → Int32)) (K : vW p l e { frames := 1, cells := 0, slots := 0, locals := 22 } s m args below meth c 6 D A F 0 0 Q (wX12 ad c9 m_undoable m_undoStart m_thrown m_inputLength m_position m_start m_token m_value m_letters m_code m_place m_outputLength m_s m_parsed m_tried m_remembered m_slots m_kept o m_input m_halfway m_output) 128 [] []) :
    ∀ (n : Nat) (m_away : Nat → Int32) (v3 : Int32), f_X12_spread_L34 m_s n m_away v3 = some o → vW p l e { frames := 1, cells := 0, slots := 0, locals := 22 } s m args below meth c 6 D A F 0 0 Q (wX12 ad c9 m_undoable m_undoStart m_thrown m_inputLength m_position m_start m_token m_value m_letters m_code m_place m_outputLength m_s m_parsed m_tried m_remembered m_slots m_kept m_away m_input m_halfway m_output) 34 [(0, .ref (ad 0)), (1, .ref (ad 1)), (3, .int v3)] [] := by
  intro n
  induction n with
  | zero =>
    intro m_away v3 hf
    rw [f_X12_spread_L34] at hf
    cases hf
  | succ n ih =>
    intro m_away v3 hf
    rw [f_X12_spread_L34] at hf
    refine v_iload_n X dX12_spread_34 2 rfl rfl 35 rfl ?_
    refine v_aload_n X dX12_spread_35 1 rfl rfl 36 rfl ?_
    refine v_iconst X dX12_spread_36 ic_3 37 rfl ?_
    obtain ⟨x5, hx5, hf⟩ := bnd hf
    refine v_iald X dX12_spread_37 1 0 rfl rfl hx5 38 rfl ?_
    refine v_icmp_ge X (tgt := 128) dX12_spread_38 rfl 41 rfl hf (fun hf => ?_) (fun hf => ?_)
    · obtain rfl := Option.some.inj hf
      refine v_sub (lv' := []) [] rfl ?_
      exact K
    · refine v_iconst X dX12_spread_41 ic_0 42 rfl ?_
      refine v_istore X (lv' := [(4, .int 0), (0, .ref (ad 0)), (1, .ref (ad 1)), (3, .int v3)]) dX12_spread_42 (by decide) rfl 44 rfl ?_
      obtain ⟨o16, ho16, hf⟩ := bnd hf
      refine v_sub (lv' := [(0, .ref (ad 0)), (1, .ref (ad 1)), (3, .int v3), (4, .int 0)]) [1, 2, 3, 0] rfl ?_
      refine l_X12_spread_L44 l hG D c9 ad m_undoable m_undoStart m_thrown m_inputLength m_position m_start m_token m_value m_letters m_code m_place m_outputLength m_s m_parsed m_tried m_remembered m_slots m_kept m_input m_halfway m_output v3 X o16 ?_ 5000 m_away 0 ho16
      refine v_iinc X (lv' := [(3, .int (v3 + 1)), (0, .ref (ad 0)), (1, .ref (ad 1))]) dX12_spread_122 2 rfl ic_1 (by decide) rfl 125 rfl ?_
      refine v_goto X (tgt := 34) dX12_spread_125 rfl ?_
      refine v_sub (lv' := [(0, .ref (ad 0)), (1, .ref (ad 1)), (3, .int (v3 + 1))]) [1, 2, 0] rfl ?_
      exact ih o16 (v3 + 1) hf
set_option maxRecDepth 100000 in
set_option maxHeartbeats 4000000 in
theorem c_X12_spread (l : Launch) {G : (Nat → Prop) → State → Heap → Prop} (hG : vG G) (D : va_G) (c9 : Nat → ClassId) (ad : Nat → Nat) (m_undoable : Int32) (m_undoStart : Int32) (m_thrown : Int32) (m_inputLength : Int32) (m_position : Int32) (m_start : Int32) (m_token : Int32) (m_value : Int32) (m_letters : Int32) (m_code : Int32) (m_place : Int32) (m_outputLength : Int32) (m_s : Nat → Int32) (m_parsed : Nat → Int32) (m_tried : Nat → Int32) (m_remembered : Nat → Int32) (m_slots : Nat → Int32) (m_kept : Nat → Int32) (m_away : Nat → Int32) (m_input : Nat → Int32) (m_halfway : Nat → Int32) (m_output : Nat → Int32) (v2 : Int32) {o : (Nat → Int32)} (hf : f_X12_spread m_s m_away v2 = some o) : mV l yX12_spread (wq yX12_spread cX12_spread 6 none) { frames := 1, cells := 0, slots := 0, locals := 22 } G D (tyA c9) [.ref (ad 0), .ref (ad 1), .int v2] (wX12 ad c9 m_undoable m_undoStart m_thrown m_inputLength m_position m_start m_token m_value m_letters m_code m_place m_outputLength m_s m_parsed m_tried m_remembered m_slots m_kept m_away m_input m_halfway m_output) [] 0 0 (wX12 ad c9 m_undoable m_undoStart m_thrown m_inputLength m_position m_start m_token m_value m_letters m_code m_place m_outputLength m_s m_parsed m_tried m_remembered m_slots m_kept o m_input m_halfway m_output) := by
  refine mV_of hG (cc := cX12_spread) (maxL := 6) (by decide) rfl (Nat.le_of_ble_eq_true rfl) ?_
  intro p e s m args below meth c A hnm X
  have X : vX p s m args meth c cX12_spread 6 none RX12 (wq yX12_spread cX12_spread 6 none) D (tyA c9) G A := X
  refine v_eq (lv2 := [(0, .ref (ad 0)), (1, .ref (ad 1)), (2, .int v2)]) rfl rfl rfl rfl ?_
  rw [f_X12_spread] at hf
  refine v_iconst X dX12_spread_0 ic_0 1 rfl ?_
  refine v_istore_n X (lv' := [(3, .int 0), (0, .ref (ad 0)), (1, .ref (ad 1)), (2, .int v2)]) dX12_spread_1 rfl (by decide) rfl 2 rfl ?_
  obtain ⟨o4, ho4, hf⟩ := bnd hf
  refine v_sub (lv' := [(0, .ref (ad 0)), (1, .ref (ad 1)), (2, .int v2), (3, .int 0)]) [1, 2, 3, 0] rfl ?_
  refine l_X12_spread_L2 l hG D c9 ad m_undoable m_undoStart m_thrown m_inputLength m_position m_start m_token m_value m_letters m_code m_place m_outputLength m_s m_parsed m_tried m_remembered m_slots m_kept m_input m_halfway m_output v2 X o4 ?_ 5000 m_away 0 ho4
  refine v_iconst X dX12_spread_32 ic_0 33 rfl ?_
  refine v_istore_n X (lv' := [(3, .int 0), (0, .ref (ad 0)), (1, .ref (ad 1))]) dX12_spread_33 rfl (by decide) rfl 34 rfl ?_
  obtain ⟨o17, ho17, hf⟩ := bnd hf
  refine v_sub (lv' := [(0, .ref (ad 0)), (1, .ref (ad 1)), (3, .int 0)]) [1, 2, 0] rfl ?_
  refine l_X12_spread_L34 l hG D c9 ad m_undoable m_undoStart m_thrown m_inputLength m_position m_start m_token m_value m_letters m_code m_place m_outputLength m_s m_parsed m_tried m_remembered m_slots m_kept m_input m_halfway m_output X o17 ?_ 5000 o4 0 ho17
  obtain rfl := Option.some.inj hf
  exact v_vret X (Nat.zero_le _) (Nat.zero_le _) dX12_spread_128
theorem pd_X12_spread : yX12_spread.cls ≠ "java/lang/invoke/MethodHandle" ∧ yX12_spread.cls ≠ "java/lang/invoke/VarHandle" ∧ (parseMethodDescriptor yX12_spread.desc).map (fun d => d.parameters.length) = some 2 := by decide +kernel
def f_X12_far (m_s : Nat → Int32) (m_away : Nat → Int32) (v2 : Int32) (v3 : Int32) : Option (Int32 × (Nat → Int32)) :=
  (f_X12_spread m_s m_away v2).bind fun o1 =>
  (rd o1 5 v3).bind fun x2 =>
  if x2 < 99 then (
    (rd o1 5 v3).bind fun x3 =>
    some (x3, o1))
  else (
    some ((-1), o1))
set_option maxRecDepth 100000 in
set_option maxHeartbeats 4000000 in
theorem c_X12_far (l : Launch) {G : (Nat → Prop) → State → Heap → Prop} (hG : vG G) (D : va_G) (c9 : Nat → ClassId) (ad : Nat → Nat) (m_undoable : Int32) (m_undoStart : Int32) (m_thrown : Int32) (m_inputLength : Int32) (m_position : Int32) (m_start : Int32) (m_token : Int32) (m_value : Int32) (m_letters : Int32) (m_code : Int32) (m_place : Int32) (m_outputLength : Int32) (m_s : Nat → Int32) (m_parsed : Nat → Int32) (m_tried : Nat → Int32) (m_remembered : Nat → Int32) (m_slots : Nat → Int32) (m_kept : Nat → Int32) (m_away : Nat → Int32) (m_input : Nat → Int32) (m_halfway : Nat → Int32) (m_output : Nat → Int32) (v2 : Int32) (v3 : Int32) {o : Int32 × (Nat → Int32)} (hf : f_X12_far m_s m_away v2 v3 = some o) : mI l yX12_far (wq yX12_far cX12_far 4 (some .int)) { frames := 2, cells := 0, slots := 0, locals := 47 } G D (tyA c9) [.ref (ad 0), .ref (ad 1), .int v2, .int v3] (wX12 ad c9 m_undoable m_undoStart m_thrown m_inputLength m_position m_start m_token m_value m_letters m_code m_place m_outputLength m_s m_parsed m_tried m_remembered m_slots m_kept m_away m_input m_halfway m_output) [] 0 0 o.1 (wX12 ad c9 m_undoable m_undoStart m_thrown m_inputLength m_position m_start m_token m_value m_letters m_code m_place m_outputLength m_s m_parsed m_tried m_remembered m_slots m_kept o.2 m_input m_halfway m_output) := by
  refine mI_of hG (cc := cX12_far) (maxL := 4) (ty := .int) (by decide) rfl (Nat.le_of_ble_eq_true rfl) ?_
  intro p e s m args below meth c A X
  have X : vX p s m args meth c cX12_far 4 (some .int) RX12 (wq yX12_far cX12_far 4 (some .int)) D (tyA c9) G A := X
  refine v_eq (lv2 := [(0, .ref (ad 0)), (1, .ref (ad 1)), (2, .int v2), (3, .int v3)]) rfl rfl rfl rfl ?_
  rw [f_X12_far] at hf
  refine v_aload_n X dX12_far_0 0 rfl rfl 1 rfl ?_
  refine v_aload_n X dX12_far_1 1 rfl rfl 2 rfl ?_
  refine v_iload_n X dX12_far_2 2 rfl rfl 3 rfl ?_
  obtain ⟨o1, ho1, hf⟩ := bnd hf
  refine v_callVv X (ci := 11) (T := TX12) (C := RX12) (As := [.ref (ad 1), .int v2]) (rest := []) (ws' := (wX12 ad c9 m_undoable m_undoStart m_thrown m_inputLength m_position m_start m_token m_value m_letters m_code m_place m_outputLength m_s m_parsed m_tried m_remembered m_slots m_kept o1 m_input m_halfway m_output)) (c_X12_spread l hG D c9 ad m_undoable m_undoStart m_thrown m_inputLength m_position m_start m_token m_value m_letters m_code m_place m_outputLength m_s m_parsed m_tried m_remembered m_slots m_kept m_away m_input m_halfway m_output v2 ho1) 2 (gV wm_42 wm_43 wm_44 wm_37 wm_45) rfl rfl rfl ⟨rfl, pd_X12_spread⟩ ⟨Nat.le_of_ble_eq_true rfl, Nat.le_of_ble_eq_true rfl⟩ 0 rfl rfl rfl rfl (Nat.le_of_ble_eq_true rfl) ⟨Nat.zero_le _, Nat.zero_le _⟩ [0, 1, 2, 3, 4, 5, 6, 7, 8, 9, 10] [] [0, 1, 2, 3, 4, 5, 6, 7, 8, 9, 10] rfl rfl rfl rfl dX12_far_3 6 rfl ?_
  refine v_aload_n X dX12_far_6 0 rfl rfl 7 rfl ?_
  refine v_get X (C := RX12) (T := TX12) (N := 22) (ci := 11) (v := _) dX12_far_7 (lay_of laym_X12) 0 rfl rfl 9 (by decide) (mw wm_34) rfl rfl 10 rfl ?_
  refine v_iload_n X dX12_far_10 3 rfl rfl 11 rfl ?_
  obtain ⟨x2, hx2, hf⟩ := bnd hf
  refine v_iald X dX12_far_11 7 0 rfl rfl hx2 12 rfl ?_
  refine v_bipush X dX12_far_12 bp_99 14 rfl ?_
  refine v_icmp_lt X (tgt := 21) dX12_far_14 rfl 17 rfl hf (fun hf => ?_) (fun hf => ?_)
  · refine v_aload_n X dX12_far_21 0 rfl rfl 22 rfl ?_
    refine v_get X (C := RX12) (T := TX12) (N := 22) (ci := 11) (v := _) dX12_far_22 (lay_of laym_X12) 0 rfl rfl 9 (by decide) (mw wm_34) rfl rfl 25 rfl ?_
    refine v_iload_n X dX12_far_25 3 rfl rfl 26 rfl ?_
    obtain ⟨x3, hx3, hf⟩ := bnd hf
    refine v_iald X dX12_far_26 7 0 rfl rfl hx3 27 rfl ?_
    obtain rfl := Option.some.inj hf
    exact v_iret X (Nat.zero_le _) (Nat.zero_le _) dX12_far_27
  · refine v_iconst X dX12_far_17 ic_m1 18 rfl ?_
    refine v_goto X (tgt := 27) dX12_far_18 rfl ?_
    obtain rfl := Option.some.inj hf
    exact v_iret X (Nat.zero_le _) (Nat.zero_le _) dX12_far_27
theorem pd_X12_far : yX12_far.cls ≠ "java/lang/invoke/MethodHandle" ∧ yX12_far.cls ≠ "java/lang/invoke/VarHandle" ∧ (parseMethodDescriptor yX12_far.desc).map (fun d => d.parameters.length) = some 3 := by decide +kernel
def f_X12_skewOf (ga : Nat → Int32) (v1 : Int32) (v2 : Int32) : Option (Int32) :=
  (f_X12_ofUser v1).bind fun o1 =>
  (rd ga 463 (o1 + 3)).bind fun x2 =>
  (f_X12_ofRealm v2).bind fun o3 =>
  (rd ga 463 (o3 + 3)).bind fun x4 =>
  if 0 ≤ (x2 - x4) then (
    some ((x2 - x4)))
  else (
    some ((-(x2 - x4))))
set_option maxRecDepth 100000 in
set_option maxHeartbeats 4000000 in
theorem c_X12_skewOf (l : Launch) {G : (Nat → Prop) → State → Heap → Prop} (hG : vG G) (D : va_G) (c9 : Nat → ClassId) (a_ga : Nat) (ga : Nat → Int32) (v1 : Int32) (v2 : Int32) {o : Int32} (hf : f_X12_skewOf ga v1 v2 = some o) : mI l yX12_skewOf (wq yX12_skewOf cX12_skewOf 4 (some .int)) { frames := 1, cells := 0, slots := 0, locals := 20 } G D (tyA c9) [.ref a_ga, .int v1, .int v2] ([(a_ga, .inl (c9 0, 463, .inl ga))]) [] 0 0 o ([(a_ga, .inl (c9 0, 463, .inl ga))]) := by
  refine mI_of hG (cc := cX12_skewOf) (maxL := 4) (ty := .int) (by decide) rfl (Nat.le_of_ble_eq_true rfl) ?_
  intro p e s m args below meth c A X
  have X : vX p s m args meth c cX12_skewOf 4 (some .int) RX12 (wq yX12_skewOf cX12_skewOf 4 (some .int)) D (tyA c9) G A := X
  refine v_eq (lv2 := [(0, .ref a_ga), (1, .int v1), (2, .int v2)]) rfl rfl rfl rfl ?_
  rw [f_X12_skewOf] at hf
  refine v_aload_n X dX12_skewOf_0 0 rfl rfl 1 rfl ?_
  refine v_iload_n X dX12_skewOf_1 1 rfl rfl 2 rfl ?_
  obtain ⟨o1, ho1, hf⟩ := bnd hf
  refine v_callSi X (As := [.int v1]) (rest := [.ref a_ga]) (ws' := ([(a_ga, .inl (c9 0, 463, .inl ga))])) (c_X12_ofUser l hG D c9 v1 ho1) 1 (gS wm_46 wm_47 wm_37 wm_48) rfl rfl rfl pd_X12_ofUser ⟨Nat.le_of_ble_eq_true rfl, Nat.le_of_ble_eq_true rfl⟩ rfl rfl (Nat.le_of_ble_eq_true rfl) ⟨Nat.zero_le _, Nat.zero_le _⟩ [] [0] [0] rfl rfl rfl rfl dX12_skewOf_2 5 rfl ?_
  refine v_iconst X dX12_skewOf_5 ic_3 6 rfl ?_
  refine v_iadd X dX12_skewOf_6 7 rfl ?_
  obtain ⟨x2, hx2, hf⟩ := bnd hf
  refine v_iald X dX12_skewOf_7 0 0 rfl rfl hx2 8 rfl ?_
  refine v_aload_n X dX12_skewOf_8 0 rfl rfl 9 rfl ?_
  refine v_iload_n X dX12_skewOf_9 2 rfl rfl 10 rfl ?_
  obtain ⟨o3, ho3, hf⟩ := bnd hf
  refine v_callSi X (As := [.int v2]) (rest := [.ref a_ga, .int x2]) (ws' := ([(a_ga, .inl (c9 0, 463, .inl ga))])) (c_X12_ofRealm l hG D c9 v2 ho3) 1 (gS wm_49 wm_50 wm_37 wm_51) rfl rfl rfl pd_X12_ofRealm ⟨Nat.le_of_ble_eq_true rfl, Nat.le_of_ble_eq_true rfl⟩ rfl rfl (Nat.le_of_ble_eq_true rfl) ⟨Nat.zero_le _, Nat.zero_le _⟩ [] [0] [0] rfl rfl rfl rfl dX12_skewOf_10 13 rfl ?_
  refine v_iconst X dX12_skewOf_13 ic_3 14 rfl ?_
  refine v_iadd X dX12_skewOf_14 15 rfl ?_
  obtain ⟨x4, hx4, hf⟩ := bnd hf
  refine v_iald X dX12_skewOf_15 0 0 rfl rfl hx4 16 rfl ?_
  refine v_isub X dX12_skewOf_16 17 rfl ?_
  refine v_istore_n X (lv' := [(3, .int (x2 - x4)), (0, .ref a_ga), (1, .int v1), (2, .int v2)]) dX12_skewOf_17 rfl (by decide) rfl 18 rfl ?_
  refine v_iload_n X dX12_skewOf_18 0 rfl rfl 19 rfl ?_
  refine v_if_ge X (tgt := 27) dX12_skewOf_19 rfl 22 rfl hf (fun hf => ?_) (fun hf => ?_)
  · refine v_iload_n X dX12_skewOf_27 0 rfl rfl 28 rfl ?_
    obtain rfl := Option.some.inj hf
    exact v_iret X (Nat.zero_le _) (Nat.zero_le _) dX12_skewOf_28
  · refine v_iload_n X dX12_skewOf_22 0 rfl rfl 23 rfl ?_
    refine v_ineg X dX12_skewOf_23 24 rfl ?_
    refine v_goto X (tgt := 28) dX12_skewOf_24 rfl ?_
    obtain rfl := Option.some.inj hf
    exact v_iret X (Nat.zero_le _) (Nat.zero_le _) dX12_skewOf_28
theorem pd_X12_skewOf : yX12_skewOf.cls ≠ "java/lang/invoke/MethodHandle" ∧ yX12_skewOf.cls ≠ "java/lang/invoke/VarHandle" ∧ (parseMethodDescriptor yX12_skewOf.desc).map (fun d => d.parameters.length) = some 3 := by decide +kernel
def f_X12_isSkewed (ga : Nat → Int32) (v1 : Int32) (v2 : Int32) : Option (Int32) :=
  (f_X12_skewOf ga v1 v2).bind fun o1 =>
  (rd ga 463 1).bind fun x2 =>
  if o1 ≤ x2 then (
    some (0))
  else (
    some (1))
set_option maxRecDepth 100000 in
set_option maxHeartbeats 4000000 in
theorem c_X12_isSkewed (l : Launch) {G : (Nat → Prop) → State → Heap → Prop} (hG : vG G) (D : va_G) (c9 : Nat → ClassId) (a_ga : Nat) (ga : Nat → Int32) (v1 : Int32) (v2 : Int32) {o : Int32} (hf : f_X12_isSkewed ga v1 v2 = some o) : mI l yX12_isSkewed (wq yX12_isSkewed cX12_isSkewed 3 (some .boolean)) { frames := 2, cells := 0, slots := 0, locals := 43 } G D (tyA c9) [.ref a_ga, .int v1, .int v2] ([(a_ga, .inl (c9 0, 463, .inl ga))]) [] 0 0 o ([(a_ga, .inl (c9 0, 463, .inl ga))]) := by
  refine mI_of hG (cc := cX12_isSkewed) (maxL := 3) (ty := .boolean) (by decide) rfl (Nat.le_of_ble_eq_true rfl) ?_
  intro p e s m args below meth c A X
  have X : vX p s m args meth c cX12_isSkewed 3 (some .boolean) RX12 (wq yX12_isSkewed cX12_isSkewed 3 (some .boolean)) D (tyA c9) G A := X
  refine v_eq (lv2 := [(0, .ref a_ga), (1, .int v1), (2, .int v2)]) rfl rfl rfl rfl ?_
  rw [f_X12_isSkewed] at hf
  refine v_aload_n X dX12_isSkewed_0 0 rfl rfl 1 rfl ?_
  refine v_iload_n X dX12_isSkewed_1 1 rfl rfl 2 rfl ?_
  refine v_iload_n X dX12_isSkewed_2 2 rfl rfl 3 rfl ?_
  obtain ⟨o1, ho1, hf⟩ := bnd hf
  refine v_callSi X (As := [.ref a_ga, .int v1, .int v2]) (rest := []) (ws' := ([(a_ga, .inl (c9 0, 463, .inl ga))])) (c_X12_skewOf l hG D c9 a_ga ga v1 v2 ho1) 3 (gS wm_52 wm_53 wm_37 wm_54) rfl rfl rfl pd_X12_skewOf ⟨Nat.le_of_ble_eq_true rfl, Nat.le_of_ble_eq_true rfl⟩ rfl rfl (Nat.le_of_ble_eq_true rfl) ⟨Nat.zero_le _, Nat.zero_le _⟩ [0] [] [0] rfl rfl rfl rfl dX12_isSkewed_3 6 rfl ?_
  refine v_aload_n X dX12_isSkewed_6 0 rfl rfl 7 rfl ?_
  refine v_iconst X dX12_isSkewed_7 ic_1 8 rfl ?_
  obtain ⟨x2, hx2, hf⟩ := bnd hf
  refine v_iald X dX12_isSkewed_8 0 0 rfl rfl hx2 9 rfl ?_
  refine v_icmp_le X (tgt := 16) dX12_isSkewed_9 rfl 12 rfl hf (fun hf => ?_) (fun hf => ?_)
  · refine v_iconst X dX12_isSkewed_16 ic_0 17 rfl ?_
    obtain rfl := Option.some.inj hf
    exact v_zret X (Nat.zero_le _) (Nat.zero_le _) nz0 dX12_isSkewed_17
  · refine v_iconst X dX12_isSkewed_12 ic_1 13 rfl ?_
    refine v_goto X (tgt := 17) dX12_isSkewed_13 rfl ?_
    obtain rfl := Option.some.inj hf
    exact v_zret X (Nat.zero_le _) (Nat.zero_le _) nz1 dX12_isSkewed_17
theorem pd_X12_isSkewed : yX12_isSkewed.cls ≠ "java/lang/invoke/MethodHandle" ∧ yX12_isSkewed.cls ≠ "java/lang/invoke/VarHandle" ∧ (parseMethodDescriptor yX12_isSkewed.desc).map (fun d => d.parameters.length) = some 3 := by decide +kernel
def f_X12_find_L2 (ga : Nat → Int32) (v1 : Int32) : Nat → Int32 → Option (Int32)
  | 0, _ => none
  | n + 1, v2 =>
    (rd ga 463 6).bind fun x1 =>
    if x1 ≤ v2 then (
      some ((-1)))
    else (
      (f_X12_ofTicket v2).bind fun o2 =>
      (rd ga 463 (o2 + 0)).bind fun x3 =>
      if x3 = v1 then (
        some (v2))
      else (
        f_X12_find_L2 ga v1 n  (v2 + 1)))
def f_X12_find (ga : Nat → Int32) (v1 : Int32) : Option (Int32) :=
  f_X12_find_L2 ga v1 5000 0
set_option maxRecDepth 100000 in
set_option maxHeartbeats 4000000 in
theorem l_X12_find_L2 (l : Launch) {G : (Nat → Prop) → State → Heap → Prop} (hG : vG G) (D : va_G) (c9 : Nat → ClassId) (a_ga : Nat) (ga : Nat → Int32) (v1 : Int32) {p : Program} {e : Env} {s : State} {m : MethodId} {args : Array Value} {below : List Frame} {meth : Method} {c : Code} {A : Nat → Prop} {F : va_W} (X : vX p s m args meth c cX12_find 3 (some .int) RX12 (wq yX12_find cX12_find 3 (some .int)) D (tyA c9) G A) (o : Int32) :
    ∀ (n : Nat) (v2 : Int32), f_X12_find_L2 ga v1 n v2 = some o → vW p l e { frames := 1, cells := 0, slots := 0, locals := 20 } s m args below meth c 3 D A F 0 0 (MQ below (eI D (tyA c9) A o (([(a_ga, .inl (c9 0, 463, .inl ga))]) ++ F)) args s 0 0 A) ([(a_ga, .inl (c9 0, 463, .inl ga))]) 2 [(0, .ref a_ga), (1, .int v1), (2, .int v2)] [] := by
  intro n
  induction n with
  | zero =>
    intro v2 hf
    rw [f_X12_find_L2] at hf
    cases hf
  | succ n ih =>
    intro v2 hf
    rw [f_X12_find_L2] at hf
    refine v_iload_n X dX12_find_2 2 rfl rfl 3 rfl ?_
    refine v_aload_n X dX12_find_3 0 rfl rfl 4 rfl ?_
    refine v_bipush X dX12_find_4 bp_6 6 rfl ?_
    obtain ⟨x1, hx1, hf⟩ := bnd hf
    refine v_iald X dX12_find_6 0 0 rfl rfl hx1 7 rfl ?_
    refine v_icmp_ge X (tgt := 30) dX12_find_7 rfl 10 rfl hf (fun hf => ?_) (fun hf => ?_)
    · refine v_iconst X dX12_find_30 ic_m1 31 rfl ?_
      obtain rfl := Option.some.inj hf
      exact v_iret X (Nat.zero_le _) (Nat.zero_le _) dX12_find_31
    · refine v_aload_n X dX12_find_10 0 rfl rfl 11 rfl ?_
      refine v_iload_n X dX12_find_11 2 rfl rfl 12 rfl ?_
      obtain ⟨o2, ho2, hf⟩ := bnd hf
      refine v_callSi X (As := [.int v2]) (rest := [.ref a_ga]) (ws' := ([(a_ga, .inl (c9 0, 463, .inl ga))])) (c_X12_ofTicket l hG D c9 v2 ho2) 1 (gS wm_55 wm_56 wm_37 wm_57) rfl rfl rfl pd_X12_ofTicket ⟨Nat.le_of_ble_eq_true rfl, Nat.le_of_ble_eq_true rfl⟩ rfl rfl (Nat.le_of_ble_eq_true rfl) ⟨Nat.zero_le _, Nat.zero_le _⟩ [] [0] [0] rfl rfl rfl rfl dX12_find_12 15 rfl ?_
      refine v_iconst X dX12_find_15 ic_0 16 rfl ?_
      refine v_iadd X dX12_find_16 17 rfl ?_
      obtain ⟨x3, hx3, hf⟩ := bnd hf
      refine v_iald X dX12_find_17 0 0 rfl rfl hx3 18 rfl ?_
      refine v_iload_n X dX12_find_18 1 rfl rfl 19 rfl ?_
      refine v_icmp_ne X (tgt := 24) dX12_find_19 rfl 22 rfl hf (fun hf => ?_) (fun hf => ?_)
      · refine v_iinc X (lv' := [(2, .int (v2 + 1)), (0, .ref a_ga), (1, .int v1)]) dX12_find_24 2 rfl ic_1 (by decide) rfl 27 rfl ?_
        refine v_goto X (tgt := 2) dX12_find_27 rfl ?_
        refine v_sub (lv' := [(0, .ref a_ga), (1, .int v1), (2, .int (v2 + 1))]) [1, 2, 0] rfl ?_
        exact ih (v2 + 1) hf
      · refine v_iload_n X dX12_find_22 2 rfl rfl 23 rfl ?_
        obtain rfl := Option.some.inj hf
        exact v_iret X (Nat.zero_le _) (Nat.zero_le _) dX12_find_23
set_option maxRecDepth 100000 in
set_option maxHeartbeats 4000000 in
theorem c_X12_find (l : Launch) {G : (Nat → Prop) → State → Heap → Prop} (hG : vG G) (D : va_G) (c9 : Nat → ClassId) (a_ga : Nat) (ga : Nat → Int32) (v1 : Int32) {o : Int32} (hf : f_X12_find ga v1 = some o) : mI l yX12_find (wq yX12_find cX12_find 3 (some .int)) { frames := 1, cells := 0, slots := 0, locals := 20 } G D (tyA c9) [.ref a_ga, .int v1] ([(a_ga, .inl (c9 0, 463, .inl ga))]) [] 0 0 o ([(a_ga, .inl (c9 0, 463, .inl ga))]) := by
  refine mI_of hG (cc := cX12_find) (maxL := 3) (ty := .int) (by decide) rfl (Nat.le_of_ble_eq_true rfl) ?_
  intro p e s m args below meth c A X
  have X : vX p s m args meth c cX12_find 3 (some .int) RX12 (wq yX12_find cX12_find 3 (some .int)) D (tyA c9) G A := X
  refine v_eq (lv2 := [(0, .ref a_ga), (1, .int v1)]) rfl rfl rfl rfl ?_
  rw [f_X12_find] at hf
  refine v_iconst X dX12_find_0 ic_0 1 rfl ?_
  refine v_istore_n X (lv' := [(2, .int 0), (0, .ref a_ga), (1, .int v1)]) dX12_find_1 rfl (by decide) rfl 2 rfl ?_
  refine v_sub (lv' := [(0, .ref a_ga), (1, .int v1), (2, .int 0)]) [1, 2, 0] rfl ?_
  exact l_X12_find_L2 l hG D c9 a_ga ga v1 X _ 5000 0 hf
theorem pd_X12_find : yX12_find.cls ≠ "java/lang/invoke/MethodHandle" ∧ yX12_find.cls ≠ "java/lang/invoke/VarHandle" ∧ (parseMethodDescriptor yX12_find.desc).map (fun d => d.parameters.length) = some 2 := by decide +kernel
def f_X12_lives (ga : Nat → Int32) (v1 : Int32) : Option (Int32) :=
  (rd ga 463 0).bind fun x1 =>
  (f_X12_ofTicket v1).bind fun o2 =>
  (rd ga 463 (o2 + 6)).bind fun x3 =>
  if x3 ≤ x1 then (
    some (0))
  else (
    some (1))
set_option maxRecDepth 100000 in
set_option maxHeartbeats 4000000 in
theorem c_X12_lives (l : Launch) {G : (Nat → Prop) → State → Heap → Prop} (hG : vG G) (D : va_G) (c9 : Nat → ClassId) (a_ga : Nat) (ga : Nat → Int32) (v1 : Int32) {o : Int32} (hf : f_X12_lives ga v1 = some o) : mI l yX12_lives (wq yX12_lives cX12_lives 2 (some .boolean)) { frames := 1, cells := 0, slots := 0, locals := 20 } G D (tyA c9) [.ref a_ga, .int v1] ([(a_ga, .inl (c9 0, 463, .inl ga))]) [] 0 0 o ([(a_ga, .inl (c9 0, 463, .inl ga))]) := by
  refine mI_of hG (cc := cX12_lives) (maxL := 2) (ty := .boolean) (by decide) rfl (Nat.le_of_ble_eq_true rfl) ?_
  intro p e s m args below meth c A X
  have X : vX p s m args meth c cX12_lives 2 (some .boolean) RX12 (wq yX12_lives cX12_lives 2 (some .boolean)) D (tyA c9) G A := X
  refine v_eq (lv2 := [(0, .ref a_ga), (1, .int v1)]) rfl rfl rfl rfl ?_
  rw [f_X12_lives] at hf
  refine v_aload_n X dX12_lives_0 0 rfl rfl 1 rfl ?_
  refine v_iconst X dX12_lives_1 ic_0 2 rfl ?_
  obtain ⟨x1, hx1, hf⟩ := bnd hf
  refine v_iald X dX12_lives_2 0 0 rfl rfl hx1 3 rfl ?_
  refine v_aload_n X dX12_lives_3 0 rfl rfl 4 rfl ?_
  refine v_iload_n X dX12_lives_4 1 rfl rfl 5 rfl ?_
  obtain ⟨o2, ho2, hf⟩ := bnd hf
  refine v_callSi X (As := [.int v1]) (rest := [.ref a_ga, .int x1]) (ws' := ([(a_ga, .inl (c9 0, 463, .inl ga))])) (c_X12_ofTicket l hG D c9 v1 ho2) 1 (gS wm_55 wm_56 wm_37 wm_57) rfl rfl rfl pd_X12_ofTicket ⟨Nat.le_of_ble_eq_true rfl, Nat.le_of_ble_eq_true rfl⟩ rfl rfl (Nat.le_of_ble_eq_true rfl) ⟨Nat.zero_le _, Nat.zero_le _⟩ [] [0] [0] rfl rfl rfl rfl dX12_lives_5 8 rfl ?_
  refine v_bipush X dX12_lives_8 bp_6 10 rfl ?_
  refine v_iadd X dX12_lives_10 11 rfl ?_
  obtain ⟨x3, hx3, hf⟩ := bnd hf
  refine v_iald X dX12_lives_11 0 0 rfl rfl hx3 12 rfl ?_
  refine v_icmp_ge X (tgt := 19) dX12_lives_12 rfl 15 rfl hf (fun hf => ?_) (fun hf => ?_)
  · refine v_iconst X dX12_lives_19 ic_0 20 rfl ?_
    obtain rfl := Option.some.inj hf
    exact v_zret X (Nat.zero_le _) (Nat.zero_le _) nz0 dX12_lives_20
  · refine v_iconst X dX12_lives_15 ic_1 16 rfl ?_
    refine v_goto X (tgt := 20) dX12_lives_16 rfl ?_
    obtain rfl := Option.some.inj hf
    exact v_zret X (Nat.zero_le _) (Nat.zero_le _) nz1 dX12_lives_20
theorem pd_X12_lives : yX12_lives.cls ≠ "java/lang/invoke/MethodHandle" ∧ yX12_lives.cls ≠ "java/lang/invoke/VarHandle" ∧ (parseMethodDescriptor yX12_lives.desc).map (fun d => d.parameters.length) = some 2 := by decide +kernel
def f_X12_living_L4 (ga : Nat → Int32) : Nat → Int32 → Int32 → Option (Int32)
  | 0, _, _ => none
  | n + 1, v1, v2 =>
    (rd ga 463 6).bind fun x1 =>
    if x1 ≤ v2 then (
      some (v1))
    else (
      (f_X12_lives ga v2).bind fun o2 =>
      Option.bind (if o2 = 0 then (
        some (0))
      else (
        some (1)) : Option (Int32)) fun j3 =>
      f_X12_living_L4 ga n  (v1 + j3) (v2 + 1))
def f_X12_living (ga : Nat → Int32) : Option (Int32) :=
  (f_X12_living_L4 ga 5000 0 0).bind fun o4 =>
  some (o4)
set_option maxRecDepth 100000 in
set_option maxHeartbeats 4000000 in
theorem l_X12_living_L4 (l : Launch) {G : (Nat → Prop) → State → Heap → Prop} (hG : vG G) (D : va_G) (c9 : Nat → ClassId) (a_ga : Nat) (ga : Nat → Int32) {p : Program} {e : Env} {s : State} {m : MethodId} {args : Array Value} {below : List Frame} {meth : Method} {c : Code} {A : Nat → Prop} {F : va_W} (X : vX p s m args meth c cX12_living 3 (some .int) RX12 (wq yX12_living cX12_living 3 (some .int)) D (tyA c9) G A) {Q : State → Prop} (o : Int32) (K : vW p l e { frames := 2, cells := 0, slots := 0, locals := 41 } s m args below meth c 3 D A F 0 0 Q ([(a_ga, .inl (c9 0, 463, .inl ga))]) 34 [(1, .int o)] []) :
    ∀ (n : Nat) (v1 : Int32) (v2 : Int32), f_X12_living_L4 ga n v1 v2 = some o → vW p l e { frames := 2, cells := 0, slots := 0, locals := 41 } s m args below meth c 3 D A F 0 0 Q ([(a_ga, .inl (c9 0, 463, .inl ga))]) 4 [(0, .ref a_ga), (1, .int v1), (2, .int v2)] [] := by
  intro n
  induction n with
  | zero =>
    intro v1 v2 hf
    rw [f_X12_living_L4] at hf
    cases hf
  | succ n ih =>
    intro v1 v2 hf
    rw [f_X12_living_L4] at hf
    refine v_iload_n X dX12_living_4 2 rfl rfl 5 rfl ?_
    refine v_aload_n X dX12_living_5 0 rfl rfl 6 rfl ?_
    refine v_bipush X dX12_living_6 bp_6 8 rfl ?_
    obtain ⟨x1, hx1, hf⟩ := bnd hf
    refine v_iald X dX12_living_8 0 0 rfl rfl hx1 9 rfl ?_
    refine v_icmp_ge X (tgt := 34) dX12_living_9 rfl 12 rfl hf (fun hf => ?_) (fun hf => ?_)
    · obtain rfl := Option.some.inj hf
      refine v_sub (lv' := [(1, .int v1)]) [1] rfl ?_
      exact K
    · refine v_iload_n X dX12_living_12 1 rfl rfl 13 rfl ?_
      refine v_aload_n X dX12_living_13 0 rfl rfl 14 rfl ?_
      refine v_iload_n X dX12_living_14 2 rfl rfl 15 rfl ?_
      obtain ⟨o2, ho2, hf⟩ := bnd hf
      refine v_callSi X (As := [.ref a_ga, .int v2]) (rest := [.int v1]) (ws' := ([(a_ga, .inl (c9 0, 463, .inl ga))])) (c_X12_lives l hG D c9 a_ga ga v2 ho2) 2 (gS wm_58 wm_59 wm_37 wm_60) rfl rfl rfl pd_X12_lives ⟨Nat.le_of_ble_eq_true rfl, Nat.le_of_ble_eq_true rfl⟩ rfl rfl (Nat.le_of_ble_eq_true rfl) ⟨Nat.zero_le _, Nat.zero_le _⟩ [0] [] [0] rfl rfl rfl rfl dX12_living_15 18 rfl ?_
      obtain ⟨j3, hj3, hf⟩ := bnd hf
      have Jj3 : vW p l e { frames := 2, cells := 0, slots := 0, locals := 41 } s m args below meth c 3 D A F 0 0 Q ([(a_ga, .inl (c9 0, 463, .inl ga))]) 26 [(0, .ref a_ga), (2, .int v2)] [.int j3, .int v1] := by
        refine v_iadd X dX12_living_26 27 rfl ?_
        refine v_istore_n X (lv' := [(1, .int (v1 + j3)), (0, .ref a_ga), (2, .int v2)]) dX12_living_27 rfl (by decide) rfl 28 rfl ?_
        refine v_iinc X (lv' := [(2, .int (v2 + 1)), (1, .int (v1 + j3)), (0, .ref a_ga)]) dX12_living_28 2 rfl ic_1 (by decide) rfl 31 rfl ?_
        refine v_goto X (tgt := 4) dX12_living_31 rfl ?_
        refine v_sub (lv' := [(0, .ref a_ga), (1, .int (v1 + j3)), (2, .int (v2 + 1))]) [2, 1, 0] rfl ?_
        exact ih (v1 + j3) (v2 + 1) hf
      clear hf
      refine v_if_eq X (tgt := 25) dX12_living_18 rfl 21 rfl hj3 (fun hf => ?_) (fun hf => ?_)
      · refine v_iconst X dX12_living_25 ic_0 26 rfl ?_
        obtain rfl := Option.some.inj hf
        refine v_sub (lv' := [(0, .ref a_ga), (2, .int v2)]) [0, 2] rfl ?_
        exact Jj3
      · refine v_iconst X dX12_living_21 ic_1 22 rfl ?_
        refine v_goto X (tgt := 26) dX12_living_22 rfl ?_
        obtain rfl := Option.some.inj hf
        refine v_sub (lv' := [(0, .ref a_ga), (2, .int v2)]) [0, 2] rfl ?_
        exact Jj3
set_option maxRecDepth 100000 in
set_option maxHeartbeats 4000000 in
theorem c_X12_living (l : Launch) {G : (Nat → Prop) → State → Heap → Prop} (hG : vG G) (D : va_G) (c9 : Nat → ClassId) (a_ga : Nat) (ga : Nat → Int32)  {o : Int32} (hf : f_X12_living ga = some o) : mI l yX12_living (wq yX12_living cX12_living 3 (some .int)) { frames := 2, cells := 0, slots := 0, locals := 41 } G D (tyA c9) [.ref a_ga] ([(a_ga, .inl (c9 0, 463, .inl ga))]) [] 0 0 o ([(a_ga, .inl (c9 0, 463, .inl ga))]) := by
  refine mI_of hG (cc := cX12_living) (maxL := 3) (ty := .int) (by decide) rfl (Nat.le_of_ble_eq_true rfl) ?_
  intro p e s m args below meth c A X
  have X : vX p s m args meth c cX12_living 3 (some .int) RX12 (wq yX12_living cX12_living 3 (some .int)) D (tyA c9) G A := X
  refine v_eq (lv2 := [(0, .ref a_ga)]) rfl rfl rfl rfl ?_
  rw [f_X12_living] at hf
  refine v_iconst X dX12_living_0 ic_0 1 rfl ?_
  refine v_istore_n X (lv' := [(1, .int 0), (0, .ref a_ga)]) dX12_living_1 rfl (by decide) rfl 2 rfl ?_
  refine v_iconst X dX12_living_2 ic_0 3 rfl ?_
  refine v_istore_n X (lv' := [(2, .int 0), (1, .int 0), (0, .ref a_ga)]) dX12_living_3 rfl (by decide) rfl 4 rfl ?_
  obtain ⟨o4, ho4, hf⟩ := bnd hf
  refine v_sub (lv' := [(0, .ref a_ga), (1, .int 0), (2, .int 0)]) [2, 1, 0] rfl ?_
  refine l_X12_living_L4 l hG D c9 a_ga ga X o4 ?_ 5000 0 0 ho4
  refine v_iload_n X dX12_living_34 0 rfl rfl 35 rfl ?_
  obtain rfl := Option.some.inj hf
  exact v_iret X (Nat.zero_le _) (Nat.zero_le _) dX12_living_35
theorem pd_X12_living : yX12_living.cls ≠ "java/lang/invoke/MethodHandle" ∧ yX12_living.cls ≠ "java/lang/invoke/VarHandle" ∧ (parseMethodDescriptor yX12_living.desc).map (fun d => d.parameters.length) = some 1 := by decide +kernel
def f_X12_drawKey (ga : Nat → Int32) : Option (Int32 × (Nat → Int32)) :=
  (rd ga 463 2).bind fun x1 =>
  (wr ga 463 2 (irm ((21 * x1) + 7) 1024)).bind fun g2 =>
  (rd g2 463 2).bind fun x3 =>
  some (x3, g2)
set_option maxRecDepth 100000 in
set_option maxHeartbeats 4000000 in
theorem c_X12_drawKey (l : Launch) {G : (Nat → Prop) → State → Heap → Prop} (hG : vG G) (D : va_G) (c9 : Nat → ClassId) (a_ga : Nat) (ga : Nat → Int32)  {o : Int32 × (Nat → Int32)} (hf : f_X12_drawKey ga = some o) : mI l yX12_drawKey (wq yX12_drawKey cX12_drawKey 1 (some .int)) { frames := 0, cells := 0, slots := 0, locals := 0 } G D (tyA c9) [.ref a_ga] ([(a_ga, .inl (c9 0, 463, .inl ga))]) [] 0 0 o.1 ([(a_ga, .inl (c9 0, 463, .inl o.2))]) := by
  refine mI_of hG (cc := cX12_drawKey) (maxL := 1) (ty := .int) (by decide) rfl (Nat.le_of_ble_eq_true rfl) ?_
  intro p e s m args below meth c A X
  have X : vX p s m args meth c cX12_drawKey 1 (some .int) RX12 (wq yX12_drawKey cX12_drawKey 1 (some .int)) D (tyA c9) G A := X
  refine v_eq (lv2 := [(0, .ref a_ga)]) rfl rfl rfl rfl ?_
  rw [f_X12_drawKey] at hf
  refine v_aload_n X dX12_drawKey_0 0 rfl rfl 1 rfl ?_
  refine v_iconst X dX12_drawKey_1 ic_2 2 rfl ?_
  refine v_bipush X dX12_drawKey_2 bp_21 4 rfl ?_
  refine v_aload_n X dX12_drawKey_4 0 rfl rfl 5 rfl ?_
  refine v_iconst X dX12_drawKey_5 ic_2 6 rfl ?_
  obtain ⟨x1, hx1, hf⟩ := bnd hf
  refine v_iald X dX12_drawKey_6 0 0 rfl rfl hx1 7 rfl ?_
  refine v_imul X dX12_drawKey_7 8 rfl ?_
  refine v_bipush X dX12_drawKey_8 bp_7 10 rfl ?_
  refine v_iadd X dX12_drawKey_10 11 rfl ?_
  refine v_sipush X dX12_drawKey_11 sp_1024 14 rfl ?_
  refine v_irem X dX12_drawKey_14 (by decide) 15 rfl ?_
  obtain ⟨g2, hg2, hf⟩ := bnd hf
  refine v_iast X (ws' := ([(a_ga, .inl (c9 0, 463, .inl g2))])) dX12_drawKey_15 0 0 rfl rfl hg2 rfl 16 rfl ?_
  refine v_aload_n X dX12_drawKey_16 0 rfl rfl 17 rfl ?_
  refine v_iconst X dX12_drawKey_17 ic_2 18 rfl ?_
  obtain ⟨x3, hx3, hf⟩ := bnd hf
  refine v_iald X dX12_drawKey_18 0 0 rfl rfl hx3 19 rfl ?_
  obtain rfl := Option.some.inj hf
  exact v_iret X (Nat.zero_le _) (Nat.zero_le _) dX12_drawKey_19
theorem pd_X12_drawKey : yX12_drawKey.cls ≠ "java/lang/invoke/MethodHandle" ∧ yX12_drawKey.cls ≠ "java/lang/invoke/VarHandle" ∧ (parseMethodDescriptor yX12_drawKey.desc).map (fun d => d.parameters.length) = some 1 := by decide +kernel
def f_X12_make (ga : Nat → Int32) (v1 : Int32) (v2 : Int32) (v3 : Int32) (v4 : Int32) (v5 : Int32) (v6 : Int32) : Option (Int32 × (Nat → Int32)) :=
  (rd ga 463 6).bind fun x1 =>
  (f_X12_ofTicket x1).bind fun o2 =>
  (rd ga 463 7).bind fun x3 =>
  (wr ga 463 (o2 + 0) x3).bind fun g4 =>
  Option.bind (if v3 = (-1) then (
    some (0))
  else (
    some (1)) : Option (Int32)) fun j5 =>
  (wr g4 463 (o2 + 1) j5).bind fun g6 =>
  (wr g6 463 (o2 + 2) v1).bind fun g7 =>
  (wr g7 463 (o2 + 3) v2).bind fun g8 =>
  (wr g8 463 (o2 + 4) v3).bind fun g9 =>
  (rd g9 463 0).bind fun x10 =>
  (wr g9 463 (o2 + 5) x10).bind fun g11 =>
  (wr g11 463 (o2 + 6) v4).bind fun g12 =>
  Option.bind (if v6 = 1 then (
    (f_X12_greater v5 v4).bind fun o14 =>
    some (o14))
  else (
    some (v4)) : Option (Int32)) fun j13 =>
  (wr g12 463 (o2 + 7) j13).bind fun g15 =>
  (f_X12_drawKey g15).bind fun o16 =>
  (wr o16.2 463 (o2 + 8) o16.1).bind fun g17 =>
  (wr g17 463 (o2 + 9) v6).bind fun g18 =>
  (rd g18 463 6).bind fun x19 =>
  (wr g18 463 6 (x19 + 1)).bind fun g20 =>
  (rd g20 463 7).bind fun x21 =>
  (wr g20 463 7 (x21 + 1)).bind fun g22 =>
  (rd g22 463 7).bind fun x23 =>
  some ((x23 - 1), g22)
set_option maxRecDepth 100000 in
set_option maxHeartbeats 4000000 in
theorem c_X12_make (l : Launch) {G : (Nat → Prop) → State → Heap → Prop} (hG : vG G) (D : va_G) (c9 : Nat → ClassId) (a_ga : Nat) (ga : Nat → Int32) (v1 : Int32) (v2 : Int32) (v3 : Int32) (v4 : Int32) (v5 : Int32) (v6 : Int32) {o : Int32 × (Nat → Int32)} (hf : f_X12_make ga v1 v2 v3 v4 v5 v6 = some o) : mI l yX12_make (wq yX12_make cX12_make 8 (some .int)) { frames := 1, cells := 0, slots := 0, locals := 21 } G D (tyA c9) [.ref a_ga, .int v1, .int v2, .int v3, .int v4, .int v5, .int v6] ([(a_ga, .inl (c9 0, 463, .inl ga))]) [] 0 0 o.1 ([(a_ga, .inl (c9 0, 463, .inl o.2))]) := by
  refine mI_of hG (cc := cX12_make) (maxL := 8) (ty := .int) (by decide) rfl (Nat.le_of_ble_eq_true rfl) ?_
  intro p e s m args below meth c A X
  have X : vX p s m args meth c cX12_make 8 (some .int) RX12 (wq yX12_make cX12_make 8 (some .int)) D (tyA c9) G A := X
  refine v_eq (lv2 := [(0, .ref a_ga), (1, .int v1), (2, .int v2), (3, .int v3), (4, .int v4), (5, .int v5), (6, .int v6)]) rfl rfl rfl rfl ?_
  rw [f_X12_make] at hf
  refine v_aload_n X dX12_make_0 0 rfl rfl 1 rfl ?_
  refine v_bipush X dX12_make_1 bp_6 3 rfl ?_
  obtain ⟨x1, hx1, hf⟩ := bnd hf
  refine v_iald X dX12_make_3 0 0 rfl rfl hx1 4 rfl ?_
  obtain ⟨o2, ho2, hf⟩ := bnd hf
  refine v_callSi X (As := [.int x1]) (rest := []) (ws' := ([(a_ga, .inl (c9 0, 463, .inl ga))])) (c_X12_ofTicket l hG D c9 x1 ho2) 1 (gS wm_55 wm_56 wm_37 wm_57) rfl rfl rfl pd_X12_ofTicket ⟨Nat.le_of_ble_eq_true rfl, Nat.le_of_ble_eq_true rfl⟩ rfl rfl (Nat.le_of_ble_eq_true rfl) ⟨Nat.zero_le _, Nat.zero_le _⟩ [] [0] [0] rfl rfl rfl rfl dX12_make_4 7 rfl ?_
  refine v_istore X (lv' := [(7, .int o2), (0, .ref a_ga), (1, .int v1), (2, .int v2), (3, .int v3), (4, .int v4), (5, .int v5), (6, .int v6)]) dX12_make_7 (by decide) rfl 9 rfl ?_
  refine v_aload_n X dX12_make_9 1 rfl rfl 10 rfl ?_
  refine v_iload X dX12_make_10 0 rfl 12 rfl ?_
  refine v_iconst X dX12_make_12 ic_0 13 rfl ?_
  refine v_iadd X dX12_make_13 14 rfl ?_
  refine v_aload_n X dX12_make_14 1 rfl rfl 15 rfl ?_
  refine v_bipush X dX12_make_15 bp_7 17 rfl ?_
  obtain ⟨x3, hx3, hf⟩ := bnd hf
  refine v_iald X dX12_make_17 0 0 rfl rfl hx3 18 rfl ?_
  obtain ⟨g4, hg4, hf⟩ := bnd hf
  refine v_iast X (ws' := ([(a_ga, .inl (c9 0, 463, .inl g4))])) dX12_make_18 0 0 rfl rfl hg4 rfl 19 rfl ?_
  refine v_aload_n X dX12_make_19 1 rfl rfl 20 rfl ?_
  refine v_iload X dX12_make_20 0 rfl 22 rfl ?_
  refine v_iconst X dX12_make_22 ic_1 23 rfl ?_
  refine v_iadd X dX12_make_23 24 rfl ?_
  refine v_iload_n X dX12_make_24 4 rfl rfl 25 rfl ?_
  refine v_iconst X dX12_make_25 ic_m1 26 rfl ?_
  obtain ⟨j5, hj5, hf⟩ := bnd hf
  have Jj5 : vW p l e { frames := 1, cells := 0, slots := 0, locals := 21 } s m args below meth c 8 D A [] 0 0 (MQ below (eI D (tyA c9) A o.1 (([(a_ga, .inl (c9 0, 463, .inl o.2))]) ++ [])) args s 0 0 A) ([(a_ga, .inl (c9 0, 463, .inl g4))]) 34 [(0, .ref a_ga), (1, .int v1), (2, .int v2), (3, .int v3), (4, .int v4), (5, .int v5), (6, .int v6), (7, .int o2)] [.int j5, .int (o2 + 1), .ref a_ga] := by
    obtain ⟨g6, hg6, hf⟩ := bnd hf
    refine v_iast X (ws' := ([(a_ga, .inl (c9 0, 463, .inl g6))])) dX12_make_34 0 0 rfl rfl hg6 rfl 35 rfl ?_
    refine v_aload_n X dX12_make_35 0 rfl rfl 36 rfl ?_
    refine v_iload X dX12_make_36 7 rfl 38 rfl ?_
    refine v_iconst X dX12_make_38 ic_2 39 rfl ?_
    refine v_iadd X dX12_make_39 40 rfl ?_
    refine v_iload_n X dX12_make_40 1 rfl rfl 41 rfl ?_
    obtain ⟨g7, hg7, hf⟩ := bnd hf
    refine v_iast X (ws' := ([(a_ga, .inl (c9 0, 463, .inl g7))])) dX12_make_41 0 0 rfl rfl hg7 rfl 42 rfl ?_
    refine v_aload_n X dX12_make_42 0 rfl rfl 43 rfl ?_
    refine v_iload X dX12_make_43 7 rfl 45 rfl ?_
    refine v_iconst X dX12_make_45 ic_3 46 rfl ?_
    refine v_iadd X dX12_make_46 47 rfl ?_
    refine v_iload_n X dX12_make_47 2 rfl rfl 48 rfl ?_
    obtain ⟨g8, hg8, hf⟩ := bnd hf
    refine v_iast X (ws' := ([(a_ga, .inl (c9 0, 463, .inl g8))])) dX12_make_48 0 0 rfl rfl hg8 rfl 49 rfl ?_
    refine v_aload_n X dX12_make_49 0 rfl rfl 50 rfl ?_
    refine v_iload X dX12_make_50 7 rfl 52 rfl ?_
    refine v_iconst X dX12_make_52 ic_4 53 rfl ?_
    refine v_iadd X dX12_make_53 54 rfl ?_
    refine v_iload_n X dX12_make_54 3 rfl rfl 55 rfl ?_
    obtain ⟨g9, hg9, hf⟩ := bnd hf
    refine v_iast X (ws' := ([(a_ga, .inl (c9 0, 463, .inl g9))])) dX12_make_55 0 0 rfl rfl hg9 rfl 56 rfl ?_
    refine v_aload_n X dX12_make_56 0 rfl rfl 57 rfl ?_
    refine v_iload X dX12_make_57 7 rfl 59 rfl ?_
    refine v_iconst X dX12_make_59 ic_5 60 rfl ?_
    refine v_iadd X dX12_make_60 61 rfl ?_
    refine v_aload_n X dX12_make_61 0 rfl rfl 62 rfl ?_
    refine v_iconst X dX12_make_62 ic_0 63 rfl ?_
    obtain ⟨x10, hx10, hf⟩ := bnd hf
    refine v_iald X dX12_make_63 0 0 rfl rfl hx10 64 rfl ?_
    obtain ⟨g11, hg11, hf⟩ := bnd hf
    refine v_iast X (ws' := ([(a_ga, .inl (c9 0, 463, .inl g11))])) dX12_make_64 0 0 rfl rfl hg11 rfl 65 rfl ?_
    refine v_aload_n X dX12_make_65 0 rfl rfl 66 rfl ?_
    refine v_iload X dX12_make_66 7 rfl 68 rfl ?_
    refine v_bipush X dX12_make_68 bp_6 70 rfl ?_
    refine v_iadd X dX12_make_70 71 rfl ?_
    refine v_iload X dX12_make_71 4 rfl 73 rfl ?_
    obtain ⟨g12, hg12, hf⟩ := bnd hf
    refine v_iast X (ws' := ([(a_ga, .inl (c9 0, 463, .inl g12))])) dX12_make_73 0 0 rfl rfl hg12 rfl 74 rfl ?_
    refine v_aload_n X dX12_make_74 0 rfl rfl 75 rfl ?_
    refine v_iload X dX12_make_75 7 rfl 77 rfl ?_
    refine v_bipush X dX12_make_77 bp_7 79 rfl ?_
    refine v_iadd X dX12_make_79 80 rfl ?_
    refine v_iload X dX12_make_80 6 rfl 82 rfl ?_
    refine v_iconst X dX12_make_82 ic_1 83 rfl ?_
    obtain ⟨j13, hj13, hf⟩ := bnd hf
    have Jj13 : vW p l e { frames := 1, cells := 0, slots := 0, locals := 21 } s m args below meth c 8 D A [] 0 0 (MQ below (eI D (tyA c9) A o.1 (([(a_ga, .inl (c9 0, 463, .inl o.2))]) ++ [])) args s 0 0 A) ([(a_ga, .inl (c9 0, 463, .inl g12))]) 98 [(0, .ref a_ga), (6, .int v6), (7, .int o2)] [.int j13, .int (o2 + 7), .ref a_ga] := by
      obtain ⟨g15, hg15, hf⟩ := bnd hf
      refine v_iast X (ws' := ([(a_ga, .inl (c9 0, 463, .inl g15))])) dX12_make_98 0 0 rfl rfl hg15 rfl 99 rfl ?_
      refine v_aload_n X dX12_make_99 0 rfl rfl 100 rfl ?_
      refine v_iload X dX12_make_100 2 rfl 102 rfl ?_
      refine v_bipush X dX12_make_102 bp_8 104 rfl ?_
      refine v_iadd X dX12_make_104 105 rfl ?_
      refine v_aload_n X dX12_make_105 0 rfl rfl 106 rfl ?_
      obtain ⟨o16, ho16, hf⟩ := bnd hf
      refine v_callSi X (As := [.ref a_ga]) (rest := [.int (o2 + 8), .ref a_ga]) (ws' := ([(a_ga, .inl (c9 0, 463, .inl o16.2))])) (c_X12_drawKey l hG D c9 a_ga g15 ho16) 1 (gS wm_64 wm_65 wm_37 wm_66) rfl rfl rfl pd_X12_drawKey ⟨Nat.le_of_ble_eq_true rfl, Nat.le_of_ble_eq_true rfl⟩ rfl rfl (Nat.le_of_ble_eq_true rfl) ⟨Nat.zero_le _, Nat.zero_le _⟩ [0] [] [0] rfl rfl rfl rfl dX12_make_106 109 rfl ?_
      obtain ⟨g17, hg17, hf⟩ := bnd hf
      refine v_iast X (ws' := ([(a_ga, .inl (c9 0, 463, .inl g17))])) dX12_make_109 0 0 rfl rfl hg17 rfl 110 rfl ?_
      refine v_aload_n X dX12_make_110 0 rfl rfl 111 rfl ?_
      refine v_iload X dX12_make_111 2 rfl 113 rfl ?_
      refine v_bipush X dX12_make_113 bp_9 115 rfl ?_
      refine v_iadd X dX12_make_115 116 rfl ?_
      refine v_iload X dX12_make_116 1 rfl 118 rfl ?_
      obtain ⟨g18, hg18, hf⟩ := bnd hf
      refine v_iast X (ws' := ([(a_ga, .inl (c9 0, 463, .inl g18))])) dX12_make_118 0 0 rfl rfl hg18 rfl 119 rfl ?_
      refine v_aload_n X dX12_make_119 0 rfl rfl 120 rfl ?_
      refine v_bipush X dX12_make_120 bp_6 122 rfl ?_
      refine v_dup2 X dX12_make_122 rfl rfl 123 rfl ?_
      obtain ⟨x19, hx19, hf⟩ := bnd hf
      refine v_iald X dX12_make_123 0 0 rfl rfl hx19 124 rfl ?_
      refine v_iconst X dX12_make_124 ic_1 125 rfl ?_
      refine v_iadd X dX12_make_125 126 rfl ?_
      obtain ⟨g20, hg20, hf⟩ := bnd hf
      refine v_iast X (ws' := ([(a_ga, .inl (c9 0, 463, .inl g20))])) dX12_make_126 0 0 rfl rfl hg20 rfl 127 rfl ?_
      refine v_aload_n X dX12_make_127 0 rfl rfl 128 rfl ?_
      refine v_bipush X dX12_make_128 bp_7 130 rfl ?_
      refine v_dup2 X dX12_make_130 rfl rfl 131 rfl ?_
      obtain ⟨x21, hx21, hf⟩ := bnd hf
      refine v_iald X dX12_make_131 0 0 rfl rfl hx21 132 rfl ?_
      refine v_iconst X dX12_make_132 ic_1 133 rfl ?_
      refine v_iadd X dX12_make_133 134 rfl ?_
      obtain ⟨g22, hg22, hf⟩ := bnd hf
      refine v_iast X (ws' := ([(a_ga, .inl (c9 0, 463, .inl g22))])) dX12_make_134 0 0 rfl rfl hg22 rfl 135 rfl ?_
      refine v_aload_n X dX12_make_135 0 rfl rfl 136 rfl ?_
      refine v_bipush X dX12_make_136 bp_7 138 rfl ?_
      obtain ⟨x23, hx23, hf⟩ := bnd hf
      refine v_iald X dX12_make_138 0 0 rfl rfl hx23 139 rfl ?_
      refine v_iconst X dX12_make_139 ic_1 140 rfl ?_
      refine v_isub X dX12_make_140 141 rfl ?_
      obtain rfl := Option.some.inj hf
      exact v_iret X (Nat.zero_le _) (Nat.zero_le _) dX12_make_141
    clear hf
    refine v_icmp_ne X (tgt := 96) dX12_make_83 rfl 86 rfl hj13 (fun hf => ?_) (fun hf => ?_)
    · refine v_iload X dX12_make_96 4 rfl 98 rfl ?_
      obtain rfl := Option.some.inj hf
      refine v_sub (lv' := [(0, .ref a_ga), (6, .int v6), (7, .int o2)]) [0, 6, 7] rfl ?_
      exact Jj13
    · refine v_iload X dX12_make_86 5 rfl 88 rfl ?_
      refine v_iload X dX12_make_88 4 rfl 90 rfl ?_
      obtain ⟨o14, ho14, hf⟩ := bnd hf
      refine v_callSi X (As := [.int v5, .int v4]) (rest := [.int (o2 + 7), .ref a_ga]) (ws' := ([(a_ga, .inl (c9 0, 463, .inl g12))])) (c_X12_greater l hG D c9 v5 v4 ho14) 2 (gS wm_61 wm_62 wm_37 wm_63) rfl rfl rfl pd_X12_greater ⟨Nat.le_of_ble_eq_true rfl, Nat.le_of_ble_eq_true rfl⟩ rfl rfl (Nat.le_of_ble_eq_true rfl) ⟨Nat.zero_le _, Nat.zero_le _⟩ [] [0] [0] rfl rfl rfl rfl dX12_make_90 93 rfl ?_
      refine v_goto X (tgt := 98) dX12_make_93 rfl ?_
      obtain rfl := Option.some.inj hf
      refine v_sub (lv' := [(0, .ref a_ga), (6, .int v6), (7, .int o2)]) [0, 6, 7] rfl ?_
      exact Jj13
  clear hf
  refine v_icmp_ne X (tgt := 33) dX12_make_26 rfl 29 rfl hj5 (fun hf => ?_) (fun hf => ?_)
  · refine v_iconst X dX12_make_33 ic_1 34 rfl ?_
    obtain rfl := Option.some.inj hf
    refine v_sub (lv' := [(0, .ref a_ga), (1, .int v1), (2, .int v2), (3, .int v3), (4, .int v4), (5, .int v5), (6, .int v6), (7, .int o2)]) [1, 2, 3, 4, 5, 6, 7, 0] rfl ?_
    exact Jj5
  · refine v_iconst X dX12_make_29 ic_0 30 rfl ?_
    refine v_goto X (tgt := 34) dX12_make_30 rfl ?_
    obtain rfl := Option.some.inj hf
    refine v_sub (lv' := [(0, .ref a_ga), (1, .int v1), (2, .int v2), (3, .int v3), (4, .int v4), (5, .int v5), (6, .int v6), (7, .int o2)]) [1, 2, 3, 4, 5, 6, 7, 0] rfl ?_
    exact Jj5
theorem pd_X12_make : yX12_make.cls ≠ "java/lang/invoke/MethodHandle" ∧ yX12_make.cls ≠ "java/lang/invoke/VarHandle" ∧ (parseMethodDescriptor yX12_make.desc).map (fun d => d.parameters.length) = some 7 := by decide +kernel
def f_X12_whyNotLogin (ga : Nat → Int32) (v1 : Int32) (v2 : Int32) : Option (Int32) :=
  (f_X12_ofUser v1).bind fun o1 =>
  (rd ga 463 (o1 + 2)).bind fun x2 =>
  if x2 = v2 then (
    (f_X12_ofUser v1).bind fun o3 =>
    (rd ga 463 (o3 + 1)).bind fun x4 =>
    (f_X12_isSkewed ga v1 x4).bind fun o5 =>
    if o5 = 0 then (
      (rd ga 463 6).bind fun x6 =>
      if x6 = 24 then (
        some (3))
      else (
        some (0)))
    else (
      some (2)))
  else (
    some (1))
set_option maxRecDepth 100000 in
set_option maxHeartbeats 4000000 in
theorem c_X12_whyNotLogin (l : Launch) {G : (Nat → Prop) → State → Heap → Prop} (hG : vG G) (D : va_G) (c9 : Nat → ClassId) (a_ga : Nat) (ga : Nat → Int32) (v1 : Int32) (v2 : Int32) {o : Int32} (hf : f_X12_whyNotLogin ga v1 v2 = some o) : mI l yX12_whyNotLogin (wq yX12_whyNotLogin cX12_whyNotLogin 3 (some .int)) { frames := 3, cells := 0, slots := 0, locals := 65 } G D (tyA c9) [.ref a_ga, .int v1, .int v2] ([(a_ga, .inl (c9 0, 463, .inl ga))]) [] 0 0 o ([(a_ga, .inl (c9 0, 463, .inl ga))]) := by
  refine mI_of hG (cc := cX12_whyNotLogin) (maxL := 3) (ty := .int) (by decide) rfl (Nat.le_of_ble_eq_true rfl) ?_
  intro p e s m args below meth c A X
  have X : vX p s m args meth c cX12_whyNotLogin 3 (some .int) RX12 (wq yX12_whyNotLogin cX12_whyNotLogin 3 (some .int)) D (tyA c9) G A := X
  refine v_eq (lv2 := [(0, .ref a_ga), (1, .int v1), (2, .int v2)]) rfl rfl rfl rfl ?_
  rw [f_X12_whyNotLogin] at hf
  refine v_aload_n X dX12_whyNotLogin_0 0 rfl rfl 1 rfl ?_
  refine v_iload_n X dX12_whyNotLogin_1 1 rfl rfl 2 rfl ?_
  obtain ⟨o1, ho1, hf⟩ := bnd hf
  refine v_callSi X (As := [.int v1]) (rest := [.ref a_ga]) (ws' := ([(a_ga, .inl (c9 0, 463, .inl ga))])) (c_X12_ofUser l hG D c9 v1 ho1) 1 (gS wm_46 wm_47 wm_37 wm_48) rfl rfl rfl pd_X12_ofUser ⟨Nat.le_of_ble_eq_true rfl, Nat.le_of_ble_eq_true rfl⟩ rfl rfl (Nat.le_of_ble_eq_true rfl) ⟨Nat.zero_le _, Nat.zero_le _⟩ [] [0] [0] rfl rfl rfl rfl dX12_whyNotLogin_2 5 rfl ?_
  refine v_iconst X dX12_whyNotLogin_5 ic_2 6 rfl ?_
  refine v_iadd X dX12_whyNotLogin_6 7 rfl ?_
  obtain ⟨x2, hx2, hf⟩ := bnd hf
  refine v_iald X dX12_whyNotLogin_7 0 0 rfl rfl hx2 8 rfl ?_
  refine v_iload_n X dX12_whyNotLogin_8 2 rfl rfl 9 rfl ?_
  refine v_icmp_eq X (tgt := 14) dX12_whyNotLogin_9 rfl 12 rfl hf (fun hf => ?_) (fun hf => ?_)
  · refine v_aload_n X dX12_whyNotLogin_14 0 rfl rfl 15 rfl ?_
    refine v_iload_n X dX12_whyNotLogin_15 1 rfl rfl 16 rfl ?_
    refine v_aload_n X dX12_whyNotLogin_16 0 rfl rfl 17 rfl ?_
    refine v_iload_n X dX12_whyNotLogin_17 1 rfl rfl 18 rfl ?_
    obtain ⟨o3, ho3, hf⟩ := bnd hf
    refine v_callSi X (As := [.int v1]) (rest := [.ref a_ga, .int v1, .ref a_ga]) (ws' := ([(a_ga, .inl (c9 0, 463, .inl ga))])) (c_X12_ofUser l hG D c9 v1 ho3) 1 (gS wm_46 wm_47 wm_37 wm_48) rfl rfl rfl pd_X12_ofUser ⟨Nat.le_of_ble_eq_true rfl, Nat.le_of_ble_eq_true rfl⟩ rfl rfl (Nat.le_of_ble_eq_true rfl) ⟨Nat.zero_le _, Nat.zero_le _⟩ [] [0] [0] rfl rfl rfl rfl dX12_whyNotLogin_18 21 rfl ?_
    refine v_iconst X dX12_whyNotLogin_21 ic_1 22 rfl ?_
    refine v_iadd X dX12_whyNotLogin_22 23 rfl ?_
    obtain ⟨x4, hx4, hf⟩ := bnd hf
    refine v_iald X dX12_whyNotLogin_23 0 0 rfl rfl hx4 24 rfl ?_
    obtain ⟨o5, ho5, hf⟩ := bnd hf
    refine v_callSi X (As := [.ref a_ga, .int v1, .int x4]) (rest := []) (ws' := ([(a_ga, .inl (c9 0, 463, .inl ga))])) (c_X12_isSkewed l hG D c9 a_ga ga v1 x4 ho5) 3 (gS wm_67 wm_68 wm_37 wm_69) rfl rfl rfl pd_X12_isSkewed ⟨Nat.le_of_ble_eq_true rfl, Nat.le_of_ble_eq_true rfl⟩ rfl rfl (Nat.le_of_ble_eq_true rfl) ⟨Nat.zero_le _, Nat.zero_le _⟩ [0] [] [0] rfl rfl rfl rfl dX12_whyNotLogin_24 27 rfl ?_
    refine v_if_eq X (tgt := 32) dX12_whyNotLogin_27 rfl 30 rfl hf (fun hf => ?_) (fun hf => ?_)
    · refine v_aload_n X dX12_whyNotLogin_32 0 rfl rfl 33 rfl ?_
      refine v_bipush X dX12_whyNotLogin_33 bp_6 35 rfl ?_
      obtain ⟨x6, hx6, hf⟩ := bnd hf
      refine v_iald X dX12_whyNotLogin_35 0 0 rfl rfl hx6 36 rfl ?_
      refine v_bipush X dX12_whyNotLogin_36 bp_24 38 rfl ?_
      refine v_icmp_ne X (tgt := 45) dX12_whyNotLogin_38 rfl 41 rfl hf (fun hf => ?_) (fun hf => ?_)
      · refine v_iconst X dX12_whyNotLogin_45 ic_0 46 rfl ?_
        obtain rfl := Option.some.inj hf
        exact v_iret X (Nat.zero_le _) (Nat.zero_le _) dX12_whyNotLogin_46
      · refine v_iconst X dX12_whyNotLogin_41 ic_3 42 rfl ?_
        refine v_goto X (tgt := 46) dX12_whyNotLogin_42 rfl ?_
        obtain rfl := Option.some.inj hf
        exact v_iret X (Nat.zero_le _) (Nat.zero_le _) dX12_whyNotLogin_46
    · refine v_iconst X dX12_whyNotLogin_30 ic_2 31 rfl ?_
      obtain rfl := Option.some.inj hf
      exact v_iret X (Nat.zero_le _) (Nat.zero_le _) dX12_whyNotLogin_31
  · refine v_iconst X dX12_whyNotLogin_12 ic_1 13 rfl ?_
    obtain rfl := Option.some.inj hf
    exact v_iret X (Nat.zero_le _) (Nat.zero_le _) dX12_whyNotLogin_13
theorem pd_X12_whyNotLogin : yX12_whyNotLogin.cls ≠ "java/lang/invoke/MethodHandle" ∧ yX12_whyNotLogin.cls ≠ "java/lang/invoke/VarHandle" ∧ (parseMethodDescriptor yX12_whyNotLogin.desc).map (fun d => d.parameters.length) = some 3 := by decide +kernel
def f_X12_whyNotGate (ga : Nat → Int32) (v1 : Int32) : Option (Int32) :=
  (f_X12_ofTicket v1).bind fun o1 =>
  (rd ga 463 (o1 + 1)).bind fun x2 =>
  if x2 = 0 then (
    (f_X12_lives ga v1).bind fun o3 =>
    if o3 = 0 then (
      some (2))
    else (
      some (0)))
  else (
    some (1))
set_option maxRecDepth 100000 in
set_option maxHeartbeats 4000000 in
theorem c_X12_whyNotGate (l : Launch) {G : (Nat → Prop) → State → Heap → Prop} (hG : vG G) (D : va_G) (c9 : Nat → ClassId) (a_ga : Nat) (ga : Nat → Int32) (v1 : Int32) {o : Int32} (hf : f_X12_whyNotGate ga v1 = some o) : mI l yX12_whyNotGate (wq yX12_whyNotGate cX12_whyNotGate 2 (some .int)) { frames := 2, cells := 0, slots := 0, locals := 41 } G D (tyA c9) [.ref a_ga, .int v1] ([(a_ga, .inl (c9 0, 463, .inl ga))]) [] 0 0 o ([(a_ga, .inl (c9 0, 463, .inl ga))]) := by
  refine mI_of hG (cc := cX12_whyNotGate) (maxL := 2) (ty := .int) (by decide) rfl (Nat.le_of_ble_eq_true rfl) ?_
  intro p e s m args below meth c A X
  have X : vX p s m args meth c cX12_whyNotGate 2 (some .int) RX12 (wq yX12_whyNotGate cX12_whyNotGate 2 (some .int)) D (tyA c9) G A := X
  refine v_eq (lv2 := [(0, .ref a_ga), (1, .int v1)]) rfl rfl rfl rfl ?_
  rw [f_X12_whyNotGate] at hf
  refine v_aload_n X dX12_whyNotGate_0 0 rfl rfl 1 rfl ?_
  refine v_iload_n X dX12_whyNotGate_1 1 rfl rfl 2 rfl ?_
  obtain ⟨o1, ho1, hf⟩ := bnd hf
  refine v_callSi X (As := [.int v1]) (rest := [.ref a_ga]) (ws' := ([(a_ga, .inl (c9 0, 463, .inl ga))])) (c_X12_ofTicket l hG D c9 v1 ho1) 1 (gS wm_55 wm_56 wm_37 wm_57) rfl rfl rfl pd_X12_ofTicket ⟨Nat.le_of_ble_eq_true rfl, Nat.le_of_ble_eq_true rfl⟩ rfl rfl (Nat.le_of_ble_eq_true rfl) ⟨Nat.zero_le _, Nat.zero_le _⟩ [] [0] [0] rfl rfl rfl rfl dX12_whyNotGate_2 5 rfl ?_
  refine v_iconst X dX12_whyNotGate_5 ic_1 6 rfl ?_
  refine v_iadd X dX12_whyNotGate_6 7 rfl ?_
  obtain ⟨x2, hx2, hf⟩ := bnd hf
  refine v_iald X dX12_whyNotGate_7 0 0 rfl rfl hx2 8 rfl ?_
  refine v_if_eq X (tgt := 13) dX12_whyNotGate_8 rfl 11 rfl hf (fun hf => ?_) (fun hf => ?_)
  · refine v_aload_n X dX12_whyNotGate_13 0 rfl rfl 14 rfl ?_
    refine v_iload_n X dX12_whyNotGate_14 1 rfl rfl 15 rfl ?_
    obtain ⟨o3, ho3, hf⟩ := bnd hf
    refine v_callSi X (As := [.ref a_ga, .int v1]) (rest := []) (ws' := ([(a_ga, .inl (c9 0, 463, .inl ga))])) (c_X12_lives l hG D c9 a_ga ga v1 ho3) 2 (gS wm_58 wm_59 wm_37 wm_60) rfl rfl rfl pd_X12_lives ⟨Nat.le_of_ble_eq_true rfl, Nat.le_of_ble_eq_true rfl⟩ rfl rfl (Nat.le_of_ble_eq_true rfl) ⟨Nat.zero_le _, Nat.zero_le _⟩ [0] [] [0] rfl rfl rfl rfl dX12_whyNotGate_15 18 rfl ?_
    refine v_if_eq X (tgt := 25) dX12_whyNotGate_18 rfl 21 rfl hf (fun hf => ?_) (fun hf => ?_)
    · refine v_iconst X dX12_whyNotGate_25 ic_2 26 rfl ?_
      obtain rfl := Option.some.inj hf
      exact v_iret X (Nat.zero_le _) (Nat.zero_le _) dX12_whyNotGate_26
    · refine v_iconst X dX12_whyNotGate_21 ic_0 22 rfl ?_
      refine v_goto X (tgt := 26) dX12_whyNotGate_22 rfl ?_
      obtain rfl := Option.some.inj hf
      exact v_iret X (Nat.zero_le _) (Nat.zero_le _) dX12_whyNotGate_26
  · refine v_iconst X dX12_whyNotGate_11 ic_1 12 rfl ?_
    obtain rfl := Option.some.inj hf
    exact v_iret X (Nat.zero_le _) (Nat.zero_le _) dX12_whyNotGate_12
theorem pd_X12_whyNotGate : yX12_whyNotGate.cls ≠ "java/lang/invoke/MethodHandle" ∧ yX12_whyNotGate.cls ≠ "java/lang/invoke/VarHandle" ∧ (parseMethodDescriptor yX12_whyNotGate.desc).map (fun d => d.parameters.length) = some 2 := by decide +kernel
def f_X12_whyNotNew (ga : Nat → Int32) (v1 : Int32) : Option (Int32) :=
  (f_X12_ofTicket v1).bind fun o1 =>
  (rd ga 463 (o1 + 2)).bind fun x2 =>
  (rd ga 463 (o1 + 3)).bind fun x3 =>
  (f_X12_isSkewed ga x2 x3).bind fun o4 =>
  if o4 = 0 then (
    (rd ga 463 6).bind fun x5 =>
    if x5 = 24 then (
      some (5))
    else (
      some (0)))
  else (
    some (4))
set_option maxRecDepth 100000 in
set_option maxHeartbeats 4000000 in
theorem c_X12_whyNotNew (l : Launch) {G : (Nat → Prop) → State → Heap → Prop} (hG : vG G) (D : va_G) (c9 : Nat → ClassId) (a_ga : Nat) (ga : Nat → Int32) (v1 : Int32) {o : Int32} (hf : f_X12_whyNotNew ga v1 = some o) : mI l yX12_whyNotNew (wq yX12_whyNotNew cX12_whyNotNew 3 (some .int)) { frames := 3, cells := 0, slots := 0, locals := 65 } G D (tyA c9) [.ref a_ga, .int v1] ([(a_ga, .inl (c9 0, 463, .inl ga))]) [] 0 0 o ([(a_ga, .inl (c9 0, 463, .inl ga))]) := by
  refine mI_of hG (cc := cX12_whyNotNew) (maxL := 3) (ty := .int) (by decide) rfl (Nat.le_of_ble_eq_true rfl) ?_
  intro p e s m args below meth c A X
  have X : vX p s m args meth c cX12_whyNotNew 3 (some .int) RX12 (wq yX12_whyNotNew cX12_whyNotNew 3 (some .int)) D (tyA c9) G A := X
  refine v_eq (lv2 := [(0, .ref a_ga), (1, .int v1)]) rfl rfl rfl rfl ?_
  rw [f_X12_whyNotNew] at hf
  refine v_iload_n X dX12_whyNotNew_0 1 rfl rfl 1 rfl ?_
  obtain ⟨o1, ho1, hf⟩ := bnd hf
  refine v_callSi X (As := [.int v1]) (rest := []) (ws' := ([(a_ga, .inl (c9 0, 463, .inl ga))])) (c_X12_ofTicket l hG D c9 v1 ho1) 1 (gS wm_55 wm_56 wm_37 wm_57) rfl rfl rfl pd_X12_ofTicket ⟨Nat.le_of_ble_eq_true rfl, Nat.le_of_ble_eq_true rfl⟩ rfl rfl (Nat.le_of_ble_eq_true rfl) ⟨Nat.zero_le _, Nat.zero_le _⟩ [] [0] [0] rfl rfl rfl rfl dX12_whyNotNew_1 4 rfl ?_
  refine v_istore_n X (lv' := [(2, .int o1), (0, .ref a_ga), (1, .int v1)]) dX12_whyNotNew_4 rfl (by decide) rfl 5 rfl ?_
  refine v_aload_n X dX12_whyNotNew_5 1 rfl rfl 6 rfl ?_
  refine v_aload_n X dX12_whyNotNew_6 1 rfl rfl 7 rfl ?_
  refine v_iload_n X dX12_whyNotNew_7 0 rfl rfl 8 rfl ?_
  refine v_iconst X dX12_whyNotNew_8 ic_2 9 rfl ?_
  refine v_iadd X dX12_whyNotNew_9 10 rfl ?_
  obtain ⟨x2, hx2, hf⟩ := bnd hf
  refine v_iald X dX12_whyNotNew_10 0 0 rfl rfl hx2 11 rfl ?_
  refine v_aload_n X dX12_whyNotNew_11 1 rfl rfl 12 rfl ?_
  refine v_iload_n X dX12_whyNotNew_12 0 rfl rfl 13 rfl ?_
  refine v_iconst X dX12_whyNotNew_13 ic_3 14 rfl ?_
  refine v_iadd X dX12_whyNotNew_14 15 rfl ?_
  obtain ⟨x3, hx3, hf⟩ := bnd hf
  refine v_iald X dX12_whyNotNew_15 0 0 rfl rfl hx3 16 rfl ?_
  obtain ⟨o4, ho4, hf⟩ := bnd hf
  refine v_callSi X (As := [.ref a_ga, .int x2, .int x3]) (rest := []) (ws' := ([(a_ga, .inl (c9 0, 463, .inl ga))])) (c_X12_isSkewed l hG D c9 a_ga ga x2 x3 ho4) 3 (gS wm_67 wm_68 wm_37 wm_69) rfl rfl rfl pd_X12_isSkewed ⟨Nat.le_of_ble_eq_true rfl, Nat.le_of_ble_eq_true rfl⟩ rfl rfl (Nat.le_of_ble_eq_true rfl) ⟨Nat.zero_le _, Nat.zero_le _⟩ [0] [] [0] rfl rfl rfl rfl dX12_whyNotNew_16 19 rfl ?_
  refine v_if_eq X (tgt := 24) dX12_whyNotNew_19 rfl 22 rfl hf (fun hf => ?_) (fun hf => ?_)
  · refine v_aload_n X dX12_whyNotNew_24 1 rfl rfl 25 rfl ?_
    refine v_bipush X dX12_whyNotNew_25 bp_6 27 rfl ?_
    obtain ⟨x5, hx5, hf⟩ := bnd hf
    refine v_iald X dX12_whyNotNew_27 0 0 rfl rfl hx5 28 rfl ?_
    refine v_bipush X dX12_whyNotNew_28 bp_24 30 rfl ?_
    refine v_icmp_ne X (tgt := 37) dX12_whyNotNew_30 rfl 33 rfl hf (fun hf => ?_) (fun hf => ?_)
    · refine v_iconst X dX12_whyNotNew_37 ic_0 38 rfl ?_
      obtain rfl := Option.some.inj hf
      exact v_iret X (Nat.zero_le _) (Nat.zero_le _) dX12_whyNotNew_38
    · refine v_iconst X dX12_whyNotNew_33 ic_5 34 rfl ?_
      refine v_goto X (tgt := 38) dX12_whyNotNew_34 rfl ?_
      obtain rfl := Option.some.inj hf
      exact v_iret X (Nat.zero_le _) (Nat.zero_le _) dX12_whyNotNew_38
  · refine v_iconst X dX12_whyNotNew_22 ic_4 23 rfl ?_
    obtain rfl := Option.some.inj hf
    exact v_iret X (Nat.zero_le _) (Nat.zero_le _) dX12_whyNotNew_23
theorem pd_X12_whyNotNew : yX12_whyNotNew.cls ≠ "java/lang/invoke/MethodHandle" ∧ yX12_whyNotNew.cls ≠ "java/lang/invoke/VarHandle" ∧ (parseMethodDescriptor yX12_whyNotNew.desc).map (fun d => d.parameters.length) = some 2 := by decide +kernel
def f_X12_whyNotRefer (ga : Nat → Int32) (v1 : Int32) (v2 : Int32) : Option (Int32) :=
  (f_X12_whyNotGate ga v1).bind fun o1 =>
  if o1 = 0 then (
    (f_X12_ofTicket v1).bind fun o2 =>
    (rd ga 463 (o2 + 3)).bind fun x3 =>
    (f_X12_trusted ga x3 v2).bind fun o4 =>
    if o4 = 0 then (
      some (3))
    else (
      (f_X12_whyNotNew ga v1).bind fun o5 =>
      some (o5)))
  else (
    some (o1))
set_option maxRecDepth 100000 in
set_option maxHeartbeats 4000000 in
theorem c_X12_whyNotRefer (l : Launch) {G : (Nat → Prop) → State → Heap → Prop} (hG : vG G) (D : va_G) (c9 : Nat → ClassId) (a_ga : Nat) (ga : Nat → Int32) (v1 : Int32) (v2 : Int32) {o : Int32} (hf : f_X12_whyNotRefer ga v1 v2 = some o) : mI l yX12_whyNotRefer (wq yX12_whyNotRefer cX12_whyNotRefer 4 (some .int)) { frames := 4, cells := 0, slots := 0, locals := 87 } G D (tyA c9) [.ref a_ga, .int v1, .int v2] ([(a_ga, .inl (c9 0, 463, .inl ga))]) [] 0 0 o ([(a_ga, .inl (c9 0, 463, .inl ga))]) := by
  refine mI_of hG (cc := cX12_whyNotRefer) (maxL := 4) (ty := .int) (by decide) rfl (Nat.le_of_ble_eq_true rfl) ?_
  intro p e s m args below meth c A X
  have X : vX p s m args meth c cX12_whyNotRefer 4 (some .int) RX12 (wq yX12_whyNotRefer cX12_whyNotRefer 4 (some .int)) D (tyA c9) G A := X
  refine v_eq (lv2 := [(0, .ref a_ga), (1, .int v1), (2, .int v2)]) rfl rfl rfl rfl ?_
  rw [f_X12_whyNotRefer] at hf
  refine v_aload_n X dX12_whyNotRefer_0 0 rfl rfl 1 rfl ?_
  refine v_iload_n X dX12_whyNotRefer_1 1 rfl rfl 2 rfl ?_
  obtain ⟨o1, ho1, hf⟩ := bnd hf
  refine v_callSi X (As := [.ref a_ga, .int v1]) (rest := []) (ws' := ([(a_ga, .inl (c9 0, 463, .inl ga))])) (c_X12_whyNotGate l hG D c9 a_ga ga v1 ho1) 2 (gS wm_70 wm_71 wm_37 wm_72) rfl rfl rfl pd_X12_whyNotGate ⟨Nat.le_of_ble_eq_true rfl, Nat.le_of_ble_eq_true rfl⟩ rfl rfl (Nat.le_of_ble_eq_true rfl) ⟨Nat.zero_le _, Nat.zero_le _⟩ [0] [] [0] rfl rfl rfl rfl dX12_whyNotRefer_2 5 rfl ?_
  refine v_istore_n X (lv' := [(3, .int o1), (0, .ref a_ga), (1, .int v1), (2, .int v2)]) dX12_whyNotRefer_5 rfl (by decide) rfl 6 rfl ?_
  refine v_iload_n X dX12_whyNotRefer_6 0 rfl rfl 7 rfl ?_
  refine v_if_eq X (tgt := 12) dX12_whyNotRefer_7 rfl 10 rfl hf (fun hf => ?_) (fun hf => ?_)
  · refine v_aload_n X dX12_whyNotRefer_12 1 rfl rfl 13 rfl ?_
    refine v_aload_n X dX12_whyNotRefer_13 1 rfl rfl 14 rfl ?_
    refine v_iload_n X dX12_whyNotRefer_14 2 rfl rfl 15 rfl ?_
    obtain ⟨o2, ho2, hf⟩ := bnd hf
    refine v_callSi X (As := [.int v1]) (rest := [.ref a_ga, .ref a_ga]) (ws' := ([(a_ga, .inl (c9 0, 463, .inl ga))])) (c_X12_ofTicket l hG D c9 v1 ho2) 1 (gS wm_55 wm_56 wm_37 wm_57) rfl rfl rfl pd_X12_ofTicket ⟨Nat.le_of_ble_eq_true rfl, Nat.le_of_ble_eq_true rfl⟩ rfl rfl (Nat.le_of_ble_eq_true rfl) ⟨Nat.zero_le _, Nat.zero_le _⟩ [] [0] [0] rfl rfl rfl rfl dX12_whyNotRefer_15 18 rfl ?_
    refine v_iconst X dX12_whyNotRefer_18 ic_3 19 rfl ?_
    refine v_iadd X dX12_whyNotRefer_19 20 rfl ?_
    obtain ⟨x3, hx3, hf⟩ := bnd hf
    refine v_iald X dX12_whyNotRefer_20 0 0 rfl rfl hx3 21 rfl ?_
    refine v_iload_n X dX12_whyNotRefer_21 3 rfl rfl 22 rfl ?_
    obtain ⟨o4, ho4, hf⟩ := bnd hf
    refine v_callSi X (As := [.ref a_ga, .int x3, .int v2]) (rest := []) (ws' := ([(a_ga, .inl (c9 0, 463, .inl ga))])) (c_X12_trusted l hG D c9 a_ga ga x3 v2 ho4) 3 (gS wm_35 wm_36 wm_37 wm_38) rfl rfl rfl pd_X12_trusted ⟨Nat.le_of_ble_eq_true rfl, Nat.le_of_ble_eq_true rfl⟩ rfl rfl (Nat.le_of_ble_eq_true rfl) ⟨Nat.zero_le _, Nat.zero_le _⟩ [0] [] [0] rfl rfl rfl rfl dX12_whyNotRefer_22 25 rfl ?_
    refine v_if_eq X (tgt := 36) dX12_whyNotRefer_25 rfl 28 rfl hf (fun hf => ?_) (fun hf => ?_)
    · refine v_iconst X dX12_whyNotRefer_36 ic_3 37 rfl ?_
      obtain rfl := Option.some.inj hf
      exact v_iret X (Nat.zero_le _) (Nat.zero_le _) dX12_whyNotRefer_37
    · refine v_aload_n X dX12_whyNotRefer_28 1 rfl rfl 29 rfl ?_
      refine v_iload_n X dX12_whyNotRefer_29 2 rfl rfl 30 rfl ?_
      obtain ⟨o5, ho5, hf⟩ := bnd hf
      refine v_callSi X (As := [.ref a_ga, .int v1]) (rest := []) (ws' := ([(a_ga, .inl (c9 0, 463, .inl ga))])) (c_X12_whyNotNew l hG D c9 a_ga ga v1 ho5) 2 (gS wm_73 wm_74 wm_37 wm_75) rfl rfl rfl pd_X12_whyNotNew ⟨Nat.le_of_ble_eq_true rfl, Nat.le_of_ble_eq_true rfl⟩ rfl rfl (Nat.le_of_ble_eq_true rfl) ⟨Nat.zero_le _, Nat.zero_le _⟩ [0] [] [0] rfl rfl rfl rfl dX12_whyNotRefer_30 33 rfl ?_
      refine v_goto X (tgt := 37) dX12_whyNotRefer_33 rfl ?_
      obtain rfl := Option.some.inj hf
      exact v_iret X (Nat.zero_le _) (Nat.zero_le _) dX12_whyNotRefer_37
  · refine v_iload_n X dX12_whyNotRefer_10 0 rfl rfl 11 rfl ?_
    obtain rfl := Option.some.inj hf
    exact v_iret X (Nat.zero_le _) (Nat.zero_le _) dX12_whyNotRefer_11
theorem pd_X12_whyNotRefer : yX12_whyNotRefer.cls ≠ "java/lang/invoke/MethodHandle" ∧ yX12_whyNotRefer.cls ≠ "java/lang/invoke/VarHandle" ∧ (parseMethodDescriptor yX12_whyNotRefer.desc).map (fun d => d.parameters.length) = some 3 := by decide +kernel
