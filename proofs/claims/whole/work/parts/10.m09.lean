def f_X12_validAfter (m_thrown : Int32) (m_s : Nat → Int32) (m_tried : Nat → Int32) (v1 : Int32) : Option (Int32 × Int32 × (Nat → Int32)) :=
  (f_X12_noNumber m_thrown v1 0 999).bind fun o1 =>
  if o1.1 = 0 then (
    (f_X12_copyRow 463 463 m_s m_tried 0 0).bind fun o2 =>
    (rd o2 463 0).bind fun x3 =>
    (wr o2 463 0 (x3 + v1)).bind fun g4 =>
    (f_X12_living g4).bind fun o5 =>
    some (o5, o1.2, g4))
  else (
    some (0, o1.2, m_tried))
set_option maxRecDepth 100000 in
set_option maxHeartbeats 4000000 in
theorem c_X12_validAfter (l : Launch) {G : (Nat → Prop) → State → Heap → Prop} (hG : vG G) (D : va_G) (c9 : Nat → ClassId) (ad : Nat → Nat) (m_undoable : Int32) (m_undoStart : Int32) (m_thrown : Int32) (m_inputLength : Int32) (m_position : Int32) (m_start : Int32) (m_token : Int32) (m_value : Int32) (m_letters : Int32) (m_code : Int32) (m_place : Int32) (m_outputLength : Int32) (m_s : Nat → Int32) (m_parsed : Nat → Int32) (m_tried : Nat → Int32) (m_remembered : Nat → Int32) (m_slots : Nat → Int32) (m_kept : Nat → Int32) (m_away : Nat → Int32) (m_input : Nat → Int32) (m_halfway : Nat → Int32) (m_output : Nat → Int32) (v1 : Int32) {o : Int32 × Int32 × (Nat → Int32)} (hf : f_X12_validAfter m_thrown m_s m_tried v1 = some o) : mI l yX12_validAfter (wq yX12_validAfter cX12_validAfter 2 (some .int)) { frames := 3, cells := 0, slots := 0, locals := 63 } G D (tyA c9) [.ref (ad 0), .int v1] (wX12 ad c9 m_undoable m_undoStart m_thrown m_inputLength m_position m_start m_token m_value m_letters m_code m_place m_outputLength m_s m_parsed m_tried m_remembered m_slots m_kept m_away m_input m_halfway m_output) [] 0 0 o.1 (wX12 ad c9 m_undoable m_undoStart o.2.1 m_inputLength m_position m_start m_token m_value m_letters m_code m_place m_outputLength m_s m_parsed o.2.2 m_remembered m_slots m_kept m_away m_input m_halfway m_output) := by
  refine mI_of hG (cc := cX12_validAfter) (maxL := 2) (ty := .int) (by decide) rfl (Nat.le_of_ble_eq_true rfl) ?_
  intro p e s m args below meth c A X
  have X : vX p s m args meth c cX12_validAfter 2 (some .int) RX12 (wq yX12_validAfter cX12_validAfter 2 (some .int)) D (tyA c9) G A := X
  refine v_eq (lv2 := [(0, .ref (ad 0)), (1, .int v1)]) rfl rfl rfl rfl ?_
  rw [f_X12_validAfter] at hf
  refine v_aload_n X dX12_validAfter_0 0 rfl rfl 1 rfl ?_
  refine v_iload_n X dX12_validAfter_1 1 rfl rfl 2 rfl ?_
  refine v_iconst X dX12_validAfter_2 ic_0 3 rfl ?_
  refine v_sipush X dX12_validAfter_3 sp_999 6 rfl ?_
  obtain ⟨o1, ho1, hf⟩ := bnd hf
  refine v_callVi X (ci := 11) (T := TX12) (C := RX12) (As := [.int v1, .int 0, .int 999]) (rest := []) (ws' := (wX12 ad c9 m_undoable m_undoStart o1.2 m_inputLength m_position m_start m_token m_value m_letters m_code m_place m_outputLength m_s m_parsed m_tried m_remembered m_slots m_kept m_away m_input m_halfway m_output)) (c_X12_noNumber l hG D c9 ad m_undoable m_undoStart m_thrown m_inputLength m_position m_start m_token m_value m_letters m_code m_place m_outputLength m_s m_parsed m_tried m_remembered m_slots m_kept m_away m_input m_halfway m_output v1 0 999 ho1) 3 (gV wm_114 wm_115 wm_116 wm_37 wm_117) rfl rfl rfl ⟨rfl, pd_X12_noNumber⟩ ⟨Nat.le_of_ble_eq_true rfl, Nat.le_of_ble_eq_true rfl⟩ 0 rfl rfl rfl rfl (Nat.le_of_ble_eq_true rfl) ⟨Nat.zero_le _, Nat.zero_le _⟩ [0, 1, 2, 3, 4, 5, 6, 7, 8, 9, 10] [] [0, 1, 2, 3, 4, 5, 6, 7, 8, 9, 10] rfl rfl rfl rfl dX12_validAfter_6 9 rfl ?_
  refine v_if_eq X (tgt := 14) dX12_validAfter_9 rfl 12 rfl hf (fun hf => ?_) (fun hf => ?_)
  · refine v_aload_n X dX12_validAfter_14 0 rfl rfl 15 rfl ?_
    refine v_get X (C := RX12) (T := TX12) (N := 22) (ci := 11) (v := _) dX12_validAfter_15 (lay_of laym_X12) 0 rfl rfl 0 (by decide) (mw wm_304) rfl rfl 18 rfl ?_
    refine v_iconst X dX12_validAfter_18 ic_0 19 rfl ?_
    refine v_aload_n X dX12_validAfter_19 0 rfl rfl 20 rfl ?_
    refine v_get X (C := RX12) (T := TX12) (N := 22) (ci := 11) (v := _) dX12_validAfter_20 (lay_of laym_X12) 0 rfl rfl 2 (by decide) (mw wm_349) rfl rfl 23 rfl ?_
    refine v_iconst X dX12_validAfter_23 ic_0 24 rfl ?_
    obtain ⟨o2, ho2, hf⟩ := bnd hf
    refine v_callSv X (As := [.ref (ad 1), .int 0, .ref (ad 3), .int 0]) (rest := []) (ws' := (wX12 ad c9 m_undoable m_undoStart o1.2 m_inputLength m_position m_start m_token m_value m_letters m_code m_place m_outputLength m_s m_parsed o2 m_remembered m_slots m_kept m_away m_input m_halfway m_output)) (c_X12_copyRow l hG D c9 (ad 1) (ad 3) 463 463 m_s m_tried 0 0 ho2) 4 (gS wm_306 wm_307 wm_37 wm_308) rfl rfl rfl pd_X12_copyRow ⟨Nat.le_of_ble_eq_true rfl, Nat.le_of_ble_eq_true rfl⟩ rfl rfl (Nat.le_of_ble_eq_true rfl) ⟨Nat.zero_le _, Nat.zero_le _⟩ [1, 3] [0, 2, 4, 5, 6, 7, 8, 9, 10] [0, 9, 1, 10, 2, 3, 4, 5, 6, 7, 8] rfl rfl rfl rfl dX12_validAfter_24 27 rfl ?_
    refine v_aload_n X dX12_validAfter_27 0 rfl rfl 28 rfl ?_
    refine v_get X (C := RX12) (T := TX12) (N := 22) (ci := 11) (v := _) dX12_validAfter_28 (lay_of laym_X12) 0 rfl rfl 2 (by decide) (mw wm_349) rfl rfl 31 rfl ?_
    refine v_iconst X dX12_validAfter_31 ic_0 32 rfl ?_
    refine v_dup2 X dX12_validAfter_32 rfl rfl 33 rfl ?_
    obtain ⟨x3, hx3, hf⟩ := bnd hf
    refine v_iald X dX12_validAfter_33 3 0 rfl rfl hx3 34 rfl ?_
    refine v_iload_n X dX12_validAfter_34 1 rfl rfl 35 rfl ?_
    refine v_iadd X dX12_validAfter_35 36 rfl ?_
    obtain ⟨g4, hg4, hf⟩ := bnd hf
    refine v_iast X (ws' := (wX12 ad c9 m_undoable m_undoStart o1.2 m_inputLength m_position m_start m_token m_value m_letters m_code m_place m_outputLength m_s m_parsed g4 m_remembered m_slots m_kept m_away m_input m_halfway m_output)) dX12_validAfter_36 3 0 rfl rfl hg4 rfl 37 rfl ?_
    refine v_aload_n X dX12_validAfter_37 0 rfl rfl 38 rfl ?_
    refine v_get X (C := RX12) (T := TX12) (N := 22) (ci := 11) (v := _) dX12_validAfter_38 (lay_of laym_X12) 0 rfl rfl 2 (by decide) (mw wm_349) rfl rfl 41 rfl ?_
    obtain ⟨o5, ho5, hf⟩ := bnd hf
    refine v_callSi X (As := [.ref (ad 3)]) (rest := []) (ws' := (wX12 ad c9 m_undoable m_undoStart o1.2 m_inputLength m_position m_start m_token m_value m_letters m_code m_place m_outputLength m_s m_parsed g4 m_remembered m_slots m_kept m_away m_input m_halfway m_output)) (c_X12_living l hG D c9 (ad 3) g4 ho5) 1 (gS wm_97 wm_98 wm_37 wm_99) rfl rfl rfl pd_X12_living ⟨Nat.le_of_ble_eq_true rfl, Nat.le_of_ble_eq_true rfl⟩ rfl rfl (Nat.le_of_ble_eq_true rfl) ⟨Nat.zero_le _, Nat.zero_le _⟩ [3] [0, 1, 2, 4, 5, 6, 7, 8, 9, 10] [0, 1, 2, 10, 3, 4, 5, 6, 7, 8, 9] rfl rfl rfl rfl dX12_validAfter_41 44 rfl ?_
    obtain rfl := Option.some.inj hf
    exact v_iret X (Nat.zero_le _) (Nat.zero_le _) dX12_validAfter_44
  · refine v_iconst X dX12_validAfter_12 ic_0 13 rfl ?_
    obtain rfl := Option.some.inj hf
    exact v_iret X (Nat.zero_le _) (Nat.zero_le _) dX12_validAfter_13
theorem pd_X12_validAfter : yX12_validAfter.cls ≠ "java/lang/invoke/MethodHandle" ∧ yX12_validAfter.cls ≠ "java/lang/invoke/VarHandle" ∧ (parseMethodDescriptor yX12_validAfter.desc).map (fun d => d.parameters.length) = some 1 := by decide +kernel
def f_X12_minutesUntilCheese_L25 (m_thrown : Int32) (m_s : Nat → Int32) (v1 : Int32) : Nat → (Nat → Int32) → Int32 → Option (Int32 × Int32 × (Nat → Int32))
  | 0, _, _ => none
  | n + 1, m_tried, v2 =>
    if 20 < v2 then (
      some ((-1), m_thrown, m_tried))
    else (
      (f_X12_find m_tried v1).bind fun o3 =>
      (f_X12_whyNotCheese m_tried o3).bind fun o4 =>
      if o4 = 0 then (
        some (v2, m_thrown, m_tried))
      else (
        (rd m_tried 463 0).bind fun x5 =>
        (wr m_tried 463 0 (x5 + 1)).bind fun g6 =>
        (f_X12_forget g6).bind fun o7 =>
        f_X12_minutesUntilCheese_L25 m_thrown m_s v1 n o7 (v2 + 1)))
def f_X12_minutesUntilCheese (m_thrown : Int32) (m_s : Nat → Int32) (m_tried : Nat → Int32) (v1 : Int32) : Option (Int32 × Int32 × (Nat → Int32)) :=
  (f_X12_noTicket m_thrown m_s v1).bind fun o1 =>
  if o1.1 = 0 then (
    (f_X12_copyRow 463 463 m_s m_tried 0 0).bind fun o2 =>
    f_X12_minutesUntilCheese_L25 o1.2 m_s v1 5000 o2 0)
  else (
    some (0, o1.2, m_tried))
set_option maxRecDepth 100000 in
set_option maxHeartbeats 4000000 in
theorem l_X12_minutesUntilCheese_L25 (l : Launch) {G : (Nat → Prop) → State → Heap → Prop} (hG : vG G) (D : va_G) (c9 : Nat → ClassId) (ad : Nat → Nat) (m_undoable : Int32) (m_undoStart : Int32) (m_thrown : Int32) (m_inputLength : Int32) (m_position : Int32) (m_start : Int32) (m_token : Int32) (m_value : Int32) (m_letters : Int32) (m_code : Int32) (m_place : Int32) (m_outputLength : Int32) (m_s : Nat → Int32) (m_parsed : Nat → Int32) (m_remembered : Nat → Int32) (m_slots : Nat → Int32) (m_kept : Nat → Int32) (m_away : Nat → Int32) (m_input : Nat → Int32) (m_halfway : Nat → Int32) (m_output : Nat → Int32) (v1 : Int32) {p : Program} {e : Env} {s : State} {m : MethodId} {args : Array Value} {below : List Frame} {meth : Method} {c : Code} {A : Nat → Prop} {F : va_W} (X : vX p s m args meth c cX12_minutesUntilCheese 3 (some .int) RX12 (wq yX12_minutesUntilCheese cX12_minutesUntilCheese 3 (some .int)) D (tyA c9) G A) (o : Int32 × Int32 × (Nat → Int32)) :
    ∀ (n : Nat) (m_tried : Nat → Int32) (v2 : Int32), f_X12_minutesUntilCheese_L25 m_thrown m_s v1 n m_tried v2 = some o → vW p l e { frames := 4, cells := 0, slots := 0, locals := 87 } s m args below meth c 3 D A F 0 0 (MQ below (eI D (tyA c9) A o.1 ((wX12 ad c9 m_undoable m_undoStart o.2.1 m_inputLength m_position m_start m_token m_value m_letters m_code m_place m_outputLength m_s m_parsed o.2.2 m_remembered m_slots m_kept m_away m_input m_halfway m_output) ++ F)) args s 0 0 A) (wX12 ad c9 m_undoable m_undoStart m_thrown m_inputLength m_position m_start m_token m_value m_letters m_code m_place m_outputLength m_s m_parsed m_tried m_remembered m_slots m_kept m_away m_input m_halfway m_output) 25 [(0, .ref (ad 0)), (1, .int v1), (2, .int v2)] [] := by
  intro n
  induction n with
  | zero =>
    intro m_tried v2 hf
    rw [f_X12_minutesUntilCheese_L25] at hf
    cases hf
  | succ n ih =>
    intro m_tried v2 hf
    rw [f_X12_minutesUntilCheese_L25] at hf
    refine v_iload_n X dX12_minutesUntilCheese_25 2 rfl rfl 26 rfl ?_
    refine v_bipush X dX12_minutesUntilCheese_26 bp_20 28 rfl ?_
    refine v_icmp_gt X (tgt := 74) dX12_minutesUntilCheese_28 rfl 31 rfl hf (fun hf => ?_) (fun hf => ?_)
    · refine v_iconst X dX12_minutesUntilCheese_74 ic_m1 75 rfl ?_
      obtain rfl := Option.some.inj hf
      exact v_iret X (Nat.zero_le _) (Nat.zero_le _) dX12_minutesUntilCheese_75
    · refine v_aload_n X dX12_minutesUntilCheese_31 0 rfl rfl 32 rfl ?_
      refine v_get X (C := RX12) (T := TX12) (N := 22) (ci := 11) (v := _) dX12_minutesUntilCheese_32 (lay_of laym_X12) 0 rfl rfl 2 (by decide) (mw wm_349) rfl rfl 35 rfl ?_
      refine v_aload_n X dX12_minutesUntilCheese_35 0 rfl rfl 36 rfl ?_
      refine v_get X (C := RX12) (T := TX12) (N := 22) (ci := 11) (v := _) dX12_minutesUntilCheese_36 (lay_of laym_X12) 0 rfl rfl 2 (by decide) (mw wm_349) rfl rfl 39 rfl ?_
      refine v_iload_n X dX12_minutesUntilCheese_39 1 rfl rfl 40 rfl ?_
      obtain ⟨o3, ho3, hf⟩ := bnd hf
      refine v_callSi X (As := [.ref (ad 3), .int v1]) (rest := [.ref (ad 3)]) (ws' := (wX12 ad c9 m_undoable m_undoStart m_thrown m_inputLength m_position m_start m_token m_value m_letters m_code m_place m_outputLength m_s m_parsed m_tried m_remembered m_slots m_kept m_away m_input m_halfway m_output)) (c_X12_find l hG D c9 (ad 3) m_tried v1 ho3) 2 (gS wm_174 wm_175 wm_37 wm_176) rfl rfl rfl pd_X12_find ⟨Nat.le_of_ble_eq_true rfl, Nat.le_of_ble_eq_true rfl⟩ rfl rfl (Nat.le_of_ble_eq_true rfl) ⟨Nat.zero_le _, Nat.zero_le _⟩ [3] [0, 1, 2, 4, 5, 6, 7, 8, 9, 10] [0, 1, 2, 10, 3, 4, 5, 6, 7, 8, 9] rfl rfl rfl rfl dX12_minutesUntilCheese_40 43 rfl ?_
      obtain ⟨o4, ho4, hf⟩ := bnd hf
      refine v_callSi X (As := [.ref (ad 3), .int o3]) (rest := []) (ws' := (wX12 ad c9 m_undoable m_undoStart m_thrown m_inputLength m_position m_start m_token m_value m_letters m_code m_place m_outputLength m_s m_parsed m_tried m_remembered m_slots m_kept m_away m_input m_halfway m_output)) (c_X12_whyNotCheese l hG D c9 (ad 3) m_tried o3 ho4) 2 (gS wm_238 wm_239 wm_37 wm_240) rfl rfl rfl pd_X12_whyNotCheese ⟨Nat.le_of_ble_eq_true rfl, Nat.le_of_ble_eq_true rfl⟩ rfl rfl (Nat.le_of_ble_eq_true rfl) ⟨Nat.zero_le _, Nat.zero_le _⟩ [3] [0, 1, 2, 4, 5, 6, 7, 8, 9, 10] [0, 1, 2, 10, 3, 4, 5, 6, 7, 8, 9] rfl rfl rfl rfl dX12_minutesUntilCheese_43 46 rfl ?_
      refine v_if_ne X (tgt := 51) dX12_minutesUntilCheese_46 rfl 49 rfl hf (fun hf => ?_) (fun hf => ?_)
      · refine v_aload_n X dX12_minutesUntilCheese_51 0 rfl rfl 52 rfl ?_
        refine v_get X (C := RX12) (T := TX12) (N := 22) (ci := 11) (v := _) dX12_minutesUntilCheese_52 (lay_of laym_X12) 0 rfl rfl 2 (by decide) (mw wm_349) rfl rfl 55 rfl ?_
        refine v_iconst X dX12_minutesUntilCheese_55 ic_0 56 rfl ?_
        refine v_dup2 X dX12_minutesUntilCheese_56 rfl rfl 57 rfl ?_
        obtain ⟨x5, hx5, hf⟩ := bnd hf
        refine v_iald X dX12_minutesUntilCheese_57 3 0 rfl rfl hx5 58 rfl ?_
        refine v_iconst X dX12_minutesUntilCheese_58 ic_1 59 rfl ?_
        refine v_iadd X dX12_minutesUntilCheese_59 60 rfl ?_
        obtain ⟨g6, hg6, hf⟩ := bnd hf
        refine v_iast X (ws' := (wX12 ad c9 m_undoable m_undoStart m_thrown m_inputLength m_position m_start m_token m_value m_letters m_code m_place m_outputLength m_s m_parsed g6 m_remembered m_slots m_kept m_away m_input m_halfway m_output)) dX12_minutesUntilCheese_60 3 0 rfl rfl hg6 rfl 61 rfl ?_
        refine v_aload_n X dX12_minutesUntilCheese_61 0 rfl rfl 62 rfl ?_
        refine v_get X (C := RX12) (T := TX12) (N := 22) (ci := 11) (v := _) dX12_minutesUntilCheese_62 (lay_of laym_X12) 0 rfl rfl 2 (by decide) (mw wm_349) rfl rfl 65 rfl ?_
        obtain ⟨o7, ho7, hf⟩ := bnd hf
        refine v_callSv X (As := [.ref (ad 3)]) (rest := []) (ws' := (wX12 ad c9 m_undoable m_undoStart m_thrown m_inputLength m_position m_start m_token m_value m_letters m_code m_place m_outputLength m_s m_parsed o7 m_remembered m_slots m_kept m_away m_input m_halfway m_output)) (c_X12_forget l hG D c9 (ad 3) g6 ho7) 1 (gS wm_100 wm_101 wm_37 wm_102) rfl rfl rfl pd_X12_forget ⟨Nat.le_of_ble_eq_true rfl, Nat.le_of_ble_eq_true rfl⟩ rfl rfl (Nat.le_of_ble_eq_true rfl) ⟨Nat.zero_le _, Nat.zero_le _⟩ [3] [0, 1, 2, 4, 5, 6, 7, 8, 9, 10] [0, 1, 2, 10, 3, 4, 5, 6, 7, 8, 9] rfl rfl rfl rfl dX12_minutesUntilCheese_65 68 rfl ?_
        refine v_iinc X (lv' := [(2, .int (v2 + 1)), (0, .ref (ad 0)), (1, .int v1)]) dX12_minutesUntilCheese_68 2 rfl ic_1 (by decide) rfl 71 rfl ?_
        refine v_goto X (tgt := 25) dX12_minutesUntilCheese_71 rfl ?_
        refine v_sub (lv' := [(0, .ref (ad 0)), (1, .int v1), (2, .int (v2 + 1))]) [1, 2, 0] rfl ?_
        exact ih o7 (v2 + 1) hf
      · refine v_iload_n X dX12_minutesUntilCheese_49 2 rfl rfl 50 rfl ?_
        obtain rfl := Option.some.inj hf
        exact v_iret X (Nat.zero_le _) (Nat.zero_le _) dX12_minutesUntilCheese_50
set_option maxRecDepth 100000 in
set_option maxHeartbeats 4000000 in
theorem c_X12_minutesUntilCheese (l : Launch) {G : (Nat → Prop) → State → Heap → Prop} (hG : vG G) (D : va_G) (c9 : Nat → ClassId) (ad : Nat → Nat) (m_undoable : Int32) (m_undoStart : Int32) (m_thrown : Int32) (m_inputLength : Int32) (m_position : Int32) (m_start : Int32) (m_token : Int32) (m_value : Int32) (m_letters : Int32) (m_code : Int32) (m_place : Int32) (m_outputLength : Int32) (m_s : Nat → Int32) (m_parsed : Nat → Int32) (m_tried : Nat → Int32) (m_remembered : Nat → Int32) (m_slots : Nat → Int32) (m_kept : Nat → Int32) (m_away : Nat → Int32) (m_input : Nat → Int32) (m_halfway : Nat → Int32) (m_output : Nat → Int32) (v1 : Int32) {o : Int32 × Int32 × (Nat → Int32)} (hf : f_X12_minutesUntilCheese m_thrown m_s m_tried v1 = some o) : mI l yX12_minutesUntilCheese (wq yX12_minutesUntilCheese cX12_minutesUntilCheese 3 (some .int)) { frames := 4, cells := 0, slots := 0, locals := 87 } G D (tyA c9) [.ref (ad 0), .int v1] (wX12 ad c9 m_undoable m_undoStart m_thrown m_inputLength m_position m_start m_token m_value m_letters m_code m_place m_outputLength m_s m_parsed m_tried m_remembered m_slots m_kept m_away m_input m_halfway m_output) [] 0 0 o.1 (wX12 ad c9 m_undoable m_undoStart o.2.1 m_inputLength m_position m_start m_token m_value m_letters m_code m_place m_outputLength m_s m_parsed o.2.2 m_remembered m_slots m_kept m_away m_input m_halfway m_output) := by
  refine mI_of hG (cc := cX12_minutesUntilCheese) (maxL := 3) (ty := .int) (by decide) rfl (Nat.le_of_ble_eq_true rfl) ?_
  intro p e s m args below meth c A X
  have X : vX p s m args meth c cX12_minutesUntilCheese 3 (some .int) RX12 (wq yX12_minutesUntilCheese cX12_minutesUntilCheese 3 (some .int)) D (tyA c9) G A := X
  refine v_eq (lv2 := [(0, .ref (ad 0)), (1, .int v1)]) rfl rfl rfl rfl ?_
  rw [f_X12_minutesUntilCheese] at hf
  refine v_aload_n X dX12_minutesUntilCheese_0 0 rfl rfl 1 rfl ?_
  refine v_iload_n X dX12_minutesUntilCheese_1 1 rfl rfl 2 rfl ?_
  obtain ⟨o1, ho1, hf⟩ := bnd hf
  refine v_callVi X (ci := 11) (T := TX12) (C := RX12) (As := [.int v1]) (rest := []) (ws' := (wX12 ad c9 m_undoable m_undoStart o1.2 m_inputLength m_position m_start m_token m_value m_letters m_code m_place m_outputLength m_s m_parsed m_tried m_remembered m_slots m_kept m_away m_input m_halfway m_output)) (c_X12_noTicket l hG D c9 ad m_undoable m_undoStart m_thrown m_inputLength m_position m_start m_token m_value m_letters m_code m_place m_outputLength m_s m_parsed m_tried m_remembered m_slots m_kept m_away m_input m_halfway m_output v1 ho1) 1 (gV wm_337 wm_338 wm_339 wm_37 wm_340) rfl rfl rfl ⟨rfl, pd_X12_noTicket⟩ ⟨Nat.le_of_ble_eq_true rfl, Nat.le_of_ble_eq_true rfl⟩ 0 rfl rfl rfl rfl (Nat.le_of_ble_eq_true rfl) ⟨Nat.zero_le _, Nat.zero_le _⟩ [0, 1, 2, 3, 4, 5, 6, 7, 8, 9, 10] [] [0, 1, 2, 3, 4, 5, 6, 7, 8, 9, 10] rfl rfl rfl rfl dX12_minutesUntilCheese_2 5 rfl ?_
  refine v_if_eq X (tgt := 10) dX12_minutesUntilCheese_5 rfl 8 rfl hf (fun hf => ?_) (fun hf => ?_)
  · refine v_aload_n X dX12_minutesUntilCheese_10 0 rfl rfl 11 rfl ?_
    refine v_get X (C := RX12) (T := TX12) (N := 22) (ci := 11) (v := _) dX12_minutesUntilCheese_11 (lay_of laym_X12) 0 rfl rfl 0 (by decide) (mw wm_304) rfl rfl 14 rfl ?_
    refine v_iconst X dX12_minutesUntilCheese_14 ic_0 15 rfl ?_
    refine v_aload_n X dX12_minutesUntilCheese_15 0 rfl rfl 16 rfl ?_
    refine v_get X (C := RX12) (T := TX12) (N := 22) (ci := 11) (v := _) dX12_minutesUntilCheese_16 (lay_of laym_X12) 0 rfl rfl 2 (by decide) (mw wm_349) rfl rfl 19 rfl ?_
    refine v_iconst X dX12_minutesUntilCheese_19 ic_0 20 rfl ?_
    obtain ⟨o2, ho2, hf⟩ := bnd hf
    refine v_callSv X (As := [.ref (ad 1), .int 0, .ref (ad 3), .int 0]) (rest := []) (ws' := (wX12 ad c9 m_undoable m_undoStart o1.2 m_inputLength m_position m_start m_token m_value m_letters m_code m_place m_outputLength m_s m_parsed o2 m_remembered m_slots m_kept m_away m_input m_halfway m_output)) (c_X12_copyRow l hG D c9 (ad 1) (ad 3) 463 463 m_s m_tried 0 0 ho2) 4 (gS wm_306 wm_307 wm_37 wm_308) rfl rfl rfl pd_X12_copyRow ⟨Nat.le_of_ble_eq_true rfl, Nat.le_of_ble_eq_true rfl⟩ rfl rfl (Nat.le_of_ble_eq_true rfl) ⟨Nat.zero_le _, Nat.zero_le _⟩ [1, 3] [0, 2, 4, 5, 6, 7, 8, 9, 10] [0, 9, 1, 10, 2, 3, 4, 5, 6, 7, 8] rfl rfl rfl rfl dX12_minutesUntilCheese_20 23 rfl ?_
    refine v_iconst X dX12_minutesUntilCheese_23 ic_0 24 rfl ?_
    refine v_istore_n X (lv' := [(2, .int 0), (0, .ref (ad 0)), (1, .int v1)]) dX12_minutesUntilCheese_24 rfl (by decide) rfl 25 rfl ?_
    refine v_sub (lv' := [(0, .ref (ad 0)), (1, .int v1), (2, .int 0)]) [1, 2, 0] rfl ?_
    exact l_X12_minutesUntilCheese_L25 l hG D c9 ad m_undoable m_undoStart o1.2 m_inputLength m_position m_start m_token m_value m_letters m_code m_place m_outputLength m_s m_parsed m_remembered m_slots m_kept m_away m_input m_halfway m_output v1 X _ 5000 o2 0 hf
  · refine v_iconst X dX12_minutesUntilCheese_8 ic_0 9 rfl ?_
    obtain rfl := Option.some.inj hf
    exact v_iret X (Nat.zero_le _) (Nat.zero_le _) dX12_minutesUntilCheese_9
theorem pd_X12_minutesUntilCheese : yX12_minutesUntilCheese.cls ≠ "java/lang/invoke/MethodHandle" ∧ yX12_minutesUntilCheese.cls ≠ "java/lang/invoke/VarHandle" ∧ (parseMethodDescriptor yX12_minutesUntilCheese.desc).map (fun d => d.parameters.length) = some 1 := by decide +kernel
def f_X12_bestTicket_L23 (m_s : Nat → Int32) (v1 : Int32) (v2 : Int32) : Nat → Int32 → Int32 → Option (Int32)
  | 0, _, _ => none
  | n + 1, v3, v4 =>
    (rd m_s 463 6).bind fun x3 =>
    if x3 ≤ v4 then (
      some (v3))
    else (
      (f_X12_ofTicket v4).bind fun o4 =>
      (rd m_s 463 (o4 + 1)).bind fun x5 =>
      Option.bind (if x5 = 1 then (
        (rd m_s 463 (o4 + 2)).bind fun x7 =>
        if x7 = v1 then (
          (rd m_s 463 (o4 + 4)).bind fun x8 =>
          if x8 = v2 then (
            (f_X12_lives m_s v4).bind fun o9 =>
            if o9 = 0 then (
              some (0))
            else (
              some (1)))
          else (
            some (0)))
        else (
          some (0)))
      else (
        some (0)) : Option (Int32)) fun j6 =>
      if j6 = 0 then (
        f_X12_bestTicket_L23 m_s v1 v2 n  v3 (v4 + 1))
      else (
        if v3 = (-1) then (
          f_X12_bestTicket_L23 m_s v1 v2 n  v4 (v4 + 1))
        else (
          (rd m_s 463 (o4 + 6)).bind fun x10 =>
          (f_X12_ofTicket v3).bind fun o11 =>
          (rd m_s 463 (o11 + 6)).bind fun x12 =>
          if x10 ≤ x12 then (
            f_X12_bestTicket_L23 m_s v1 v2 n  v3 (v4 + 1))
          else (
            f_X12_bestTicket_L23 m_s v1 v2 n  v4 (v4 + 1)))))
def f_X12_bestTicket (m_thrown : Int32) (m_s : Nat → Int32) (v1 : Int32) (v2 : Int32) : Option (Int32 × Int32) :=
  (f_X12_noUser m_thrown m_s v1).bind fun o1 =>
  if o1.1 = 0 then (
    (f_X12_noService o1.2 m_s v2).bind fun o2 =>
    if o2.1 = 0 then (
      (f_X12_bestTicket_L23 m_s v1 v2 5000 (-1) 0).bind fun o13 =>
      if o13 = (-1) then (
        some ((-1), o2.2))
      else (
        (f_X12_ofTicket o13).bind fun o14 =>
        (rd m_s 463 (o14 + 0)).bind fun x15 =>
        some (x15, o2.2)))
    else (
      some (0, o2.2)))
  else (
    some (0, o1.2))
set_option maxRecDepth 100000 in
set_option maxHeartbeats 4000000 in
theorem l_X12_bestTicket_L23 (l : Launch) {G : (Nat → Prop) → State → Heap → Prop} (hG : vG G) (D : va_G) (c9 : Nat → ClassId) (ad : Nat → Nat) (m_undoable : Int32) (m_undoStart : Int32) (m_thrown : Int32) (m_inputLength : Int32) (m_position : Int32) (m_start : Int32) (m_token : Int32) (m_value : Int32) (m_letters : Int32) (m_code : Int32) (m_place : Int32) (m_outputLength : Int32) (m_s : Nat → Int32) (m_parsed : Nat → Int32) (m_tried : Nat → Int32) (m_remembered : Nat → Int32) (m_slots : Nat → Int32) (m_kept : Nat → Int32) (m_away : Nat → Int32) (m_input : Nat → Int32) (m_halfway : Nat → Int32) (m_output : Nat → Int32) (v1 : Int32) (v2 : Int32) {p : Program} {e : Env} {s : State} {m : MethodId} {args : Array Value} {below : List Frame} {meth : Method} {c : Code} {A : Nat → Prop} {F : va_W} (X : vX p s m args meth c cX12_bestTicket 7 (some .int) RX12 (wq yX12_bestTicket cX12_bestTicket 7 (some .int)) D (tyA c9) G A) {Q : State → Prop} (o : Int32) (K : vW p l e { frames := 3, cells := 0, slots := 0, locals := 66 } s m args below meth c 7 D A F 0 0 Q (wX12 ad c9 m_undoable m_undoStart m_thrown m_inputLength m_position m_start m_token m_value m_letters m_code m_place m_outputLength m_s m_parsed m_tried m_remembered m_slots m_kept m_away m_input m_halfway m_output) 148 [(0, .ref (ad 0)), (3, .int o)] []) :
    ∀ (n : Nat) (v3 : Int32) (v4 : Int32), f_X12_bestTicket_L23 m_s v1 v2 n v3 v4 = some o → vW p l e { frames := 3, cells := 0, slots := 0, locals := 66 } s m args below meth c 7 D A F 0 0 Q (wX12 ad c9 m_undoable m_undoStart m_thrown m_inputLength m_position m_start m_token m_value m_letters m_code m_place m_outputLength m_s m_parsed m_tried m_remembered m_slots m_kept m_away m_input m_halfway m_output) 23 [(0, .ref (ad 0)), (1, .int v1), (2, .int v2), (3, .int v3), (4, .int v4)] [] := by
  intro n
  induction n with
  | zero =>
    intro v3 v4 hf
    rw [f_X12_bestTicket_L23] at hf
    cases hf
  | succ n ih =>
    intro v3 v4 hf
    rw [f_X12_bestTicket_L23] at hf
    refine v_iload X dX12_bestTicket_23 4 rfl 25 rfl ?_
    refine v_aload_n X dX12_bestTicket_25 0 rfl rfl 26 rfl ?_
    refine v_get X (C := RX12) (T := TX12) (N := 22) (ci := 11) (v := _) dX12_bestTicket_26 (lay_of laym_X12) 0 rfl rfl 0 (by decide) (mw wm_304) rfl rfl 29 rfl ?_
    refine v_bipush X dX12_bestTicket_29 bp_6 31 rfl ?_
    obtain ⟨x3, hx3, hf⟩ := bnd hf
    refine v_iald X dX12_bestTicket_31 1 0 rfl rfl hx3 32 rfl ?_
    refine v_icmp_ge X (tgt := 148) dX12_bestTicket_32 rfl 35 rfl hf (fun hf => ?_) (fun hf => ?_)
    · obtain rfl := Option.some.inj hf
      refine v_sub (lv' := [(0, .ref (ad 0)), (3, .int v3)]) [0, 3] rfl ?_
      exact K
    · refine v_iload X dX12_bestTicket_35 4 rfl 37 rfl ?_
      obtain ⟨o4, ho4, hf⟩ := bnd hf
      refine v_callSi X (As := [.int v4]) (rest := []) (ws' := (wX12 ad c9 m_undoable m_undoStart m_thrown m_inputLength m_position m_start m_token m_value m_letters m_code m_place m_outputLength m_s m_parsed m_tried m_remembered m_slots m_kept m_away m_input m_halfway m_output)) (c_X12_ofTicket l hG D c9 v4 ho4) 1 (gS wm_55 wm_56 wm_37 wm_57) rfl rfl rfl pd_X12_ofTicket ⟨Nat.le_of_ble_eq_true rfl, Nat.le_of_ble_eq_true rfl⟩ rfl rfl (Nat.le_of_ble_eq_true rfl) ⟨Nat.zero_le _, Nat.zero_le _⟩ [] [0, 1, 2, 3, 4, 5, 6, 7, 8, 9, 10] [0, 1, 2, 3, 4, 5, 6, 7, 8, 9, 10] rfl rfl rfl rfl dX12_bestTicket_37 40 rfl ?_
      refine v_istore X (lv' := [(5, .int o4), (0, .ref (ad 0)), (1, .int v1), (2, .int v2), (3, .int v3), (4, .int v4)]) dX12_bestTicket_40 (by decide) rfl 42 rfl ?_
      refine v_aload_n X dX12_bestTicket_42 1 rfl rfl 43 rfl ?_
      refine v_get X (C := RX12) (T := TX12) (N := 22) (ci := 11) (v := _) dX12_bestTicket_43 (lay_of laym_X12) 0 rfl rfl 0 (by decide) (mw wm_304) rfl rfl 46 rfl ?_
      refine v_iload X dX12_bestTicket_46 0 rfl 48 rfl ?_
      refine v_iconst X dX12_bestTicket_48 ic_1 49 rfl ?_
      refine v_iadd X dX12_bestTicket_49 50 rfl ?_
      obtain ⟨x5, hx5, hf⟩ := bnd hf
      refine v_iald X dX12_bestTicket_50 1 0 rfl rfl hx5 51 rfl ?_
      refine v_iconst X dX12_bestTicket_51 ic_1 52 rfl ?_
      obtain ⟨j6, hj6, hf⟩ := bnd hf
      have Jj6 : vW p l e { frames := 3, cells := 0, slots := 0, locals := 66 } s m args below meth c 7 D A F 0 0 Q (wX12 ad c9 m_undoable m_undoStart m_thrown m_inputLength m_position m_start m_token m_value m_letters m_code m_place m_outputLength m_s m_parsed m_tried m_remembered m_slots m_kept m_away m_input m_halfway m_output) 98 [(0, .ref (ad 0)), (1, .int v1), (2, .int v2), (3, .int v3), (4, .int v4), (5, .int o4)] [.int j6] := by
        refine v_istore X (lv' := [(6, .int j6), (0, .ref (ad 0)), (1, .int v1), (2, .int v2), (3, .int v3), (4, .int v4), (5, .int o4)]) dX12_bestTicket_98 (by decide) rfl 100 rfl ?_
        refine v_iload X dX12_bestTicket_100 0 rfl 102 rfl ?_
        refine v_if_eq X (tgt := 140) dX12_bestTicket_102 rfl 105 rfl hf (fun hf => ?_) (fun hf => ?_)
        · refine v_iload_n X dX12_bestTicket_140 4 rfl rfl 141 rfl ?_
          refine v_istore_n X (lv' := [(3, .int v3), (6, .int j6), (0, .ref (ad 0)), (1, .int v1), (2, .int v2), (4, .int v4), (5, .int o4)]) dX12_bestTicket_141 rfl (by decide) rfl 142 rfl ?_
          refine v_iinc X (lv' := [(4, .int (v4 + 1)), (3, .int v3), (6, .int j6), (0, .ref (ad 0)), (1, .int v1), (2, .int v2), (5, .int o4)]) dX12_bestTicket_142 5 rfl ic_1 (by decide) rfl 145 rfl ?_
          refine v_goto X (tgt := 23) dX12_bestTicket_145 rfl ?_
          refine v_sub (lv' := [(0, .ref (ad 0)), (1, .int v1), (2, .int v2), (3, .int v3), (4, .int (v4 + 1))]) [3, 4, 5, 1, 0] rfl ?_
          exact ih v3 (v4 + 1) hf
        · refine v_iload_n X dX12_bestTicket_105 4 rfl rfl 106 rfl ?_
          refine v_iconst X dX12_bestTicket_106 ic_m1 107 rfl ?_
          refine v_icmp_eq X (tgt := 135) dX12_bestTicket_107 rfl 110 rfl hf (fun hf => ?_) (fun hf => ?_)
          · refine v_iload X dX12_bestTicket_135 5 rfl 137 rfl ?_
            refine v_goto X (tgt := 141) dX12_bestTicket_137 rfl ?_
            refine v_istore_n X (lv' := [(3, .int v4), (6, .int j6), (0, .ref (ad 0)), (1, .int v1), (2, .int v2), (4, .int v4), (5, .int o4)]) dX12_bestTicket_141 rfl (by decide) rfl 142 rfl ?_
            refine v_iinc X (lv' := [(4, .int (v4 + 1)), (3, .int v4), (6, .int j6), (0, .ref (ad 0)), (1, .int v1), (2, .int v2), (5, .int o4)]) dX12_bestTicket_142 5 rfl ic_1 (by decide) rfl 145 rfl ?_
            refine v_goto X (tgt := 23) dX12_bestTicket_145 rfl ?_
            refine v_sub (lv' := [(0, .ref (ad 0)), (1, .int v1), (2, .int v2), (3, .int v4), (4, .int (v4 + 1))]) [3, 4, 5, 1, 0] rfl ?_
            exact ih v4 (v4 + 1) hf
          · refine v_aload_n X dX12_bestTicket_110 1 rfl rfl 111 rfl ?_
            refine v_get X (C := RX12) (T := TX12) (N := 22) (ci := 11) (v := _) dX12_bestTicket_111 (lay_of laym_X12) 0 rfl rfl 0 (by decide) (mw wm_304) rfl rfl 114 rfl ?_
            refine v_iload X dX12_bestTicket_114 6 rfl 116 rfl ?_
            refine v_bipush X dX12_bestTicket_116 bp_6 118 rfl ?_
            refine v_iadd X dX12_bestTicket_118 119 rfl ?_
            obtain ⟨x10, hx10, hf⟩ := bnd hf
            refine v_iald X dX12_bestTicket_119 1 0 rfl rfl hx10 120 rfl ?_
            refine v_aload_n X dX12_bestTicket_120 1 rfl rfl 121 rfl ?_
            refine v_get X (C := RX12) (T := TX12) (N := 22) (ci := 11) (v := _) dX12_bestTicket_121 (lay_of laym_X12) 0 rfl rfl 0 (by decide) (mw wm_304) rfl rfl 124 rfl ?_
            refine v_iload_n X dX12_bestTicket_124 4 rfl rfl 125 rfl ?_
            obtain ⟨o11, ho11, hf⟩ := bnd hf
            refine v_callSi X (As := [.int v3]) (rest := [.ref (ad 1), .int x10]) (ws' := (wX12 ad c9 m_undoable m_undoStart m_thrown m_inputLength m_position m_start m_token m_value m_letters m_code m_place m_outputLength m_s m_parsed m_tried m_remembered m_slots m_kept m_away m_input m_halfway m_output)) (c_X12_ofTicket l hG D c9 v3 ho11) 1 (gS wm_55 wm_56 wm_37 wm_57) rfl rfl rfl pd_X12_ofTicket ⟨Nat.le_of_ble_eq_true rfl, Nat.le_of_ble_eq_true rfl⟩ rfl rfl (Nat.le_of_ble_eq_true rfl) ⟨Nat.zero_le _, Nat.zero_le _⟩ [] [0, 1, 2, 3, 4, 5, 6, 7, 8, 9, 10] [0, 1, 2, 3, 4, 5, 6, 7, 8, 9, 10] rfl rfl rfl rfl dX12_bestTicket_125 128 rfl ?_
            refine v_bipush X dX12_bestTicket_128 bp_6 130 rfl ?_
            refine v_iadd X dX12_bestTicket_130 131 rfl ?_
            obtain ⟨x12, hx12, hf⟩ := bnd hf
            refine v_iald X dX12_bestTicket_131 1 0 rfl rfl hx12 132 rfl ?_
            refine v_icmp_le X (tgt := 140) dX12_bestTicket_132 rfl 135 rfl hf (fun hf => ?_) (fun hf => ?_)
            · refine v_iload_n X dX12_bestTicket_140 4 rfl rfl 141 rfl ?_
              refine v_istore_n X (lv' := [(3, .int v3), (6, .int j6), (0, .ref (ad 0)), (1, .int v1), (2, .int v2), (4, .int v4), (5, .int o4)]) dX12_bestTicket_141 rfl (by decide) rfl 142 rfl ?_
              refine v_iinc X (lv' := [(4, .int (v4 + 1)), (3, .int v3), (6, .int j6), (0, .ref (ad 0)), (1, .int v1), (2, .int v2), (5, .int o4)]) dX12_bestTicket_142 5 rfl ic_1 (by decide) rfl 145 rfl ?_
              refine v_goto X (tgt := 23) dX12_bestTicket_145 rfl ?_
              refine v_sub (lv' := [(0, .ref (ad 0)), (1, .int v1), (2, .int v2), (3, .int v3), (4, .int (v4 + 1))]) [3, 4, 5, 1, 0] rfl ?_
              exact ih v3 (v4 + 1) hf
            · refine v_iload X dX12_bestTicket_135 5 rfl 137 rfl ?_
              refine v_goto X (tgt := 141) dX12_bestTicket_137 rfl ?_
              refine v_istore_n X (lv' := [(3, .int v4), (6, .int j6), (0, .ref (ad 0)), (1, .int v1), (2, .int v2), (4, .int v4), (5, .int o4)]) dX12_bestTicket_141 rfl (by decide) rfl 142 rfl ?_
              refine v_iinc X (lv' := [(4, .int (v4 + 1)), (3, .int v4), (6, .int j6), (0, .ref (ad 0)), (1, .int v1), (2, .int v2), (5, .int o4)]) dX12_bestTicket_142 5 rfl ic_1 (by decide) rfl 145 rfl ?_
              refine v_goto X (tgt := 23) dX12_bestTicket_145 rfl ?_
              refine v_sub (lv' := [(0, .ref (ad 0)), (1, .int v1), (2, .int v2), (3, .int v4), (4, .int (v4 + 1))]) [3, 4, 5, 1, 0] rfl ?_
              exact ih v4 (v4 + 1) hf
      clear hf
      refine v_icmp_ne X (tgt := 97) dX12_bestTicket_52 rfl 55 rfl hj6 (fun hf => ?_) (fun hf => ?_)
      · refine v_iconst X dX12_bestTicket_97 ic_0 98 rfl ?_
        obtain rfl := Option.some.inj hf
        refine v_sub (lv' := [(0, .ref (ad 0)), (1, .int v1), (2, .int v2), (3, .int v3), (4, .int v4), (5, .int o4)]) [1, 2, 3, 4, 5, 0] rfl ?_
        exact Jj6
      · refine v_aload_n X dX12_bestTicket_55 1 rfl rfl 56 rfl ?_
        refine v_get X (C := RX12) (T := TX12) (N := 22) (ci := 11) (v := _) dX12_bestTicket_56 (lay_of laym_X12) 0 rfl rfl 0 (by decide) (mw wm_304) rfl rfl 59 rfl ?_
        refine v_iload X dX12_bestTicket_59 0 rfl 61 rfl ?_
        refine v_iconst X dX12_bestTicket_61 ic_2 62 rfl ?_
        refine v_iadd X dX12_bestTicket_62 63 rfl ?_
        obtain ⟨x7, hx7, hf⟩ := bnd hf
        refine v_iald X dX12_bestTicket_63 1 0 rfl rfl hx7 64 rfl ?_
        refine v_iload_n X dX12_bestTicket_64 2 rfl rfl 65 rfl ?_
        refine v_icmp_ne X (tgt := 97) dX12_bestTicket_65 rfl 68 rfl hf (fun hf => ?_) (fun hf => ?_)
        · refine v_iconst X dX12_bestTicket_97 ic_0 98 rfl ?_
          obtain rfl := Option.some.inj hf
          refine v_sub (lv' := [(0, .ref (ad 0)), (1, .int v1), (2, .int v2), (3, .int v3), (4, .int v4), (5, .int o4)]) [1, 2, 3, 4, 5, 0] rfl ?_
          exact Jj6
        · refine v_aload_n X dX12_bestTicket_68 1 rfl rfl 69 rfl ?_
          refine v_get X (C := RX12) (T := TX12) (N := 22) (ci := 11) (v := _) dX12_bestTicket_69 (lay_of laym_X12) 0 rfl rfl 0 (by decide) (mw wm_304) rfl rfl 72 rfl ?_
          refine v_iload X dX12_bestTicket_72 0 rfl 74 rfl ?_
          refine v_iconst X dX12_bestTicket_74 ic_4 75 rfl ?_
          refine v_iadd X dX12_bestTicket_75 76 rfl ?_
          obtain ⟨x8, hx8, hf⟩ := bnd hf
          refine v_iald X dX12_bestTicket_76 1 0 rfl rfl hx8 77 rfl ?_
          refine v_iload_n X dX12_bestTicket_77 3 rfl rfl 78 rfl ?_
          refine v_icmp_ne X (tgt := 97) dX12_bestTicket_78 rfl 81 rfl hf (fun hf => ?_) (fun hf => ?_)
          · refine v_iconst X dX12_bestTicket_97 ic_0 98 rfl ?_
            obtain rfl := Option.some.inj hf
            refine v_sub (lv' := [(0, .ref (ad 0)), (1, .int v1), (2, .int v2), (3, .int v3), (4, .int v4), (5, .int o4)]) [1, 2, 3, 4, 5, 0] rfl ?_
            exact Jj6
          · refine v_aload_n X dX12_bestTicket_81 1 rfl rfl 82 rfl ?_
            refine v_get X (C := RX12) (T := TX12) (N := 22) (ci := 11) (v := _) dX12_bestTicket_82 (lay_of laym_X12) 0 rfl rfl 0 (by decide) (mw wm_304) rfl rfl 85 rfl ?_
            refine v_iload X dX12_bestTicket_85 5 rfl 87 rfl ?_
            obtain ⟨o9, ho9, hf⟩ := bnd hf
            refine v_callSi X (As := [.ref (ad 1), .int v4]) (rest := []) (ws' := (wX12 ad c9 m_undoable m_undoStart m_thrown m_inputLength m_position m_start m_token m_value m_letters m_code m_place m_outputLength m_s m_parsed m_tried m_remembered m_slots m_kept m_away m_input m_halfway m_output)) (c_X12_lives l hG D c9 (ad 1) m_s v4 ho9) 2 (gS wm_58 wm_59 wm_37 wm_60) rfl rfl rfl pd_X12_lives ⟨Nat.le_of_ble_eq_true rfl, Nat.le_of_ble_eq_true rfl⟩ rfl rfl (Nat.le_of_ble_eq_true rfl) ⟨Nat.zero_le _, Nat.zero_le _⟩ [1] [0, 2, 3, 4, 5, 6, 7, 8, 9, 10] [0, 10, 1, 2, 3, 4, 5, 6, 7, 8, 9] rfl rfl rfl rfl dX12_bestTicket_87 90 rfl ?_
            refine v_if_eq X (tgt := 97) dX12_bestTicket_90 rfl 93 rfl hf (fun hf => ?_) (fun hf => ?_)
            · refine v_iconst X dX12_bestTicket_97 ic_0 98 rfl ?_
              obtain rfl := Option.some.inj hf
              refine v_sub (lv' := [(0, .ref (ad 0)), (1, .int v1), (2, .int v2), (3, .int v3), (4, .int v4), (5, .int o4)]) [1, 2, 3, 4, 5, 0] rfl ?_
              exact Jj6
            · refine v_iconst X dX12_bestTicket_93 ic_1 94 rfl ?_
              refine v_goto X (tgt := 98) dX12_bestTicket_94 rfl ?_
              obtain rfl := Option.some.inj hf
              refine v_sub (lv' := [(0, .ref (ad 0)), (1, .int v1), (2, .int v2), (3, .int v3), (4, .int v4), (5, .int o4)]) [1, 2, 3, 4, 5, 0] rfl ?_
              exact Jj6
set_option maxRecDepth 100000 in
set_option maxHeartbeats 4000000 in
theorem c_X12_bestTicket (l : Launch) {G : (Nat → Prop) → State → Heap → Prop} (hG : vG G) (D : va_G) (c9 : Nat → ClassId) (ad : Nat → Nat) (m_undoable : Int32) (m_undoStart : Int32) (m_thrown : Int32) (m_inputLength : Int32) (m_position : Int32) (m_start : Int32) (m_token : Int32) (m_value : Int32) (m_letters : Int32) (m_code : Int32) (m_place : Int32) (m_outputLength : Int32) (m_s : Nat → Int32) (m_parsed : Nat → Int32) (m_tried : Nat → Int32) (m_remembered : Nat → Int32) (m_slots : Nat → Int32) (m_kept : Nat → Int32) (m_away : Nat → Int32) (m_input : Nat → Int32) (m_halfway : Nat → Int32) (m_output : Nat → Int32) (v1 : Int32) (v2 : Int32) {o : Int32 × Int32} (hf : f_X12_bestTicket m_thrown m_s v1 v2 = some o) : mI l yX12_bestTicket (wq yX12_bestTicket cX12_bestTicket 7 (some .int)) { frames := 3, cells := 0, slots := 0, locals := 66 } G D (tyA c9) [.ref (ad 0), .int v1, .int v2] (wX12 ad c9 m_undoable m_undoStart m_thrown m_inputLength m_position m_start m_token m_value m_letters m_code m_place m_outputLength m_s m_parsed m_tried m_remembered m_slots m_kept m_away m_input m_halfway m_output) [] 0 0 o.1 (wX12 ad c9 m_undoable m_undoStart o.2 m_inputLength m_position m_start m_token m_value m_letters m_code m_place m_outputLength m_s m_parsed m_tried m_remembered m_slots m_kept m_away m_input m_halfway m_output) := by
  refine mI_of hG (cc := cX12_bestTicket) (maxL := 7) (ty := .int) (by decide) rfl (Nat.le_of_ble_eq_true rfl) ?_
  intro p e s m args below meth c A X
  have X : vX p s m args meth c cX12_bestTicket 7 (some .int) RX12 (wq yX12_bestTicket cX12_bestTicket 7 (some .int)) D (tyA c9) G A := X
  refine v_eq (lv2 := [(0, .ref (ad 0)), (1, .int v1), (2, .int v2)]) rfl rfl rfl rfl ?_
  rw [f_X12_bestTicket] at hf
  refine v_aload_n X dX12_bestTicket_0 0 rfl rfl 1 rfl ?_
  refine v_iload_n X dX12_bestTicket_1 1 rfl rfl 2 rfl ?_
  obtain ⟨o1, ho1, hf⟩ := bnd hf
  refine v_callVi X (ci := 11) (T := TX12) (C := RX12) (As := [.int v1]) (rest := []) (ws' := (wX12 ad c9 m_undoable m_undoStart o1.2 m_inputLength m_position m_start m_token m_value m_letters m_code m_place m_outputLength m_s m_parsed m_tried m_remembered m_slots m_kept m_away m_input m_halfway m_output)) (c_X12_noUser l hG D c9 ad m_undoable m_undoStart m_thrown m_inputLength m_position m_start m_token m_value m_letters m_code m_place m_outputLength m_s m_parsed m_tried m_remembered m_slots m_kept m_away m_input m_halfway m_output v1 ho1) 1 (gV wm_329 wm_330 wm_331 wm_37 wm_332) rfl rfl rfl ⟨rfl, pd_X12_noUser⟩ ⟨Nat.le_of_ble_eq_true rfl, Nat.le_of_ble_eq_true rfl⟩ 0 rfl rfl rfl rfl (Nat.le_of_ble_eq_true rfl) ⟨Nat.zero_le _, Nat.zero_le _⟩ [0, 1, 2, 3, 4, 5, 6, 7, 8, 9, 10] [] [0, 1, 2, 3, 4, 5, 6, 7, 8, 9, 10] rfl rfl rfl rfl dX12_bestTicket_2 5 rfl ?_
  refine v_if_ne X (tgt := 16) dX12_bestTicket_5 rfl 8 rfl hf (fun hf => ?_) (fun hf => ?_)
  · refine v_iconst X dX12_bestTicket_16 ic_0 17 rfl ?_
    obtain rfl := Option.some.inj hf
    exact v_iret X (Nat.zero_le _) (Nat.zero_le _) dX12_bestTicket_17
  · refine v_aload_n X dX12_bestTicket_8 0 rfl rfl 9 rfl ?_
    refine v_iload_n X dX12_bestTicket_9 2 rfl rfl 10 rfl ?_
    obtain ⟨o2, ho2, hf⟩ := bnd hf
    refine v_callVi X (ci := 11) (T := TX12) (C := RX12) (As := [.int v2]) (rest := []) (ws' := (wX12 ad c9 m_undoable m_undoStart o2.2 m_inputLength m_position m_start m_token m_value m_letters m_code m_place m_outputLength m_s m_parsed m_tried m_remembered m_slots m_kept m_away m_input m_halfway m_output)) (c_X12_noService l hG D c9 ad m_undoable m_undoStart o1.2 m_inputLength m_position m_start m_token m_value m_letters m_code m_place m_outputLength m_s m_parsed m_tried m_remembered m_slots m_kept m_away m_input m_halfway m_output v2 ho2) 1 (gV wm_333 wm_334 wm_335 wm_37 wm_336) rfl rfl rfl ⟨rfl, pd_X12_noService⟩ ⟨Nat.le_of_ble_eq_true rfl, Nat.le_of_ble_eq_true rfl⟩ 0 rfl rfl rfl rfl (Nat.le_of_ble_eq_true rfl) ⟨Nat.zero_le _, Nat.zero_le _⟩ [0, 1, 2, 3, 4, 5, 6, 7, 8, 9, 10] [] [0, 1, 2, 3, 4, 5, 6, 7, 8, 9, 10] rfl rfl rfl rfl dX12_bestTicket_10 13 rfl ?_
    refine v_if_eq X (tgt := 18) dX12_bestTicket_13 rfl 16 rfl hf (fun hf => ?_) (fun hf => ?_)
    · refine v_iconst X dX12_bestTicket_18 ic_m1 19 rfl ?_
      refine v_istore_n X (lv' := [(3, .int (-1)), (0, .ref (ad 0)), (1, .int v1), (2, .int v2)]) dX12_bestTicket_19 rfl (by decide) rfl 20 rfl ?_
      refine v_iconst X dX12_bestTicket_20 ic_0 21 rfl ?_
      refine v_istore X (lv' := [(4, .int 0), (3, .int (-1)), (0, .ref (ad 0)), (1, .int v1), (2, .int v2)]) dX12_bestTicket_21 (by decide) rfl 23 rfl ?_
      obtain ⟨o13, ho13, hf⟩ := bnd hf
      refine v_sub (lv' := [(0, .ref (ad 0)), (1, .int v1), (2, .int v2), (3, .int (-1)), (4, .int 0)]) [2, 3, 4, 1, 0] rfl ?_
      refine l_X12_bestTicket_L23 l hG D c9 ad m_undoable m_undoStart o2.2 m_inputLength m_position m_start m_token m_value m_letters m_code m_place m_outputLength m_s m_parsed m_tried m_remembered m_slots m_kept m_away m_input m_halfway m_output v1 v2 X o13 ?_ 5000 (-1) 0 ho13
      refine v_iload_n X dX12_bestTicket_148 1 rfl rfl 149 rfl ?_
      refine v_iconst X dX12_bestTicket_149 ic_m1 150 rfl ?_
      refine v_icmp_ne X (tgt := 157) dX12_bestTicket_150 rfl 153 rfl hf (fun hf => ?_) (fun hf => ?_)
      · refine v_aload_n X dX12_bestTicket_157 0 rfl rfl 158 rfl ?_
        refine v_get X (C := RX12) (T := TX12) (N := 22) (ci := 11) (v := _) dX12_bestTicket_158 (lay_of laym_X12) 0 rfl rfl 0 (by decide) (mw wm_304) rfl rfl 161 rfl ?_
        refine v_iload_n X dX12_bestTicket_161 1 rfl rfl 162 rfl ?_
        obtain ⟨o14, ho14, hf⟩ := bnd hf
        refine v_callSi X (As := [.int o13]) (rest := [.ref (ad 1)]) (ws' := (wX12 ad c9 m_undoable m_undoStart o2.2 m_inputLength m_position m_start m_token m_value m_letters m_code m_place m_outputLength m_s m_parsed m_tried m_remembered m_slots m_kept m_away m_input m_halfway m_output)) (c_X12_ofTicket l hG D c9 o13 ho14) 1 (gS wm_55 wm_56 wm_37 wm_57) rfl rfl rfl pd_X12_ofTicket ⟨Nat.le_of_ble_eq_true rfl, Nat.le_of_ble_eq_true rfl⟩ rfl rfl (Nat.le_of_ble_eq_true rfl) ⟨Nat.zero_le _, Nat.zero_le _⟩ [] [0, 1, 2, 3, 4, 5, 6, 7, 8, 9, 10] [0, 1, 2, 3, 4, 5, 6, 7, 8, 9, 10] rfl rfl rfl rfl dX12_bestTicket_162 165 rfl ?_
        refine v_iconst X dX12_bestTicket_165 ic_0 166 rfl ?_
        refine v_iadd X dX12_bestTicket_166 167 rfl ?_
        obtain ⟨x15, hx15, hf⟩ := bnd hf
        refine v_iald X dX12_bestTicket_167 1 0 rfl rfl hx15 168 rfl ?_
        obtain rfl := Option.some.inj hf
        exact v_iret X (Nat.zero_le _) (Nat.zero_le _) dX12_bestTicket_168
      · refine v_iconst X dX12_bestTicket_153 ic_m1 154 rfl ?_
        refine v_goto X (tgt := 168) dX12_bestTicket_154 rfl ?_
        obtain rfl := Option.some.inj hf
        exact v_iret X (Nat.zero_le _) (Nat.zero_le _) dX12_bestTicket_168
    · refine v_iconst X dX12_bestTicket_16 ic_0 17 rfl ?_
      obtain rfl := Option.some.inj hf
      exact v_iret X (Nat.zero_le _) (Nat.zero_le _) dX12_bestTicket_17
theorem pd_X12_bestTicket : yX12_bestTicket.cls ≠ "java/lang/invoke/MethodHandle" ∧ yX12_bestTicket.cls ≠ "java/lang/invoke/VarHandle" ∧ (parseMethodDescriptor yX12_bestTicket.desc).map (fun d => d.parameters.length) = some 2 := by decide +kernel
def f_X12_useCount (m_thrown : Int32) (m_s : Nat → Int32) : Option (Int32 × Int32) :=
  (rd m_s 463 8).bind fun x1 =>
  some (x1, 0)
set_option maxRecDepth 100000 in
set_option maxHeartbeats 4000000 in
theorem c_X12_useCount (l : Launch) {G : (Nat → Prop) → State → Heap → Prop} (hG : vG G) (D : va_G) (c9 : Nat → ClassId) (ad : Nat → Nat) (m_undoable : Int32) (m_undoStart : Int32) (m_thrown : Int32) (m_inputLength : Int32) (m_position : Int32) (m_start : Int32) (m_token : Int32) (m_value : Int32) (m_letters : Int32) (m_code : Int32) (m_place : Int32) (m_outputLength : Int32) (m_s : Nat → Int32) (m_parsed : Nat → Int32) (m_tried : Nat → Int32) (m_remembered : Nat → Int32) (m_slots : Nat → Int32) (m_kept : Nat → Int32) (m_away : Nat → Int32) (m_input : Nat → Int32) (m_halfway : Nat → Int32) (m_output : Nat → Int32)  {o : Int32 × Int32} (hf : f_X12_useCount m_thrown m_s = some o) : mI l yX12_useCount (wq yX12_useCount cX12_useCount 1 (some .int)) { frames := 0, cells := 0, slots := 0, locals := 0 } G D (tyA c9) [.ref (ad 0)] (wX12 ad c9 m_undoable m_undoStart m_thrown m_inputLength m_position m_start m_token m_value m_letters m_code m_place m_outputLength m_s m_parsed m_tried m_remembered m_slots m_kept m_away m_input m_halfway m_output) [] 0 0 o.1 (wX12 ad c9 m_undoable m_undoStart o.2 m_inputLength m_position m_start m_token m_value m_letters m_code m_place m_outputLength m_s m_parsed m_tried m_remembered m_slots m_kept m_away m_input m_halfway m_output) := by
  refine mI_of hG (cc := cX12_useCount) (maxL := 1) (ty := .int) (by decide) rfl (Nat.le_of_ble_eq_true rfl) ?_
  intro p e s m args below meth c A X
  have X : vX p s m args meth c cX12_useCount 1 (some .int) RX12 (wq yX12_useCount cX12_useCount 1 (some .int)) D (tyA c9) G A := X
  refine v_eq (lv2 := [(0, .ref (ad 0))]) rfl rfl rfl rfl ?_
  rw [f_X12_useCount] at hf
  refine v_aload_n X dX12_useCount_0 0 rfl rfl 1 rfl ?_
  refine v_iconst X dX12_useCount_1 ic_0 2 rfl ?_
  refine v_put X (C := RX12) (T := TX12) (N := 22) (ci := 11) (ty := tyX12 8) (ws' := (wX12 ad c9 m_undoable m_undoStart 0 m_inputLength m_position m_start m_token m_value m_letters m_code m_place m_outputLength m_s m_parsed m_tried m_remembered m_slots m_kept m_away m_input m_halfway m_output)) dX12_useCount_2 (lay_of laym_X12) 0 rfl rfl 8 (by decide) tyX12 tyX12_ok nmX12 (mw wm_33) rfl rfl (tyX12_ok 8 (by decide)) rfl rfl (Nat.le_of_ble_eq_true rfl) rfl 5 rfl ?_
  refine v_aload_n X dX12_useCount_5 0 rfl rfl 6 rfl ?_
  refine v_get X (C := RX12) (T := TX12) (N := 22) (ci := 11) (v := _) dX12_useCount_6 (lay_of laym_X12) 0 rfl rfl 0 (by decide) (mw wm_304) rfl rfl 9 rfl ?_
  refine v_bipush X dX12_useCount_9 bp_8 11 rfl ?_
  obtain ⟨x1, hx1, hf⟩ := bnd hf
  refine v_iald X dX12_useCount_11 1 0 rfl rfl hx1 12 rfl ?_
  obtain rfl := Option.some.inj hf
  exact v_iret X (Nat.zero_le _) (Nat.zero_le _) dX12_useCount_12
theorem pd_X12_useCount : yX12_useCount.cls ≠ "java/lang/invoke/MethodHandle" ∧ yX12_useCount.cls ≠ "java/lang/invoke/VarHandle" ∧ (parseMethodDescriptor yX12_useCount.desc).map (fun d => d.parameters.length) = some 0 := by decide +kernel
def f_X12_cheeseDifference_L15 (m_s : Nat → Int32) : Nat → Int32 → Int32 → Option (Int32)
  | 0, _, _ => none
  | n + 1, v1, v2 =>
    (rd m_s 463 5).bind fun x2 =>
    if x2 ≤ v2 then (
      some (v1))
    else (
      (f_X12_ofService v2).bind fun o3 =>
      (rd m_s 463 (o3 + 2)).bind fun x4 =>
      f_X12_cheeseDifference_L15 m_s n  (v1 - x4) (v2 + 1))
def f_X12_cheeseDifference_L47 (m_s : Nat → Int32) : Nat → Int32 → Int32 → Option (Int32)
  | 0, _, _ => none
  | n + 1, v1, v2 =>
    (rd m_s 463 4).bind fun x6 =>
    if x6 ≤ v2 then (
      some (v1))
    else (
      (f_X12_ofUser v2).bind fun o7 =>
      (rd m_s 463 (o7 + 4)).bind fun x8 =>
      f_X12_cheeseDifference_L47 m_s n  (v1 - x8) (v2 + 1))
def f_X12_cheeseDifference (m_thrown : Int32) (m_s : Nat → Int32) : Option (Int32 × Int32) :=
  (rd m_s 463 9).bind fun x1 =>
  (f_X12_cheeseDifference_L15 m_s 5000 x1 0).bind fun o5 =>
  (f_X12_cheeseDifference_L47 m_s 5000 o5 0).bind fun o9 =>
  some (o9, 0)
set_option maxRecDepth 100000 in
set_option maxHeartbeats 4000000 in
theorem l_X12_cheeseDifference_L15 (l : Launch) {G : (Nat → Prop) → State → Heap → Prop} (hG : vG G) (D : va_G) (c9 : Nat → ClassId) (ad : Nat → Nat) (m_undoable : Int32) (m_undoStart : Int32) (m_thrown : Int32) (m_inputLength : Int32) (m_position : Int32) (m_start : Int32) (m_token : Int32) (m_value : Int32) (m_letters : Int32) (m_code : Int32) (m_place : Int32) (m_outputLength : Int32) (m_s : Nat → Int32) (m_parsed : Nat → Int32) (m_tried : Nat → Int32) (m_remembered : Nat → Int32) (m_slots : Nat → Int32) (m_kept : Nat → Int32) (m_away : Nat → Int32) (m_input : Nat → Int32) (m_halfway : Nat → Int32) (m_output : Nat → Int32) {p : Program} {e : Env} {s : State} {m : MethodId} {args : Array Value} {below : List Frame} {meth : Method} {c : Code} {A : Nat → Prop} {F : va_W} (X : vX p s m args meth c cX12_cheeseDifference 3 (some .int) RX12 (wq yX12_cheeseDifference cX12_cheeseDifference 3 (some .int)) D (tyA c9) G A) {Q : State → Prop} (o : Int32) (K : vW p l e { frames := 1, cells := 0, slots := 0, locals := 20 } s m args below meth c 3 D A F 0 0 Q (wX12 ad c9 m_undoable m_undoStart m_thrown m_inputLength m_position m_start m_token m_value m_letters m_code m_place m_outputLength m_s m_parsed m_tried m_remembered m_slots m_kept m_away m_input m_halfway m_output) 45 [(0, .ref (ad 0)), (1, .int o)] []) :
    ∀ (n : Nat) (v1 : Int32) (v2 : Int32), f_X12_cheeseDifference_L15 m_s n v1 v2 = some o → vW p l e { frames := 1, cells := 0, slots := 0, locals := 20 } s m args below meth c 3 D A F 0 0 Q (wX12 ad c9 m_undoable m_undoStart m_thrown m_inputLength m_position m_start m_token m_value m_letters m_code m_place m_outputLength m_s m_parsed m_tried m_remembered m_slots m_kept m_away m_input m_halfway m_output) 15 [(0, .ref (ad 0)), (1, .int v1), (2, .int v2)] [] := by
  intro n
  induction n with
  | zero =>
    intro v1 v2 hf
    rw [f_X12_cheeseDifference_L15] at hf
    cases hf
  | succ n ih =>
    intro v1 v2 hf
    rw [f_X12_cheeseDifference_L15] at hf
    refine v_iload_n X dX12_cheeseDifference_15 2 rfl rfl 16 rfl ?_
    refine v_aload_n X dX12_cheeseDifference_16 0 rfl rfl 17 rfl ?_
    refine v_get X (C := RX12) (T := TX12) (N := 22) (ci := 11) (v := _) dX12_cheeseDifference_17 (lay_of laym_X12) 0 rfl rfl 0 (by decide) (mw wm_304) rfl rfl 20 rfl ?_
    refine v_iconst X dX12_cheeseDifference_20 ic_5 21 rfl ?_
    obtain ⟨x2, hx2, hf⟩ := bnd hf
    refine v_iald X dX12_cheeseDifference_21 1 0 rfl rfl hx2 22 rfl ?_
    refine v_icmp_ge X (tgt := 45) dX12_cheeseDifference_22 rfl 25 rfl hf (fun hf => ?_) (fun hf => ?_)
    · obtain rfl := Option.some.inj hf
      refine v_sub (lv' := [(0, .ref (ad 0)), (1, .int v1)]) [0, 1] rfl ?_
      exact K
    · refine v_iload_n X dX12_cheeseDifference_25 1 rfl rfl 26 rfl ?_
      refine v_aload_n X dX12_cheeseDifference_26 0 rfl rfl 27 rfl ?_
      refine v_get X (C := RX12) (T := TX12) (N := 22) (ci := 11) (v := _) dX12_cheeseDifference_27 (lay_of laym_X12) 0 rfl rfl 0 (by decide) (mw wm_304) rfl rfl 30 rfl ?_
      refine v_iload_n X dX12_cheeseDifference_30 2 rfl rfl 31 rfl ?_
      obtain ⟨o3, ho3, hf⟩ := bnd hf
      refine v_callSi X (As := [.int v2]) (rest := [.ref (ad 1), .int v1]) (ws' := (wX12 ad c9 m_undoable m_undoStart m_thrown m_inputLength m_position m_start m_token m_value m_letters m_code m_place m_outputLength m_s m_parsed m_tried m_remembered m_slots m_kept m_away m_input m_halfway m_output)) (c_X12_ofService l hG D c9 v2 ho3) 1 (gS wm_76 wm_77 wm_37 wm_78) rfl rfl rfl pd_X12_ofService ⟨Nat.le_of_ble_eq_true rfl, Nat.le_of_ble_eq_true rfl⟩ rfl rfl (Nat.le_of_ble_eq_true rfl) ⟨Nat.zero_le _, Nat.zero_le _⟩ [] [0, 1, 2, 3, 4, 5, 6, 7, 8, 9, 10] [0, 1, 2, 3, 4, 5, 6, 7, 8, 9, 10] rfl rfl rfl rfl dX12_cheeseDifference_31 34 rfl ?_
      refine v_iconst X dX12_cheeseDifference_34 ic_2 35 rfl ?_
      refine v_iadd X dX12_cheeseDifference_35 36 rfl ?_
      obtain ⟨x4, hx4, hf⟩ := bnd hf
      refine v_iald X dX12_cheeseDifference_36 1 0 rfl rfl hx4 37 rfl ?_
      refine v_isub X dX12_cheeseDifference_37 38 rfl ?_
      refine v_istore_n X (lv' := [(1, .int (v1 - x4)), (0, .ref (ad 0)), (2, .int v2)]) dX12_cheeseDifference_38 rfl (by decide) rfl 39 rfl ?_
      refine v_iinc X (lv' := [(2, .int (v2 + 1)), (1, .int (v1 - x4)), (0, .ref (ad 0))]) dX12_cheeseDifference_39 2 rfl ic_1 (by decide) rfl 42 rfl ?_
      refine v_goto X (tgt := 15) dX12_cheeseDifference_42 rfl ?_
      refine v_sub (lv' := [(0, .ref (ad 0)), (1, .int (v1 - x4)), (2, .int (v2 + 1))]) [2, 1, 0] rfl ?_
      exact ih (v1 - x4) (v2 + 1) hf
set_option maxRecDepth 100000 in
set_option maxHeartbeats 4000000 in
theorem l_X12_cheeseDifference_L47 (l : Launch) {G : (Nat → Prop) → State → Heap → Prop} (hG : vG G) (D : va_G) (c9 : Nat → ClassId) (ad : Nat → Nat) (m_undoable : Int32) (m_undoStart : Int32) (m_thrown : Int32) (m_inputLength : Int32) (m_position : Int32) (m_start : Int32) (m_token : Int32) (m_value : Int32) (m_letters : Int32) (m_code : Int32) (m_place : Int32) (m_outputLength : Int32) (m_s : Nat → Int32) (m_parsed : Nat → Int32) (m_tried : Nat → Int32) (m_remembered : Nat → Int32) (m_slots : Nat → Int32) (m_kept : Nat → Int32) (m_away : Nat → Int32) (m_input : Nat → Int32) (m_halfway : Nat → Int32) (m_output : Nat → Int32) {p : Program} {e : Env} {s : State} {m : MethodId} {args : Array Value} {below : List Frame} {meth : Method} {c : Code} {A : Nat → Prop} {F : va_W} (X : vX p s m args meth c cX12_cheeseDifference 3 (some .int) RX12 (wq yX12_cheeseDifference cX12_cheeseDifference 3 (some .int)) D (tyA c9) G A) {Q : State → Prop} (o : Int32) (K : vW p l e { frames := 1, cells := 0, slots := 0, locals := 20 } s m args below meth c 3 D A F 0 0 Q (wX12 ad c9 m_undoable m_undoStart m_thrown m_inputLength m_position m_start m_token m_value m_letters m_code m_place m_outputLength m_s m_parsed m_tried m_remembered m_slots m_kept m_away m_input m_halfway m_output) 77 [(1, .int o)] []) :
    ∀ (n : Nat) (v1 : Int32) (v2 : Int32), f_X12_cheeseDifference_L47 m_s n v1 v2 = some o → vW p l e { frames := 1, cells := 0, slots := 0, locals := 20 } s m args below meth c 3 D A F 0 0 Q (wX12 ad c9 m_undoable m_undoStart m_thrown m_inputLength m_position m_start m_token m_value m_letters m_code m_place m_outputLength m_s m_parsed m_tried m_remembered m_slots m_kept m_away m_input m_halfway m_output) 47 [(0, .ref (ad 0)), (1, .int v1), (2, .int v2)] [] := by
  intro n
  induction n with
  | zero =>
    intro v1 v2 hf
    rw [f_X12_cheeseDifference_L47] at hf
    cases hf
  | succ n ih =>
    intro v1 v2 hf
    rw [f_X12_cheeseDifference_L47] at hf
    refine v_iload_n X dX12_cheeseDifference_47 2 rfl rfl 48 rfl ?_
    refine v_aload_n X dX12_cheeseDifference_48 0 rfl rfl 49 rfl ?_
    refine v_get X (C := RX12) (T := TX12) (N := 22) (ci := 11) (v := _) dX12_cheeseDifference_49 (lay_of laym_X12) 0 rfl rfl 0 (by decide) (mw wm_304) rfl rfl 52 rfl ?_
    refine v_iconst X dX12_cheeseDifference_52 ic_4 53 rfl ?_
    obtain ⟨x6, hx6, hf⟩ := bnd hf
    refine v_iald X dX12_cheeseDifference_53 1 0 rfl rfl hx6 54 rfl ?_
    refine v_icmp_ge X (tgt := 77) dX12_cheeseDifference_54 rfl 57 rfl hf (fun hf => ?_) (fun hf => ?_)
    · obtain rfl := Option.some.inj hf
      refine v_sub (lv' := [(1, .int v1)]) [1] rfl ?_
      exact K
    · refine v_iload_n X dX12_cheeseDifference_57 1 rfl rfl 58 rfl ?_
      refine v_aload_n X dX12_cheeseDifference_58 0 rfl rfl 59 rfl ?_
      refine v_get X (C := RX12) (T := TX12) (N := 22) (ci := 11) (v := _) dX12_cheeseDifference_59 (lay_of laym_X12) 0 rfl rfl 0 (by decide) (mw wm_304) rfl rfl 62 rfl ?_
      refine v_iload_n X dX12_cheeseDifference_62 2 rfl rfl 63 rfl ?_
      obtain ⟨o7, ho7, hf⟩ := bnd hf
      refine v_callSi X (As := [.int v2]) (rest := [.ref (ad 1), .int v1]) (ws' := (wX12 ad c9 m_undoable m_undoStart m_thrown m_inputLength m_position m_start m_token m_value m_letters m_code m_place m_outputLength m_s m_parsed m_tried m_remembered m_slots m_kept m_away m_input m_halfway m_output)) (c_X12_ofUser l hG D c9 v2 ho7) 1 (gS wm_46 wm_47 wm_37 wm_48) rfl rfl rfl pd_X12_ofUser ⟨Nat.le_of_ble_eq_true rfl, Nat.le_of_ble_eq_true rfl⟩ rfl rfl (Nat.le_of_ble_eq_true rfl) ⟨Nat.zero_le _, Nat.zero_le _⟩ [] [0, 1, 2, 3, 4, 5, 6, 7, 8, 9, 10] [0, 1, 2, 3, 4, 5, 6, 7, 8, 9, 10] rfl rfl rfl rfl dX12_cheeseDifference_63 66 rfl ?_
      refine v_iconst X dX12_cheeseDifference_66 ic_4 67 rfl ?_
      refine v_iadd X dX12_cheeseDifference_67 68 rfl ?_
      obtain ⟨x8, hx8, hf⟩ := bnd hf
      refine v_iald X dX12_cheeseDifference_68 1 0 rfl rfl hx8 69 rfl ?_
      refine v_isub X dX12_cheeseDifference_69 70 rfl ?_
      refine v_istore_n X (lv' := [(1, .int (v1 - x8)), (0, .ref (ad 0)), (2, .int v2)]) dX12_cheeseDifference_70 rfl (by decide) rfl 71 rfl ?_
      refine v_iinc X (lv' := [(2, .int (v2 + 1)), (1, .int (v1 - x8)), (0, .ref (ad 0))]) dX12_cheeseDifference_71 2 rfl ic_1 (by decide) rfl 74 rfl ?_
      refine v_goto X (tgt := 47) dX12_cheeseDifference_74 rfl ?_
      refine v_sub (lv' := [(0, .ref (ad 0)), (1, .int (v1 - x8)), (2, .int (v2 + 1))]) [2, 1, 0] rfl ?_
      exact ih (v1 - x8) (v2 + 1) hf
set_option maxRecDepth 100000 in
set_option maxHeartbeats 4000000 in
theorem c_X12_cheeseDifference (l : Launch) {G : (Nat → Prop) → State → Heap → Prop} (hG : vG G) (D : va_G) (c9 : Nat → ClassId) (ad : Nat → Nat) (m_undoable : Int32) (m_undoStart : Int32) (m_thrown : Int32) (m_inputLength : Int32) (m_position : Int32) (m_start : Int32) (m_token : Int32) (m_value : Int32) (m_letters : Int32) (m_code : Int32) (m_place : Int32) (m_outputLength : Int32) (m_s : Nat → Int32) (m_parsed : Nat → Int32) (m_tried : Nat → Int32) (m_remembered : Nat → Int32) (m_slots : Nat → Int32) (m_kept : Nat → Int32) (m_away : Nat → Int32) (m_input : Nat → Int32) (m_halfway : Nat → Int32) (m_output : Nat → Int32)  {o : Int32 × Int32} (hf : f_X12_cheeseDifference m_thrown m_s = some o) : mI l yX12_cheeseDifference (wq yX12_cheeseDifference cX12_cheeseDifference 3 (some .int)) { frames := 1, cells := 0, slots := 0, locals := 20 } G D (tyA c9) [.ref (ad 0)] (wX12 ad c9 m_undoable m_undoStart m_thrown m_inputLength m_position m_start m_token m_value m_letters m_code m_place m_outputLength m_s m_parsed m_tried m_remembered m_slots m_kept m_away m_input m_halfway m_output) [] 0 0 o.1 (wX12 ad c9 m_undoable m_undoStart o.2 m_inputLength m_position m_start m_token m_value m_letters m_code m_place m_outputLength m_s m_parsed m_tried m_remembered m_slots m_kept m_away m_input m_halfway m_output) := by
  refine mI_of hG (cc := cX12_cheeseDifference) (maxL := 3) (ty := .int) (by decide) rfl (Nat.le_of_ble_eq_true rfl) ?_
  intro p e s m args below meth c A X
  have X : vX p s m args meth c cX12_cheeseDifference 3 (some .int) RX12 (wq yX12_cheeseDifference cX12_cheeseDifference 3 (some .int)) D (tyA c9) G A := X
  refine v_eq (lv2 := [(0, .ref (ad 0))]) rfl rfl rfl rfl ?_
  rw [f_X12_cheeseDifference] at hf
  refine v_aload_n X dX12_cheeseDifference_0 0 rfl rfl 1 rfl ?_
  refine v_iconst X dX12_cheeseDifference_1 ic_0 2 rfl ?_
  refine v_put X (C := RX12) (T := TX12) (N := 22) (ci := 11) (ty := tyX12 8) (ws' := (wX12 ad c9 m_undoable m_undoStart 0 m_inputLength m_position m_start m_token m_value m_letters m_code m_place m_outputLength m_s m_parsed m_tried m_remembered m_slots m_kept m_away m_input m_halfway m_output)) dX12_cheeseDifference_2 (lay_of laym_X12) 0 rfl rfl 8 (by decide) tyX12 tyX12_ok nmX12 (mw wm_33) rfl rfl (tyX12_ok 8 (by decide)) rfl rfl (Nat.le_of_ble_eq_true rfl) rfl 5 rfl ?_
  refine v_aload_n X dX12_cheeseDifference_5 0 rfl rfl 6 rfl ?_
  refine v_get X (C := RX12) (T := TX12) (N := 22) (ci := 11) (v := _) dX12_cheeseDifference_6 (lay_of laym_X12) 0 rfl rfl 0 (by decide) (mw wm_304) rfl rfl 9 rfl ?_
  refine v_bipush X dX12_cheeseDifference_9 bp_9 11 rfl ?_
  obtain ⟨x1, hx1, hf⟩ := bnd hf
  refine v_iald X dX12_cheeseDifference_11 1 0 rfl rfl hx1 12 rfl ?_
  refine v_istore_n X (lv' := [(1, .int x1), (0, .ref (ad 0))]) dX12_cheeseDifference_12 rfl (by decide) rfl 13 rfl ?_
  refine v_iconst X dX12_cheeseDifference_13 ic_0 14 rfl ?_
  refine v_istore_n X (lv' := [(2, .int 0), (1, .int x1), (0, .ref (ad 0))]) dX12_cheeseDifference_14 rfl (by decide) rfl 15 rfl ?_
  obtain ⟨o5, ho5, hf⟩ := bnd hf
  refine v_sub (lv' := [(0, .ref (ad 0)), (1, .int x1), (2, .int 0)]) [2, 1, 0] rfl ?_
  refine l_X12_cheeseDifference_L15 l hG D c9 ad m_undoable m_undoStart 0 m_inputLength m_position m_start m_token m_value m_letters m_code m_place m_outputLength m_s m_parsed m_tried m_remembered m_slots m_kept m_away m_input m_halfway m_output X o5 ?_ 5000 x1 0 ho5
  refine v_iconst X dX12_cheeseDifference_45 ic_0 46 rfl ?_
  refine v_istore_n X (lv' := [(2, .int 0), (0, .ref (ad 0)), (1, .int o5)]) dX12_cheeseDifference_46 rfl (by decide) rfl 47 rfl ?_
  obtain ⟨o9, ho9, hf⟩ := bnd hf
  refine v_sub (lv' := [(0, .ref (ad 0)), (1, .int o5), (2, .int 0)]) [1, 2, 0] rfl ?_
  refine l_X12_cheeseDifference_L47 l hG D c9 ad m_undoable m_undoStart 0 m_inputLength m_position m_start m_token m_value m_letters m_code m_place m_outputLength m_s m_parsed m_tried m_remembered m_slots m_kept m_away m_input m_halfway m_output X o9 ?_ 5000 o5 0 ho9
  refine v_iload_n X dX12_cheeseDifference_77 0 rfl rfl 78 rfl ?_
  obtain rfl := Option.some.inj hf
  exact v_iret X (Nat.zero_le _) (Nat.zero_le _) dX12_cheeseDifference_78
theorem pd_X12_cheeseDifference : yX12_cheeseDifference.cls ≠ "java/lang/invoke/MethodHandle" ∧ yX12_cheeseDifference.cls ≠ "java/lang/invoke/VarHandle" ∧ (parseMethodDescriptor yX12_cheeseDifference.desc).map (fun d => d.parameters.length) = some 0 := by decide +kernel
def f_X12_lifeErrors_L9 (m_s : Nat → Int32) : Nat → Int32 → Int32 → Option (Int32)
  | 0, _, _ => none
  | n + 1, v1, v2 =>
    (rd m_s 463 6).bind fun x1 =>
    if x1 ≤ v2 then (
      some (v1))
    else (
      (f_X12_ofTicket v2).bind fun o2 =>
      (rd m_s 463 (o2 + 5)).bind fun x3 =>
      (rd m_s 463 (o2 + 6)).bind fun x4 =>
      Option.bind (if x4 ≤ x3 then (
        some (1))
      else (
        (rd m_s 463 (o2 + 6)).bind fun x6 =>
        (rd m_s 463 (o2 + 7)).bind fun x7 =>
        if x6 ≤ x7 then (
          some (0))
        else (
          some (1))) : Option (Int32)) fun j5 =>
      f_X12_lifeErrors_L9 m_s n  (v1 + j5) (v2 + 1))
def f_X12_lifeErrors (m_thrown : Int32) (m_s : Nat → Int32) : Option (Int32 × Int32) :=
  (f_X12_lifeErrors_L9 m_s 5000 0 0).bind fun o8 =>
  some (o8, 0)
set_option maxRecDepth 100000 in
set_option maxHeartbeats 4000000 in
theorem l_X12_lifeErrors_L9 (l : Launch) {G : (Nat → Prop) → State → Heap → Prop} (hG : vG G) (D : va_G) (c9 : Nat → ClassId) (ad : Nat → Nat) (m_undoable : Int32) (m_undoStart : Int32) (m_thrown : Int32) (m_inputLength : Int32) (m_position : Int32) (m_start : Int32) (m_token : Int32) (m_value : Int32) (m_letters : Int32) (m_code : Int32) (m_place : Int32) (m_outputLength : Int32) (m_s : Nat → Int32) (m_parsed : Nat → Int32) (m_tried : Nat → Int32) (m_remembered : Nat → Int32) (m_slots : Nat → Int32) (m_kept : Nat → Int32) (m_away : Nat → Int32) (m_input : Nat → Int32) (m_halfway : Nat → Int32) (m_output : Nat → Int32) {p : Program} {e : Env} {s : State} {m : MethodId} {args : Array Value} {below : List Frame} {meth : Method} {c : Code} {A : Nat → Prop} {F : va_W} (X : vX p s m args meth c cX12_lifeErrors 4 (some .int) RX12 (wq yX12_lifeErrors cX12_lifeErrors 4 (some .int)) D (tyA c9) G A) {Q : State → Prop} (o : Int32) (K : vW p l e { frames := 1, cells := 0, slots := 0, locals := 20 } s m args below meth c 4 D A F 0 0 Q (wX12 ad c9 m_undoable m_undoStart m_thrown m_inputLength m_position m_start m_token m_value m_letters m_code m_place m_outputLength m_s m_parsed m_tried m_remembered m_slots m_kept m_away m_input m_halfway m_output) 80 [(1, .int o)] []) :
    ∀ (n : Nat) (v1 : Int32) (v2 : Int32), f_X12_lifeErrors_L9 m_s n v1 v2 = some o → vW p l e { frames := 1, cells := 0, slots := 0, locals := 20 } s m args below meth c 4 D A F 0 0 Q (wX12 ad c9 m_undoable m_undoStart m_thrown m_inputLength m_position m_start m_token m_value m_letters m_code m_place m_outputLength m_s m_parsed m_tried m_remembered m_slots m_kept m_away m_input m_halfway m_output) 9 [(0, .ref (ad 0)), (1, .int v1), (2, .int v2)] [] := by
  intro n
  induction n with
  | zero =>
    intro v1 v2 hf
    rw [f_X12_lifeErrors_L9] at hf
    cases hf
  | succ n ih =>
    intro v1 v2 hf
    rw [f_X12_lifeErrors_L9] at hf
    refine v_iload_n X dX12_lifeErrors_9 2 rfl rfl 10 rfl ?_
    refine v_aload_n X dX12_lifeErrors_10 0 rfl rfl 11 rfl ?_
    refine v_get X (C := RX12) (T := TX12) (N := 22) (ci := 11) (v := _) dX12_lifeErrors_11 (lay_of laym_X12) 0 rfl rfl 0 (by decide) (mw wm_304) rfl rfl 14 rfl ?_
    refine v_bipush X dX12_lifeErrors_14 bp_6 16 rfl ?_
    obtain ⟨x1, hx1, hf⟩ := bnd hf
    refine v_iald X dX12_lifeErrors_16 1 0 rfl rfl hx1 17 rfl ?_
    refine v_icmp_ge X (tgt := 80) dX12_lifeErrors_17 rfl 20 rfl hf (fun hf => ?_) (fun hf => ?_)
    · obtain rfl := Option.some.inj hf
      refine v_sub (lv' := [(1, .int v1)]) [1] rfl ?_
      exact K
    · refine v_iload_n X dX12_lifeErrors_20 2 rfl rfl 21 rfl ?_
      obtain ⟨o2, ho2, hf⟩ := bnd hf
      refine v_callSi X (As := [.int v2]) (rest := []) (ws' := (wX12 ad c9 m_undoable m_undoStart m_thrown m_inputLength m_position m_start m_token m_value m_letters m_code m_place m_outputLength m_s m_parsed m_tried m_remembered m_slots m_kept m_away m_input m_halfway m_output)) (c_X12_ofTicket l hG D c9 v2 ho2) 1 (gS wm_55 wm_56 wm_37 wm_57) rfl rfl rfl pd_X12_ofTicket ⟨Nat.le_of_ble_eq_true rfl, Nat.le_of_ble_eq_true rfl⟩ rfl rfl (Nat.le_of_ble_eq_true rfl) ⟨Nat.zero_le _, Nat.zero_le _⟩ [] [0, 1, 2, 3, 4, 5, 6, 7, 8, 9, 10] [0, 1, 2, 3, 4, 5, 6, 7, 8, 9, 10] rfl rfl rfl rfl dX12_lifeErrors_21 24 rfl ?_
      refine v_istore_n X (lv' := [(3, .int o2), (0, .ref (ad 0)), (1, .int v1), (2, .int v2)]) dX12_lifeErrors_24 rfl (by decide) rfl 25 rfl ?_
      refine v_iload_n X dX12_lifeErrors_25 2 rfl rfl 26 rfl ?_
      refine v_aload_n X dX12_lifeErrors_26 1 rfl rfl 27 rfl ?_
      refine v_get X (C := RX12) (T := TX12) (N := 22) (ci := 11) (v := _) dX12_lifeErrors_27 (lay_of laym_X12) 0 rfl rfl 0 (by decide) (mw wm_304) rfl rfl 30 rfl ?_
      refine v_iload_n X dX12_lifeErrors_30 0 rfl rfl 31 rfl ?_
      refine v_iconst X dX12_lifeErrors_31 ic_5 32 rfl ?_
      refine v_iadd X dX12_lifeErrors_32 33 rfl ?_
      obtain ⟨x3, hx3, hf⟩ := bnd hf
      refine v_iald X dX12_lifeErrors_33 1 0 rfl rfl hx3 34 rfl ?_
      refine v_aload_n X dX12_lifeErrors_34 1 rfl rfl 35 rfl ?_
      refine v_get X (C := RX12) (T := TX12) (N := 22) (ci := 11) (v := _) dX12_lifeErrors_35 (lay_of laym_X12) 0 rfl rfl 0 (by decide) (mw wm_304) rfl rfl 38 rfl ?_
      refine v_iload_n X dX12_lifeErrors_38 0 rfl rfl 39 rfl ?_
      refine v_bipush X dX12_lifeErrors_39 bp_6 41 rfl ?_
      refine v_iadd X dX12_lifeErrors_41 42 rfl ?_
      obtain ⟨x4, hx4, hf⟩ := bnd hf
      refine v_iald X dX12_lifeErrors_42 1 0 rfl rfl hx4 43 rfl ?_
      obtain ⟨j5, hj5, hf⟩ := bnd hf
      have Jj5 : vW p l e { frames := 1, cells := 0, slots := 0, locals := 20 } s m args below meth c 4 D A F 0 0 Q (wX12 ad c9 m_undoable m_undoStart m_thrown m_inputLength m_position m_start m_token m_value m_letters m_code m_place m_outputLength m_s m_parsed m_tried m_remembered m_slots m_kept m_away m_input m_halfway m_output) 72 [(0, .ref (ad 0)), (2, .int v2)] [.int j5, .int v1] := by
        refine v_iadd X dX12_lifeErrors_72 73 rfl ?_
        refine v_istore_n X (lv' := [(1, .int (v1 + j5)), (0, .ref (ad 0)), (2, .int v2)]) dX12_lifeErrors_73 rfl (by decide) rfl 74 rfl ?_
        refine v_iinc X (lv' := [(2, .int (v2 + 1)), (1, .int (v1 + j5)), (0, .ref (ad 0))]) dX12_lifeErrors_74 2 rfl ic_1 (by decide) rfl 77 rfl ?_
        refine v_goto X (tgt := 9) dX12_lifeErrors_77 rfl ?_
        refine v_sub (lv' := [(0, .ref (ad 0)), (1, .int (v1 + j5)), (2, .int (v2 + 1))]) [2, 1, 0] rfl ?_
        exact ih (v1 + j5) (v2 + 1) hf
      clear hf
      refine v_icmp_ge X (tgt := 67) dX12_lifeErrors_43 rfl 46 rfl hj5 (fun hf => ?_) (fun hf => ?_)
      · refine v_iconst X dX12_lifeErrors_67 ic_1 68 rfl ?_
        refine v_goto X (tgt := 72) dX12_lifeErrors_68 rfl ?_
        obtain rfl := Option.some.inj hf
        refine v_sub (lv' := [(0, .ref (ad 0)), (2, .int v2)]) [1, 3] rfl ?_
        exact Jj5
      · refine v_aload_n X dX12_lifeErrors_46 1 rfl rfl 47 rfl ?_
        refine v_get X (C := RX12) (T := TX12) (N := 22) (ci := 11) (v := _) dX12_lifeErrors_47 (lay_of laym_X12) 0 rfl rfl 0 (by decide) (mw wm_304) rfl rfl 50 rfl ?_
        refine v_iload_n X dX12_lifeErrors_50 0 rfl rfl 51 rfl ?_
        refine v_bipush X dX12_lifeErrors_51 bp_6 53 rfl ?_
        refine v_iadd X dX12_lifeErrors_53 54 rfl ?_
        obtain ⟨x6, hx6, hf⟩ := bnd hf
        refine v_iald X dX12_lifeErrors_54 1 0 rfl rfl hx6 55 rfl ?_
        refine v_aload_n X dX12_lifeErrors_55 1 rfl rfl 56 rfl ?_
        refine v_get X (C := RX12) (T := TX12) (N := 22) (ci := 11) (v := _) dX12_lifeErrors_56 (lay_of laym_X12) 0 rfl rfl 0 (by decide) (mw wm_304) rfl rfl 59 rfl ?_
        refine v_iload_n X dX12_lifeErrors_59 0 rfl rfl 60 rfl ?_
        refine v_bipush X dX12_lifeErrors_60 bp_7 62 rfl ?_
        refine v_iadd X dX12_lifeErrors_62 63 rfl ?_
        obtain ⟨x7, hx7, hf⟩ := bnd hf
        refine v_iald X dX12_lifeErrors_63 1 0 rfl rfl hx7 64 rfl ?_
        refine v_icmp_le X (tgt := 71) dX12_lifeErrors_64 rfl 67 rfl hf (fun hf => ?_) (fun hf => ?_)
        · refine v_iconst X dX12_lifeErrors_71 ic_0 72 rfl ?_
          obtain rfl := Option.some.inj hf
          refine v_sub (lv' := [(0, .ref (ad 0)), (2, .int v2)]) [1, 3] rfl ?_
          exact Jj5
        · refine v_iconst X dX12_lifeErrors_67 ic_1 68 rfl ?_
          refine v_goto X (tgt := 72) dX12_lifeErrors_68 rfl ?_
          obtain rfl := Option.some.inj hf
          refine v_sub (lv' := [(0, .ref (ad 0)), (2, .int v2)]) [1, 3] rfl ?_
          exact Jj5
set_option maxRecDepth 100000 in
set_option maxHeartbeats 4000000 in
theorem c_X12_lifeErrors (l : Launch) {G : (Nat → Prop) → State → Heap → Prop} (hG : vG G) (D : va_G) (c9 : Nat → ClassId) (ad : Nat → Nat) (m_undoable : Int32) (m_undoStart : Int32) (m_thrown : Int32) (m_inputLength : Int32) (m_position : Int32) (m_start : Int32) (m_token : Int32) (m_value : Int32) (m_letters : Int32) (m_code : Int32) (m_place : Int32) (m_outputLength : Int32) (m_s : Nat → Int32) (m_parsed : Nat → Int32) (m_tried : Nat → Int32) (m_remembered : Nat → Int32) (m_slots : Nat → Int32) (m_kept : Nat → Int32) (m_away : Nat → Int32) (m_input : Nat → Int32) (m_halfway : Nat → Int32) (m_output : Nat → Int32)  {o : Int32 × Int32} (hf : f_X12_lifeErrors m_thrown m_s = some o) : mI l yX12_lifeErrors (wq yX12_lifeErrors cX12_lifeErrors 4 (some .int)) { frames := 1, cells := 0, slots := 0, locals := 20 } G D (tyA c9) [.ref (ad 0)] (wX12 ad c9 m_undoable m_undoStart m_thrown m_inputLength m_position m_start m_token m_value m_letters m_code m_place m_outputLength m_s m_parsed m_tried m_remembered m_slots m_kept m_away m_input m_halfway m_output) [] 0 0 o.1 (wX12 ad c9 m_undoable m_undoStart o.2 m_inputLength m_position m_start m_token m_value m_letters m_code m_place m_outputLength m_s m_parsed m_tried m_remembered m_slots m_kept m_away m_input m_halfway m_output) := by
  refine mI_of hG (cc := cX12_lifeErrors) (maxL := 4) (ty := .int) (by decide) rfl (Nat.le_of_ble_eq_true rfl) ?_
  intro p e s m args below meth c A X
  have X : vX p s m args meth c cX12_lifeErrors 4 (some .int) RX12 (wq yX12_lifeErrors cX12_lifeErrors 4 (some .int)) D (tyA c9) G A := X
  refine v_eq (lv2 := [(0, .ref (ad 0))]) rfl rfl rfl rfl ?_
  rw [f_X12_lifeErrors] at hf
  refine v_aload_n X dX12_lifeErrors_0 0 rfl rfl 1 rfl ?_
  refine v_iconst X dX12_lifeErrors_1 ic_0 2 rfl ?_
  refine v_put X (C := RX12) (T := TX12) (N := 22) (ci := 11) (ty := tyX12 8) (ws' := (wX12 ad c9 m_undoable m_undoStart 0 m_inputLength m_position m_start m_token m_value m_letters m_code m_place m_outputLength m_s m_parsed m_tried m_remembered m_slots m_kept m_away m_input m_halfway m_output)) dX12_lifeErrors_2 (lay_of laym_X12) 0 rfl rfl 8 (by decide) tyX12 tyX12_ok nmX12 (mw wm_33) rfl rfl (tyX12_ok 8 (by decide)) rfl rfl (Nat.le_of_ble_eq_true rfl) rfl 5 rfl ?_
  refine v_iconst X dX12_lifeErrors_5 ic_0 6 rfl ?_
  refine v_istore_n X (lv' := [(1, .int 0), (0, .ref (ad 0))]) dX12_lifeErrors_6 rfl (by decide) rfl 7 rfl ?_
  refine v_iconst X dX12_lifeErrors_7 ic_0 8 rfl ?_
  refine v_istore_n X (lv' := [(2, .int 0), (1, .int 0), (0, .ref (ad 0))]) dX12_lifeErrors_8 rfl (by decide) rfl 9 rfl ?_
  obtain ⟨o8, ho8, hf⟩ := bnd hf
  refine v_sub (lv' := [(0, .ref (ad 0)), (1, .int 0), (2, .int 0)]) [2, 1, 0] rfl ?_
  refine l_X12_lifeErrors_L9 l hG D c9 ad m_undoable m_undoStart 0 m_inputLength m_position m_start m_token m_value m_letters m_code m_place m_outputLength m_s m_parsed m_tried m_remembered m_slots m_kept m_away m_input m_halfway m_output X o8 ?_ 5000 0 0 ho8
  refine v_iload_n X dX12_lifeErrors_80 0 rfl rfl 81 rfl ?_
  obtain rfl := Option.some.inj hf
  exact v_iret X (Nat.zero_le _) (Nat.zero_le _) dX12_lifeErrors_81
theorem pd_X12_lifeErrors : yX12_lifeErrors.cls ≠ "java/lang/invoke/MethodHandle" ∧ yX12_lifeErrors.cls ≠ "java/lang/invoke/VarHandle" ∧ (parseMethodDescriptor yX12_lifeErrors.desc).map (fun d => d.parameters.length) = some 0 := by decide +kernel
def f_X12_goHalfway_L14 (m_s : Nat → Int32) (v1 : Int32) : Nat → (Nat → Int32) → Int32 → Option ((Nat → Int32))
  | 0, _, _ => none
  | n + 1, m_halfway, v2 =>
    (rd m_s 463 3).bind fun x2 =>
    if x2 ≤ v2 then (
      some (m_halfway))
    else (
      if v1 = v2 then (
        (wr m_halfway 25 ((5 * v1) + v2) 0).bind fun g6 =>
        f_X12_goHalfway_L14 m_s v1 n g6 (v2 + 1))
      else (
        (f_X12_trusted m_s v1 v2).bind fun o3 =>
        if o3 = 0 then (
          (wr m_halfway 25 ((5 * v1) + v2) 99).bind fun g4 =>
          f_X12_goHalfway_L14 m_s v1 n g4 (v2 + 1))
        else (
          (wr m_halfway 25 ((5 * v1) + v2) 1).bind fun g5 =>
          f_X12_goHalfway_L14 m_s v1 n g5 (v2 + 1))))
def f_X12_goHalfway_L2 (m_s : Nat → Int32) : Nat → (Nat → Int32) → Int32 → Option ((Nat → Int32))
  | 0, _, _ => none
  | n + 1, m_halfway, v1 =>
    (rd m_s 463 3).bind fun x1 =>
    if x1 ≤ v1 then (
      some (m_halfway))
    else (
      (f_X12_goHalfway_L14 m_s v1 5000 m_halfway 0).bind fun o7 =>
      f_X12_goHalfway_L2 m_s n o7 (v1 + 1))
def f_X12_goHalfway_L99 (m_s : Nat → Int32) (v1 : Int32) (v2 : Int32) : Nat → (Nat → Int32) → Int32 → Option ((Nat → Int32))
  | 0, _, _ => none
  | n + 1, m_halfway, v3 =>
    (rd m_s 463 3).bind fun x11 =>
    if x11 ≤ v3 then (
      some (m_halfway))
    else (
      (rd m_halfway 25 ((5 * v2) + v3)).bind fun x12 =>
      (rd m_halfway 25 ((5 * v2) + v1)).bind fun x13 =>
      (rd m_halfway 25 ((5 * v1) + v3)).bind fun x14 =>
      (f_X12_lesser x12 (x13 + x14)).bind fun o15 =>
      (wr m_halfway 25 ((5 * v2) + v3) o15).bind fun g16 =>
      f_X12_goHalfway_L99 m_s v1 v2 n g16 (v3 + 1))
def f_X12_goHalfway_L87 (m_s : Nat → Int32) (v1 : Int32) : Nat → (Nat → Int32) → Int32 → Option ((Nat → Int32))
  | 0, _, _ => none
  | n + 1, m_halfway, v2 =>
    (rd m_s 463 3).bind fun x10 =>
    if x10 ≤ v2 then (
      some (m_halfway))
    else (
      (f_X12_goHalfway_L99 m_s v1 v2 5000 m_halfway 0).bind fun o17 =>
      f_X12_goHalfway_L87 m_s v1 n o17 (v2 + 1))
def f_X12_goHalfway_L75 (m_s : Nat → Int32) : Nat → (Nat → Int32) → Int32 → Option ((Nat → Int32))
  | 0, _, _ => none
  | n + 1, m_halfway, v1 =>
    (rd m_s 463 3).bind fun x9 =>
    if x9 ≤ v1 then (
      some (m_halfway))
    else (
      (f_X12_goHalfway_L87 m_s v1 5000 m_halfway 0).bind fun o18 =>
      f_X12_goHalfway_L75 m_s n o18 (v1 + 1))
def f_X12_goHalfway (m_s : Nat → Int32) (m_halfway : Nat → Int32) : Option ((Nat → Int32)) :=
  (f_X12_goHalfway_L2 m_s 5000 m_halfway 0).bind fun o8 =>
  (f_X12_goHalfway_L75 m_s 5000 o8 0).bind fun o19 =>
  some (o19)
set_option maxRecDepth 100000 in
set_option maxHeartbeats 4000000 in
theorem l_X12_goHalfway_L14 (l : Launch) {G : (Nat → Prop) → State → Heap → Prop} (hG : vG G) (D : va_G) (c9 : Nat → ClassId) (ad : Nat → Nat) (m_undoable : Int32) (m_undoStart : Int32) (m_thrown : Int32) (m_inputLength : Int32) (m_position : Int32) (m_start : Int32) (m_token : Int32) (m_value : Int32) (m_letters : Int32) (m_code : Int32) (m_place : Int32) (m_outputLength : Int32) (m_s : Nat → Int32) (m_parsed : Nat → Int32) (m_tried : Nat → Int32) (m_remembered : Nat → Int32) (m_slots : Nat → Int32) (m_kept : Nat → Int32) (m_away : Nat → Int32) (m_input : Nat → Int32) (m_output : Nat → Int32) (v1 : Int32) {p : Program} {e : Env} {s : State} {m : MethodId} {args : Array Value} {below : List Frame} {meth : Method} {c : Code} {A : Nat → Prop} {F : va_W} (X : vX p s m args meth c cX12_goHalfway 4 none RX12 (wq yX12_goHalfway cX12_goHalfway 4 none) D (tyA c9) G A) {Q : State → Prop} (o : (Nat → Int32)) (K : vW p l e { frames := 1, cells := 0, slots := 0, locals := 22 } s m args below meth c 4 D A F 0 0 Q (wX12 ad c9 m_undoable m_undoStart m_thrown m_inputLength m_position m_start m_token m_value m_letters m_code m_place m_outputLength m_s m_parsed m_tried m_remembered m_slots m_kept m_away m_input o m_output) 67 [(0, .ref (ad 0)), (1, .int v1)] []) :
    ∀ (n : Nat) (m_halfway : Nat → Int32) (v2 : Int32), f_X12_goHalfway_L14 m_s v1 n m_halfway v2 = some o → vW p l e { frames := 1, cells := 0, slots := 0, locals := 22 } s m args below meth c 4 D A F 0 0 Q (wX12 ad c9 m_undoable m_undoStart m_thrown m_inputLength m_position m_start m_token m_value m_letters m_code m_place m_outputLength m_s m_parsed m_tried m_remembered m_slots m_kept m_away m_input m_halfway m_output) 14 [(0, .ref (ad 0)), (1, .int v1), (2, .int v2)] [] := by
  intro n
  induction n with
  | zero =>
    intro m_halfway v2 hf
    rw [f_X12_goHalfway_L14] at hf
    cases hf
  | succ n ih =>
    intro m_halfway v2 hf
    rw [f_X12_goHalfway_L14] at hf
    refine v_iload_n X dX12_goHalfway_14 2 rfl rfl 15 rfl ?_
    refine v_aload_n X dX12_goHalfway_15 0 rfl rfl 16 rfl ?_
    refine v_get X (C := RX12) (T := TX12) (N := 22) (ci := 11) (v := _) dX12_goHalfway_16 (lay_of laym_X12) 0 rfl rfl 0 (by decide) (mw wm_304) rfl rfl 19 rfl ?_
    refine v_iconst X dX12_goHalfway_19 ic_3 20 rfl ?_
    obtain ⟨x2, hx2, hf⟩ := bnd hf
    refine v_iald X dX12_goHalfway_20 1 0 rfl rfl hx2 21 rfl ?_
    refine v_icmp_ge X (tgt := 67) dX12_goHalfway_21 rfl 24 rfl hf (fun hf => ?_) (fun hf => ?_)
    · obtain rfl := Option.some.inj hf
      refine v_sub (lv' := [(0, .ref (ad 0)), (1, .int v1)]) [0, 1] rfl ?_
      exact K
    · refine v_aload_n X dX12_goHalfway_24 0 rfl rfl 25 rfl ?_
      refine v_get X (C := RX12) (T := TX12) (N := 22) (ci := 11) (v := _) dX12_goHalfway_25 (lay_of laym_X12) 0 rfl rfl 19 (by decide) (mw wm_350) rfl rfl 28 rfl ?_
      refine v_iconst X dX12_goHalfway_28 ic_5 29 rfl ?_
      refine v_iload_n X dX12_goHalfway_29 1 rfl rfl 30 rfl ?_
      refine v_imul X dX12_goHalfway_30 31 rfl ?_
      refine v_iload_n X dX12_goHalfway_31 2 rfl rfl 32 rfl ?_
      refine v_iadd X dX12_goHalfway_32 33 rfl ?_
      refine v_iload_n X dX12_goHalfway_33 1 rfl rfl 34 rfl ?_
      refine v_iload_n X dX12_goHalfway_34 2 rfl rfl 35 rfl ?_
      refine v_icmp_ne X (tgt := 42) dX12_goHalfway_35 rfl 38 rfl hf (fun hf => ?_) (fun hf => ?_)
      · refine v_aload_n X dX12_goHalfway_42 0 rfl rfl 43 rfl ?_
        refine v_get X (C := RX12) (T := TX12) (N := 22) (ci := 11) (v := _) dX12_goHalfway_43 (lay_of laym_X12) 0 rfl rfl 0 (by decide) (mw wm_304) rfl rfl 46 rfl ?_
        refine v_iload_n X dX12_goHalfway_46 1 rfl rfl 47 rfl ?_
        refine v_iload_n X dX12_goHalfway_47 2 rfl rfl 48 rfl ?_
        obtain ⟨o3, ho3, hf⟩ := bnd hf
        refine v_callSi X (As := [.ref (ad 1), .int v1, .int v2]) (rest := [.int ((5 * v1) + v2), .ref (ad 9)]) (ws' := (wX12 ad c9 m_undoable m_undoStart m_thrown m_inputLength m_position m_start m_token m_value m_letters m_code m_place m_outputLength m_s m_parsed m_tried m_remembered m_slots m_kept m_away m_input m_halfway m_output)) (c_X12_trusted l hG D c9 (ad 1) m_s v1 v2 ho3) 3 (gS wm_35 wm_36 wm_37 wm_38) rfl rfl rfl pd_X12_trusted ⟨Nat.le_of_ble_eq_true rfl, Nat.le_of_ble_eq_true rfl⟩ rfl rfl (Nat.le_of_ble_eq_true rfl) ⟨Nat.zero_le _, Nat.zero_le _⟩ [1] [0, 2, 3, 4, 5, 6, 7, 8, 9, 10] [0, 10, 1, 2, 3, 4, 5, 6, 7, 8, 9] rfl rfl rfl rfl dX12_goHalfway_48 51 rfl ?_
        refine v_if_eq X (tgt := 58) dX12_goHalfway_51 rfl 54 rfl hf (fun hf => ?_) (fun hf => ?_)
        · refine v_bipush X dX12_goHalfway_58 bp_99 60 rfl ?_
          obtain ⟨g4, hg4, hf⟩ := bnd hf
          refine v_iast X (ws' := (wX12 ad c9 m_undoable m_undoStart m_thrown m_inputLength m_position m_start m_token m_value m_letters m_code m_place m_outputLength m_s m_parsed m_tried m_remembered m_slots m_kept m_away m_input g4 m_output)) dX12_goHalfway_60 9 0 rfl rfl hg4 rfl 61 rfl ?_
          refine v_iinc X (lv' := [(2, .int (v2 + 1)), (0, .ref (ad 0)), (1, .int v1)]) dX12_goHalfway_61 2 rfl ic_1 (by decide) rfl 64 rfl ?_
          refine v_goto X (tgt := 14) dX12_goHalfway_64 rfl ?_
          refine v_sub (lv' := [(0, .ref (ad 0)), (1, .int v1), (2, .int (v2 + 1))]) [1, 2, 0] rfl ?_
          exact ih g4 (v2 + 1) hf
        · refine v_iconst X dX12_goHalfway_54 ic_1 55 rfl ?_
          refine v_goto X (tgt := 60) dX12_goHalfway_55 rfl ?_
          obtain ⟨g5, hg5, hf⟩ := bnd hf
          refine v_iast X (ws' := (wX12 ad c9 m_undoable m_undoStart m_thrown m_inputLength m_position m_start m_token m_value m_letters m_code m_place m_outputLength m_s m_parsed m_tried m_remembered m_slots m_kept m_away m_input g5 m_output)) dX12_goHalfway_60 9 0 rfl rfl hg5 rfl 61 rfl ?_
          refine v_iinc X (lv' := [(2, .int (v2 + 1)), (0, .ref (ad 0)), (1, .int v1)]) dX12_goHalfway_61 2 rfl ic_1 (by decide) rfl 64 rfl ?_
          refine v_goto X (tgt := 14) dX12_goHalfway_64 rfl ?_
          refine v_sub (lv' := [(0, .ref (ad 0)), (1, .int v1), (2, .int (v2 + 1))]) [1, 2, 0] rfl ?_
          exact ih g5 (v2 + 1) hf
      · refine v_iconst X dX12_goHalfway_38 ic_0 39 rfl ?_
        refine v_goto X (tgt := 60) dX12_goHalfway_39 rfl ?_
        obtain ⟨g6, hg6, hf⟩ := bnd hf
        refine v_iast X (ws' := (wX12 ad c9 m_undoable m_undoStart m_thrown m_inputLength m_position m_start m_token m_value m_letters m_code m_place m_outputLength m_s m_parsed m_tried m_remembered m_slots m_kept m_away m_input g6 m_output)) dX12_goHalfway_60 9 0 rfl rfl hg6 rfl 61 rfl ?_
        refine v_iinc X (lv' := [(2, .int (v2 + 1)), (0, .ref (ad 0)), (1, .int v1)]) dX12_goHalfway_61 2 rfl ic_1 (by decide) rfl 64 rfl ?_
        refine v_goto X (tgt := 14) dX12_goHalfway_64 rfl ?_
        refine v_sub (lv' := [(0, .ref (ad 0)), (1, .int v1), (2, .int (v2 + 1))]) [1, 2, 0] rfl ?_
        exact ih g6 (v2 + 1) hf
set_option maxRecDepth 100000 in
set_option maxHeartbeats 4000000 in
theorem l_X12_goHalfway_L2 (l : Launch) {G : (Nat → Prop) → State → Heap → Prop} (hG : vG G) (D : va_G) (c9 : Nat → ClassId) (ad : Nat → Nat) (m_undoable : Int32) (m_undoStart : Int32) (m_thrown : Int32) (m_inputLength : Int32) (m_position : Int32) (m_start : Int32) (m_token : Int32) (m_value : Int32) (m_letters : Int32) (m_code : Int32) (m_place : Int32) (m_outputLength : Int32) (m_s : Nat → Int32) (m_parsed : Nat → Int32) (m_tried : Nat → Int32) (m_remembered : Nat → Int32) (m_slots : Nat → Int32) (m_kept : Nat → Int32) (m_away : Nat → Int32) (m_input : Nat → Int32) (m_output : Nat → Int32) {p : Program} {e : Env} {s : State} {m : MethodId} {args : Array Value} {below : List Frame} {meth : Method} {c : Code} {A : Nat → Prop} {F : va_W} (X : vX p s m args meth c cX12_goHalfway 4 none RX12 (wq yX12_goHalfway cX12_goHalfway 4 none) D (tyA c9) G A) {Q : State → Prop} (o : (Nat → Int32)) (K : vW p l e { frames := 1, cells := 0, slots := 0, locals := 22 } s m args below meth c 4 D A F 0 0 Q (wX12 ad c9 m_undoable m_undoStart m_thrown m_inputLength m_position m_start m_token m_value m_letters m_code m_place m_outputLength m_s m_parsed m_tried m_remembered m_slots m_kept m_away m_input o m_output) 73 [(0, .ref (ad 0))] []) :
    ∀ (n : Nat) (m_halfway : Nat → Int32) (v1 : Int32), f_X12_goHalfway_L2 m_s n m_halfway v1 = some o → vW p l e { frames := 1, cells := 0, slots := 0, locals := 22 } s m args below meth c 4 D A F 0 0 Q (wX12 ad c9 m_undoable m_undoStart m_thrown m_inputLength m_position m_start m_token m_value m_letters m_code m_place m_outputLength m_s m_parsed m_tried m_remembered m_slots m_kept m_away m_input m_halfway m_output) 2 [(0, .ref (ad 0)), (1, .int v1)] [] := by
  intro n
  induction n with
  | zero =>
    intro m_halfway v1 hf
    rw [f_X12_goHalfway_L2] at hf
    cases hf
  | succ n ih =>
    intro m_halfway v1 hf
    rw [f_X12_goHalfway_L2] at hf
    refine v_iload_n X dX12_goHalfway_2 1 rfl rfl 3 rfl ?_
    refine v_aload_n X dX12_goHalfway_3 0 rfl rfl 4 rfl ?_
    refine v_get X (C := RX12) (T := TX12) (N := 22) (ci := 11) (v := _) dX12_goHalfway_4 (lay_of laym_X12) 0 rfl rfl 0 (by decide) (mw wm_304) rfl rfl 7 rfl ?_
    refine v_iconst X dX12_goHalfway_7 ic_3 8 rfl ?_
    obtain ⟨x1, hx1, hf⟩ := bnd hf
    refine v_iald X dX12_goHalfway_8 1 0 rfl rfl hx1 9 rfl ?_
    refine v_icmp_ge X (tgt := 73) dX12_goHalfway_9 rfl 12 rfl hf (fun hf => ?_) (fun hf => ?_)
    · obtain rfl := Option.some.inj hf
      refine v_sub (lv' := [(0, .ref (ad 0))]) [0] rfl ?_
      exact K
    · refine v_iconst X dX12_goHalfway_12 ic_0 13 rfl ?_
      refine v_istore_n X (lv' := [(2, .int 0), (0, .ref (ad 0)), (1, .int v1)]) dX12_goHalfway_13 rfl (by decide) rfl 14 rfl ?_
      obtain ⟨o7, ho7, hf⟩ := bnd hf
      refine v_sub (lv' := [(0, .ref (ad 0)), (1, .int v1), (2, .int 0)]) [1, 2, 0] rfl ?_
      refine l_X12_goHalfway_L14 l hG D c9 ad m_undoable m_undoStart m_thrown m_inputLength m_position m_start m_token m_value m_letters m_code m_place m_outputLength m_s m_parsed m_tried m_remembered m_slots m_kept m_away m_input m_output v1 X o7 ?_ 5000 m_halfway 0 ho7
      refine v_iinc X (lv' := [(1, .int (v1 + 1)), (0, .ref (ad 0))]) dX12_goHalfway_67 1 rfl ic_1 (by decide) rfl 70 rfl ?_
      refine v_goto X (tgt := 2) dX12_goHalfway_70 rfl ?_
      refine v_sub (lv' := [(0, .ref (ad 0)), (1, .int (v1 + 1))]) [1, 0] rfl ?_
      exact ih o7 (v1 + 1) hf
set_option maxRecDepth 100000 in
set_option maxHeartbeats 4000000 in
theorem l_X12_goHalfway_L99 (l : Launch) {G : (Nat → Prop) → State → Heap → Prop} (hG : vG G) (D : va_G) (c9 : Nat → ClassId) (ad : Nat → Nat) (m_undoable : Int32) (m_undoStart : Int32) (m_thrown : Int32) (m_inputLength : Int32) (m_position : Int32) (m_start : Int32) (m_token : Int32) (m_value : Int32) (m_letters : Int32) (m_code : Int32) (m_place : Int32) (m_outputLength : Int32) (m_s : Nat → Int32) (m_parsed : Nat → Int32) (m_tried : Nat → Int32) (m_remembered : Nat → Int32) (m_slots : Nat → Int32) (m_kept : Nat → Int32) (m_away : Nat → Int32) (m_input : Nat → Int32) (m_output : Nat → Int32) (v1 : Int32) (v2 : Int32) {p : Program} {e : Env} {s : State} {m : MethodId} {args : Array Value} {below : List Frame} {meth : Method} {c : Code} {A : Nat → Prop} {F : va_W} (X : vX p s m args meth c cX12_goHalfway 4 none RX12 (wq yX12_goHalfway cX12_goHalfway 4 none) D (tyA c9) G A) {Q : State → Prop} (o : (Nat → Int32)) (K : vW p l e { frames := 1, cells := 0, slots := 0, locals := 22 } s m args below meth c 4 D A F 0 0 Q (wX12 ad c9 m_undoable m_undoStart m_thrown m_inputLength m_position m_start m_token m_value m_letters m_code m_place m_outputLength m_s m_parsed m_tried m_remembered m_slots m_kept m_away m_input o m_output) 159 [(0, .ref (ad 0)), (1, .int v1), (2, .int v2)] []) :
    ∀ (n : Nat) (m_halfway : Nat → Int32) (v3 : Int32), f_X12_goHalfway_L99 m_s v1 v2 n m_halfway v3 = some o → vW p l e { frames := 1, cells := 0, slots := 0, locals := 22 } s m args below meth c 4 D A F 0 0 Q (wX12 ad c9 m_undoable m_undoStart m_thrown m_inputLength m_position m_start m_token m_value m_letters m_code m_place m_outputLength m_s m_parsed m_tried m_remembered m_slots m_kept m_away m_input m_halfway m_output) 99 [(0, .ref (ad 0)), (1, .int v1), (2, .int v2), (3, .int v3)] [] := by
  intro n
  induction n with
  | zero =>
    intro m_halfway v3 hf
    rw [f_X12_goHalfway_L99] at hf
    cases hf
  | succ n ih =>
    intro m_halfway v3 hf
    rw [f_X12_goHalfway_L99] at hf
    refine v_iload_n X dX12_goHalfway_99 3 rfl rfl 100 rfl ?_
    refine v_aload_n X dX12_goHalfway_100 0 rfl rfl 101 rfl ?_
    refine v_get X (C := RX12) (T := TX12) (N := 22) (ci := 11) (v := _) dX12_goHalfway_101 (lay_of laym_X12) 0 rfl rfl 0 (by decide) (mw wm_304) rfl rfl 104 rfl ?_
    refine v_iconst X dX12_goHalfway_104 ic_3 105 rfl ?_
    obtain ⟨x11, hx11, hf⟩ := bnd hf
    refine v_iald X dX12_goHalfway_105 1 0 rfl rfl hx11 106 rfl ?_
    refine v_icmp_ge X (tgt := 159) dX12_goHalfway_106 rfl 109 rfl hf (fun hf => ?_) (fun hf => ?_)
    · obtain rfl := Option.some.inj hf
      refine v_sub (lv' := [(0, .ref (ad 0)), (1, .int v1), (2, .int v2)]) [0, 1, 2] rfl ?_
      exact K
    · refine v_aload_n X dX12_goHalfway_109 0 rfl rfl 110 rfl ?_
      refine v_get X (C := RX12) (T := TX12) (N := 22) (ci := 11) (v := _) dX12_goHalfway_110 (lay_of laym_X12) 0 rfl rfl 19 (by decide) (mw wm_350) rfl rfl 113 rfl ?_
      refine v_iconst X dX12_goHalfway_113 ic_5 114 rfl ?_
      refine v_iload_n X dX12_goHalfway_114 2 rfl rfl 115 rfl ?_
      refine v_imul X dX12_goHalfway_115 116 rfl ?_
      refine v_iload_n X dX12_goHalfway_116 3 rfl rfl 117 rfl ?_
      refine v_iadd X dX12_goHalfway_117 118 rfl ?_
      refine v_aload_n X dX12_goHalfway_118 0 rfl rfl 119 rfl ?_
      refine v_get X (C := RX12) (T := TX12) (N := 22) (ci := 11) (v := _) dX12_goHalfway_119 (lay_of laym_X12) 0 rfl rfl 19 (by decide) (mw wm_350) rfl rfl 122 rfl ?_
      refine v_iconst X dX12_goHalfway_122 ic_5 123 rfl ?_
      refine v_iload_n X dX12_goHalfway_123 2 rfl rfl 124 rfl ?_
      refine v_imul X dX12_goHalfway_124 125 rfl ?_
      refine v_iload_n X dX12_goHalfway_125 3 rfl rfl 126 rfl ?_
      refine v_iadd X dX12_goHalfway_126 127 rfl ?_
      obtain ⟨x12, hx12, hf⟩ := bnd hf
      refine v_iald X dX12_goHalfway_127 9 0 rfl rfl hx12 128 rfl ?_
      refine v_aload_n X dX12_goHalfway_128 0 rfl rfl 129 rfl ?_
      refine v_get X (C := RX12) (T := TX12) (N := 22) (ci := 11) (v := _) dX12_goHalfway_129 (lay_of laym_X12) 0 rfl rfl 19 (by decide) (mw wm_350) rfl rfl 132 rfl ?_
      refine v_iconst X dX12_goHalfway_132 ic_5 133 rfl ?_
      refine v_iload_n X dX12_goHalfway_133 2 rfl rfl 134 rfl ?_
      refine v_imul X dX12_goHalfway_134 135 rfl ?_
      refine v_iload_n X dX12_goHalfway_135 1 rfl rfl 136 rfl ?_
      refine v_iadd X dX12_goHalfway_136 137 rfl ?_
      obtain ⟨x13, hx13, hf⟩ := bnd hf
      refine v_iald X dX12_goHalfway_137 9 0 rfl rfl hx13 138 rfl ?_
      refine v_aload_n X dX12_goHalfway_138 0 rfl rfl 139 rfl ?_
      refine v_get X (C := RX12) (T := TX12) (N := 22) (ci := 11) (v := _) dX12_goHalfway_139 (lay_of laym_X12) 0 rfl rfl 19 (by decide) (mw wm_350) rfl rfl 142 rfl ?_
      refine v_iconst X dX12_goHalfway_142 ic_5 143 rfl ?_
      refine v_iload_n X dX12_goHalfway_143 1 rfl rfl 144 rfl ?_
      refine v_imul X dX12_goHalfway_144 145 rfl ?_
      refine v_iload_n X dX12_goHalfway_145 3 rfl rfl 146 rfl ?_
      refine v_iadd X dX12_goHalfway_146 147 rfl ?_
      obtain ⟨x14, hx14, hf⟩ := bnd hf
      refine v_iald X dX12_goHalfway_147 9 0 rfl rfl hx14 148 rfl ?_
      refine v_iadd X dX12_goHalfway_148 149 rfl ?_
      obtain ⟨o15, ho15, hf⟩ := bnd hf
      refine v_callSi X (As := [.int x12, .int (x13 + x14)]) (rest := [.int ((5 * v2) + v3), .ref (ad 9)]) (ws' := (wX12 ad c9 m_undoable m_undoStart m_thrown m_inputLength m_position m_start m_token m_value m_letters m_code m_place m_outputLength m_s m_parsed m_tried m_remembered m_slots m_kept m_away m_input m_halfway m_output)) (c_X12_lesser l hG D c9 x12 (x13 + x14) ho15) 2 (gS wm_39 wm_40 wm_37 wm_41) rfl rfl rfl pd_X12_lesser ⟨Nat.le_of_ble_eq_true rfl, Nat.le_of_ble_eq_true rfl⟩ rfl rfl (Nat.le_of_ble_eq_true rfl) ⟨Nat.zero_le _, Nat.zero_le _⟩ [] [0, 1, 2, 3, 4, 5, 6, 7, 8, 9, 10] [0, 1, 2, 3, 4, 5, 6, 7, 8, 9, 10] rfl rfl rfl rfl dX12_goHalfway_149 152 rfl ?_
      obtain ⟨g16, hg16, hf⟩ := bnd hf
      refine v_iast X (ws' := (wX12 ad c9 m_undoable m_undoStart m_thrown m_inputLength m_position m_start m_token m_value m_letters m_code m_place m_outputLength m_s m_parsed m_tried m_remembered m_slots m_kept m_away m_input g16 m_output)) dX12_goHalfway_152 9 0 rfl rfl hg16 rfl 153 rfl ?_
      refine v_iinc X (lv' := [(3, .int (v3 + 1)), (0, .ref (ad 0)), (1, .int v1), (2, .int v2)]) dX12_goHalfway_153 3 rfl ic_1 (by decide) rfl 156 rfl ?_
      refine v_goto X (tgt := 99) dX12_goHalfway_156 rfl ?_
      refine v_sub (lv' := [(0, .ref (ad 0)), (1, .int v1), (2, .int v2), (3, .int (v3 + 1))]) [1, 2, 3, 0] rfl ?_
      exact ih g16 (v3 + 1) hf
set_option maxRecDepth 100000 in
set_option maxHeartbeats 4000000 in
theorem l_X12_goHalfway_L87 (l : Launch) {G : (Nat → Prop) → State → Heap → Prop} (hG : vG G) (D : va_G) (c9 : Nat → ClassId) (ad : Nat → Nat) (m_undoable : Int32) (m_undoStart : Int32) (m_thrown : Int32) (m_inputLength : Int32) (m_position : Int32) (m_start : Int32) (m_token : Int32) (m_value : Int32) (m_letters : Int32) (m_code : Int32) (m_place : Int32) (m_outputLength : Int32) (m_s : Nat → Int32) (m_parsed : Nat → Int32) (m_tried : Nat → Int32) (m_remembered : Nat → Int32) (m_slots : Nat → Int32) (m_kept : Nat → Int32) (m_away : Nat → Int32) (m_input : Nat → Int32) (m_output : Nat → Int32) (v1 : Int32) {p : Program} {e : Env} {s : State} {m : MethodId} {args : Array Value} {below : List Frame} {meth : Method} {c : Code} {A : Nat → Prop} {F : va_W} (X : vX p s m args meth c cX12_goHalfway 4 none RX12 (wq yX12_goHalfway cX12_goHalfway 4 none) D (tyA c9) G A) {Q : State → Prop} (o : (Nat → Int32)) (K : vW p l e { frames := 1, cells := 0, slots := 0, locals := 22 } s m args below meth c 4 D A F 0 0 Q (wX12 ad c9 m_undoable m_undoStart m_thrown m_inputLength m_position m_start m_token m_value m_letters m_code m_place m_outputLength m_s m_parsed m_tried m_remembered m_slots m_kept m_away m_input o m_output) 165 [(0, .ref (ad 0)), (1, .int v1)] []) :
    ∀ (n : Nat) (m_halfway : Nat → Int32) (v2 : Int32), f_X12_goHalfway_L87 m_s v1 n m_halfway v2 = some o → vW p l e { frames := 1, cells := 0, slots := 0, locals := 22 } s m args below meth c 4 D A F 0 0 Q (wX12 ad c9 m_undoable m_undoStart m_thrown m_inputLength m_position m_start m_token m_value m_letters m_code m_place m_outputLength m_s m_parsed m_tried m_remembered m_slots m_kept m_away m_input m_halfway m_output) 87 [(0, .ref (ad 0)), (1, .int v1), (2, .int v2)] [] := by
  intro n
  induction n with
  | zero =>
    intro m_halfway v2 hf
    rw [f_X12_goHalfway_L87] at hf
    cases hf
  | succ n ih =>
    intro m_halfway v2 hf
    rw [f_X12_goHalfway_L87] at hf
    refine v_iload_n X dX12_goHalfway_87 2 rfl rfl 88 rfl ?_
    refine v_aload_n X dX12_goHalfway_88 0 rfl rfl 89 rfl ?_
    refine v_get X (C := RX12) (T := TX12) (N := 22) (ci := 11) (v := _) dX12_goHalfway_89 (lay_of laym_X12) 0 rfl rfl 0 (by decide) (mw wm_304) rfl rfl 92 rfl ?_
    refine v_iconst X dX12_goHalfway_92 ic_3 93 rfl ?_
    obtain ⟨x10, hx10, hf⟩ := bnd hf
    refine v_iald X dX12_goHalfway_93 1 0 rfl rfl hx10 94 rfl ?_
    refine v_icmp_ge X (tgt := 165) dX12_goHalfway_94 rfl 97 rfl hf (fun hf => ?_) (fun hf => ?_)
    · obtain rfl := Option.some.inj hf
      refine v_sub (lv' := [(0, .ref (ad 0)), (1, .int v1)]) [0, 1] rfl ?_
      exact K
    · refine v_iconst X dX12_goHalfway_97 ic_0 98 rfl ?_
      refine v_istore_n X (lv' := [(3, .int 0), (0, .ref (ad 0)), (1, .int v1), (2, .int v2)]) dX12_goHalfway_98 rfl (by decide) rfl 99 rfl ?_
      obtain ⟨o17, ho17, hf⟩ := bnd hf
      refine v_sub (lv' := [(0, .ref (ad 0)), (1, .int v1), (2, .int v2), (3, .int 0)]) [1, 2, 3, 0] rfl ?_
      refine l_X12_goHalfway_L99 l hG D c9 ad m_undoable m_undoStart m_thrown m_inputLength m_position m_start m_token m_value m_letters m_code m_place m_outputLength m_s m_parsed m_tried m_remembered m_slots m_kept m_away m_input m_output v1 v2 X o17 ?_ 5000 m_halfway 0 ho17
      refine v_iinc X (lv' := [(2, .int (v2 + 1)), (0, .ref (ad 0)), (1, .int v1)]) dX12_goHalfway_159 2 rfl ic_1 (by decide) rfl 162 rfl ?_
      refine v_goto X (tgt := 87) dX12_goHalfway_162 rfl ?_
      refine v_sub (lv' := [(0, .ref (ad 0)), (1, .int v1), (2, .int (v2 + 1))]) [1, 2, 0] rfl ?_
      exact ih o17 (v2 + 1) hf
set_option maxRecDepth 100000 in
set_option maxHeartbeats 4000000 in
theorem l_X12_goHalfway_L75 (l : Launch) {G : (Nat → Prop) → State → Heap → Prop} (hG : vG G) (D : va_G) (c9 : Nat → ClassId) (ad : Nat → Nat) (m_undoable : Int32) (m_undoStart : Int32) (m_thrown : Int32) (m_inputLength : Int32) (m_position : Int32) (m_start : Int32) (m_token : Int32) (m_value : Int32) (m_letters : Int32) (m_code : Int32) (m_place : Int32) (m_outputLength : Int32) (m_s : Nat → Int32) (m_parsed : Nat → Int32) (m_tried : Nat → Int32) (m_remembered : Nat → Int32) (m_slots : Nat → Int32) (m_kept : Nat → Int32) (m_away : Nat → Int32) (m_input : Nat → Int32) (m_output : Nat → Int32) {p : Program} {e : Env} {s : State} {m : MethodId} {args : Array Value} {below : List Frame} {meth : Method} {c : Code} {A : Nat → Prop} {F : va_W} (X : vX p s m args meth c cX12_goHalfway 4 none RX12 (wq yX12_goHalfway cX12_goHalfway 4 none) D (tyA c9) G A) {Q : State → Prop} (o : (Nat → Int32)) (K : vW p l e { frames := 1, cells := 0, slots := 0, locals := 22 } s m args below meth c 4 D A F 0 0 Q (wX12 ad c9 m_undoable m_undoStart m_thrown m_inputLength m_position m_start m_token m_value m_letters m_code m_place m_outputLength m_s m_parsed m_tried m_remembered m_slots m_kept m_away m_input o m_output) 171 [] []) :
    ∀ (n : Nat) (m_halfway : Nat → Int32) (v1 : Int32), f_X12_goHalfway_L75 m_s n m_halfway v1 = some o → vW p l e { frames := 1, cells := 0, slots := 0, locals := 22 } s m args below meth c 4 D A F 0 0 Q (wX12 ad c9 m_undoable m_undoStart m_thrown m_inputLength m_position m_start m_token m_value m_letters m_code m_place m_outputLength m_s m_parsed m_tried m_remembered m_slots m_kept m_away m_input m_halfway m_output) 75 [(0, .ref (ad 0)), (1, .int v1)] [] := by
  intro n
  induction n with
  | zero =>
    intro m_halfway v1 hf
    rw [f_X12_goHalfway_L75] at hf
    cases hf
  | succ n ih =>
    intro m_halfway v1 hf
    rw [f_X12_goHalfway_L75] at hf
    refine v_iload_n X dX12_goHalfway_75 1 rfl rfl 76 rfl ?_
    refine v_aload_n X dX12_goHalfway_76 0 rfl rfl 77 rfl ?_
    refine v_get X (C := RX12) (T := TX12) (N := 22) (ci := 11) (v := _) dX12_goHalfway_77 (lay_of laym_X12) 0 rfl rfl 0 (by decide) (mw wm_304) rfl rfl 80 rfl ?_
    refine v_iconst X dX12_goHalfway_80 ic_3 81 rfl ?_
    obtain ⟨x9, hx9, hf⟩ := bnd hf
    refine v_iald X dX12_goHalfway_81 1 0 rfl rfl hx9 82 rfl ?_
    refine v_icmp_ge X (tgt := 171) dX12_goHalfway_82 rfl 85 rfl hf (fun hf => ?_) (fun hf => ?_)
    · obtain rfl := Option.some.inj hf
      refine v_sub (lv' := []) [] rfl ?_
      exact K
    · refine v_iconst X dX12_goHalfway_85 ic_0 86 rfl ?_
      refine v_istore_n X (lv' := [(2, .int 0), (0, .ref (ad 0)), (1, .int v1)]) dX12_goHalfway_86 rfl (by decide) rfl 87 rfl ?_
      obtain ⟨o18, ho18, hf⟩ := bnd hf
      refine v_sub (lv' := [(0, .ref (ad 0)), (1, .int v1), (2, .int 0)]) [1, 2, 0] rfl ?_
      refine l_X12_goHalfway_L87 l hG D c9 ad m_undoable m_undoStart m_thrown m_inputLength m_position m_start m_token m_value m_letters m_code m_place m_outputLength m_s m_parsed m_tried m_remembered m_slots m_kept m_away m_input m_output v1 X o18 ?_ 5000 m_halfway 0 ho18
      refine v_iinc X (lv' := [(1, .int (v1 + 1)), (0, .ref (ad 0))]) dX12_goHalfway_165 1 rfl ic_1 (by decide) rfl 168 rfl ?_
      refine v_goto X (tgt := 75) dX12_goHalfway_168 rfl ?_
      refine v_sub (lv' := [(0, .ref (ad 0)), (1, .int (v1 + 1))]) [1, 0] rfl ?_
      exact ih o18 (v1 + 1) hf
set_option maxRecDepth 100000 in
set_option maxHeartbeats 4000000 in
theorem c_X12_goHalfway (l : Launch) {G : (Nat → Prop) → State → Heap → Prop} (hG : vG G) (D : va_G) (c9 : Nat → ClassId) (ad : Nat → Nat) (m_undoable : Int32) (m_undoStart : Int32) (m_thrown : Int32) (m_inputLength : Int32) (m_position : Int32) (m_start : Int32) (m_token : Int32) (m_value : Int32) (m_letters : Int32) (m_code : Int32) (m_place : Int32) (m_outputLength : Int32) (m_s : Nat → Int32) (m_parsed : Nat → Int32) (m_tried : Nat → Int32) (m_remembered : Nat → Int32) (m_slots : Nat → Int32) (m_kept : Nat → Int32) (m_away : Nat → Int32) (m_input : Nat → Int32) (m_halfway : Nat → Int32) (m_output : Nat → Int32)  {o : (Nat → Int32)} (hf : f_X12_goHalfway m_s m_halfway = some o) : mV l yX12_goHalfway (wq yX12_goHalfway cX12_goHalfway 4 none) { frames := 1, cells := 0, slots := 0, locals := 22 } G D (tyA c9) [.ref (ad 0)] (wX12 ad c9 m_undoable m_undoStart m_thrown m_inputLength m_position m_start m_token m_value m_letters m_code m_place m_outputLength m_s m_parsed m_tried m_remembered m_slots m_kept m_away m_input m_halfway m_output) [] 0 0 (wX12 ad c9 m_undoable m_undoStart m_thrown m_inputLength m_position m_start m_token m_value m_letters m_code m_place m_outputLength m_s m_parsed m_tried m_remembered m_slots m_kept m_away m_input o m_output) := by
  refine mV_of hG (cc := cX12_goHalfway) (maxL := 4) (by decide) rfl (Nat.le_of_ble_eq_true rfl) ?_
  intro p e s m args below meth c A hnm X
  have X : vX p s m args meth c cX12_goHalfway 4 none RX12 (wq yX12_goHalfway cX12_goHalfway 4 none) D (tyA c9) G A := X
  refine v_eq (lv2 := [(0, .ref (ad 0))]) rfl rfl rfl rfl ?_
  rw [f_X12_goHalfway] at hf
  refine v_iconst X dX12_goHalfway_0 ic_0 1 rfl ?_
  refine v_istore_n X (lv' := [(1, .int 0), (0, .ref (ad 0))]) dX12_goHalfway_1 rfl (by decide) rfl 2 rfl ?_
  obtain ⟨o8, ho8, hf⟩ := bnd hf
  refine v_sub (lv' := [(0, .ref (ad 0)), (1, .int 0)]) [1, 0] rfl ?_
  refine l_X12_goHalfway_L2 l hG D c9 ad m_undoable m_undoStart m_thrown m_inputLength m_position m_start m_token m_value m_letters m_code m_place m_outputLength m_s m_parsed m_tried m_remembered m_slots m_kept m_away m_input m_output X o8 ?_ 5000 m_halfway 0 ho8
  refine v_iconst X dX12_goHalfway_73 ic_0 74 rfl ?_
  refine v_istore_n X (lv' := [(1, .int 0), (0, .ref (ad 0))]) dX12_goHalfway_74 rfl (by decide) rfl 75 rfl ?_
  obtain ⟨o19, ho19, hf⟩ := bnd hf
  refine v_sub (lv' := [(0, .ref (ad 0)), (1, .int 0)]) [1, 0] rfl ?_
  refine l_X12_goHalfway_L75 l hG D c9 ad m_undoable m_undoStart m_thrown m_inputLength m_position m_start m_token m_value m_letters m_code m_place m_outputLength m_s m_parsed m_tried m_remembered m_slots m_kept m_away m_input m_output X o19 ?_ 5000 o8 0 ho19
  obtain rfl := Option.some.inj hf
  exact v_vret X (Nat.zero_le _) (Nat.zero_le _) dX12_goHalfway_171
theorem pd_X12_goHalfway : yX12_goHalfway.cls ≠ "java/lang/invoke/MethodHandle" ∧ yX12_goHalfway.cls ≠ "java/lang/invoke/VarHandle" ∧ (parseMethodDescriptor yX12_goHalfway.desc).map (fun d => d.parameters.length) = some 0 := by decide +kernel
