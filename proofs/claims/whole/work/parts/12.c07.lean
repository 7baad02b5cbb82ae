theorem k_X1_readPass_w1 : ∀ w ∈ u_ws RX1 TX1 8, w ∈ wsX1_readPass := in_r _ [87, 88, 89, 90, 91, 92, 93, 94] rfl
theorem k_X1_readPass_1 : Cond.fieldLink RX1 12 "TicketGate$Parser" "draft" "LTicketGate$State;" ∈ wsX1_readPass := List.mem_of_getElem? (i := 1) rfl
def f_X1_readPass (p_start : Int32) (p_end : Int32) (p_kind : Int32) (p_value : Int32) (p_error : Int32) (p_errorAt : Int32) (p_t_count : Int32) (p_t_cells : Nat → Int32) (p_d_time : Int32) (p_d_tolerance : Int32) (p_d_E_rows : Int32) (p_d_E_cells : Nat → Int32) : Option (Int32 × Int32 × Int32 × Int32 × Int32 × Int32 × Int32 × Int32 × (Nat → Int32)) :=
  (f_X1_take p_start p_end p_kind p_value p_error p_t_count p_t_cells).bind fun o1 =>
  (f_X1_number o1.2.1 o1.2.2.1 o1.2.2.2.1 o1.2.2.2.2 p_error p_errorAt p_t_count p_t_cells 0 999).bind fun o2 =>
  (f_X1_semicolon o2.2.1 o2.2.2.1 o2.2.2.2.1 o2.2.2.2.2.1 o2.2.2.2.2.2.1 o2.2.2.2.2.2.2 p_t_count p_t_cells 1).bind fun o3 =>
  if o3.1 = 0 then (
    some (o3.2.1, o3.2.2.1, o3.2.2.2.1, o3.2.2.2.2.1, o3.2.2.2.2.2.1, o3.2.2.2.2.2.2, p_d_time, p_d_E_rows, p_d_E_cells))
  else (
    (f_X5_letPass p_d_time p_d_tolerance p_d_E_rows p_d_E_cells o2.1).bind fun o4 =>
    some (o3.2.1, o3.2.2.1, o3.2.2.2.1, o3.2.2.2.2.1, o3.2.2.2.2.2.1, o3.2.2.2.2.2.2, o4.1, o4.2.1, o4.2.2))
set_option maxRecDepth 100000 in
set_option maxHeartbeats 4000000 in
theorem c_X1_readPass (l : Launch) {G : (Nat → Prop) → State → Heap → Prop} (hG : vG G) (D : va_G) (c9 : Nat → ClassId) (ad : Nat → Nat) (p_start : Int32) (p_end : Int32) (p_kind : Int32) (p_value : Int32) (p_error : Int32) (p_errorAt : Int32) (p_t_count : Int32) (p_t_cells : Nat → Int32) (p_d_time : Int32) (p_d_tolerance : Int32) (p_d_seed : Int32) (p_d_madeTickets : Int32) (p_d_cheesesOfText : Int32) (p_d_R_rows : Int32) (p_d_R_cells : Nat → Int32) (p_d_U_rows : Int32) (p_d_U_cells : Nat → Int32) (p_d_S_rows : Int32) (p_d_S_cells : Nat → Int32) (p_d_T_rows : Int32) (p_d_T_cells : Nat → Int32) (p_d_E_rows : Int32) (p_d_E_cells : Nat → Int32)  {o : Int32 × Int32 × Int32 × Int32 × Int32 × Int32 × Int32 × Int32 × (Nat → Int32)} (hf : f_X1_readPass p_start p_end p_kind p_value p_error p_errorAt p_t_count p_t_cells p_d_time p_d_tolerance p_d_E_rows p_d_E_cells = some o) : mV l yX1_readPass wsX1_readPass { frames := 4, cells := 0, slots := 0, locals := 108 } G D (tyA c9) [.ref (ad 0)] (wX1 ad c9 p_start p_end p_kind p_value p_error p_errorAt p_t_count p_t_cells p_d_time p_d_tolerance p_d_seed p_d_madeTickets p_d_cheesesOfText p_d_R_rows p_d_R_cells p_d_U_rows p_d_U_cells p_d_S_rows p_d_S_cells p_d_T_rows p_d_T_cells p_d_E_rows p_d_E_cells) [] 0 0 (wX1 ad c9 o.1 o.2.1 o.2.2.1 o.2.2.2.1 o.2.2.2.2.1 o.2.2.2.2.2.1 p_t_count p_t_cells o.2.2.2.2.2.2.1 p_d_tolerance p_d_seed p_d_madeTickets p_d_cheesesOfText p_d_R_rows p_d_R_cells p_d_U_rows p_d_U_cells p_d_S_rows p_d_S_cells p_d_T_rows p_d_T_cells o.2.2.2.2.2.2.2.1 o.2.2.2.2.2.2.2.2) := by
  refine mV_of hG (cc := cX1_readPass) (maxL := 2) (by decide) rfl (Nat.le_of_ble_eq_true rfl) ?_
  intro p e s m args below meth c A hnm X
  have X : vX p s m args meth c cX1_readPass 2 none RX1 wsX1_readPass D (tyA c9) G A := X
  refine v_eq (lv2 := [(0, .ref (ad 0))]) rfl rfl rfl rfl ?_
  rw [f_X1_readPass] at hf
  refine v_aload_n X dX1_readPass_0 0 rfl rfl 1 rfl ?_
  obtain ⟨o1, ho1, hf⟩ := bnd hf
  refine v_callVi X (ci := 1) (T := TX1) (C := RX1) (As := []) (rest := []) (ws' := (wX1 ad c9 o1.2.1 o1.2.2.1 o1.2.2.2.1 o1.2.2.2.2 p_error p_errorAt p_t_count p_t_cells p_d_time p_d_tolerance p_d_seed p_d_madeTickets p_d_cheesesOfText p_d_R_rows p_d_R_cells p_d_U_rows p_d_U_cells p_d_S_rows p_d_S_cells p_d_T_rows p_d_T_cells p_d_E_rows p_d_E_cells)) (c_X1_take l hG D c9 ad p_start p_end p_kind p_value p_error p_errorAt p_t_count p_t_cells p_d_time p_d_tolerance p_d_seed p_d_madeTickets p_d_cheesesOfText p_d_R_rows p_d_R_cells p_d_U_rows p_d_U_cells p_d_S_rows p_d_S_cells p_d_T_rows p_d_T_cells p_d_E_rows p_d_E_cells ho1) 0 gX1_readPass_X1_take rfl rfl rfl ⟨rfl, pd_X1_take⟩ ⟨Nat.le_of_ble_eq_true rfl, Nat.le_of_ble_eq_true rfl⟩ 0 rfl rfl rfl rfl (Nat.le_of_ble_eq_true rfl) ⟨Nat.zero_le _, Nat.zero_le _⟩ [0, 1, 2, 3, 4, 5, 6, 7, 8, 9, 10, 11, 12, 13] [] [0, 1, 2, 3, 4, 5, 6, 7, 8, 9, 10, 11, 12, 13] rfl rfl rfl rfl dX1_readPass_1 4 rfl ?_
  refine v_pop X dX1_readPass_4 rfl 5 rfl ?_
  refine v_aload_n X dX1_readPass_5 0 rfl rfl 6 rfl ?_
  refine v_iconst X dX1_readPass_6 ic_0 7 rfl ?_
  refine v_sipush X dX1_readPass_7 sp_999 10 rfl ?_
  obtain ⟨o2, ho2, hf⟩ := bnd hf
  refine v_callVi X (ci := 1) (T := TX1) (C := RX1) (As := [.int 0, .int 999]) (rest := []) (ws' := (wX1 ad c9 o2.2.1 o2.2.2.1 o2.2.2.2.1 o2.2.2.2.2.1 o2.2.2.2.2.2.1 o2.2.2.2.2.2.2 p_t_count p_t_cells p_d_time p_d_tolerance p_d_seed p_d_madeTickets p_d_cheesesOfText p_d_R_rows p_d_R_cells p_d_U_rows p_d_U_cells p_d_S_rows p_d_S_cells p_d_T_rows p_d_T_cells p_d_E_rows p_d_E_cells)) (c_X1_number l hG D c9 ad o1.2.1 o1.2.2.1 o1.2.2.2.1 o1.2.2.2.2 p_error p_errorAt p_t_count p_t_cells p_d_time p_d_tolerance p_d_seed p_d_madeTickets p_d_cheesesOfText p_d_R_rows p_d_R_cells p_d_U_rows p_d_U_cells p_d_S_rows p_d_S_cells p_d_T_rows p_d_T_cells p_d_E_rows p_d_E_cells 0 999 ho2) 2 gX1_readPass_X1_number rfl rfl rfl ⟨rfl, pd_X1_number⟩ ⟨Nat.le_of_ble_eq_true rfl, Nat.le_of_ble_eq_true rfl⟩ 0 rfl rfl rfl rfl (Nat.le_of_ble_eq_true rfl) ⟨Nat.zero_le _, Nat.zero_le _⟩ [0, 1, 2, 3, 4, 5, 6, 7, 8, 9, 10, 11, 12, 13] [] [0, 1, 2, 3, 4, 5, 6, 7, 8, 9, 10, 11, 12, 13] rfl rfl rfl rfl dX1_readPass_10 13 rfl ?_
  refine v_istore_n X (lv' := [(1, .int o2.1), (0, .ref (ad 0))]) dX1_readPass_13 rfl (by decide) rfl 14 rfl ?_
  refine v_aload_n X dX1_readPass_14 1 rfl rfl 15 rfl ?_
  refine v_iconst X dX1_readPass_15 ic_1 16 rfl ?_
  obtain ⟨o3, ho3, hf⟩ := bnd hf
  refine v_callVi X (ci := 1) (T := TX1) (C := RX1) (As := [.int 1]) (rest := []) (ws' := (wX1 ad c9 o3.2.1 o3.2.2.1 o3.2.2.2.1 o3.2.2.2.2.1 o3.2.2.2.2.2.1 o3.2.2.2.2.2.2 p_t_count p_t_cells p_d_time p_d_tolerance p_d_seed p_d_madeTickets p_d_cheesesOfText p_d_R_rows p_d_R_cells p_d_U_rows p_d_U_cells p_d_S_rows p_d_S_cells p_d_T_rows p_d_T_cells p_d_E_rows p_d_E_cells)) (c_X1_semicolon l hG D c9 ad o2.2.1 o2.2.2.1 o2.2.2.2.1 o2.2.2.2.2.1 o2.2.2.2.2.2.1 o2.2.2.2.2.2.2 p_t_count p_t_cells p_d_time p_d_tolerance p_d_seed p_d_madeTickets p_d_cheesesOfText p_d_R_rows p_d_R_cells p_d_U_rows p_d_U_cells p_d_S_rows p_d_S_cells p_d_T_rows p_d_T_cells p_d_E_rows p_d_E_cells 1 ho3) 1 gX1_readPass_X1_semicolon rfl rfl rfl ⟨rfl, pd_X1_semicolon⟩ ⟨Nat.le_of_ble_eq_true rfl, Nat.le_of_ble_eq_true rfl⟩ 0 rfl rfl rfl rfl (Nat.le_of_ble_eq_true rfl) ⟨Nat.zero_le _, Nat.zero_le _⟩ [0, 1, 2, 3, 4, 5, 6, 7, 8, 9, 10, 11, 12, 13] [] [0, 1, 2, 3, 4, 5, 6, 7, 8, 9, 10, 11, 12, 13] rfl rfl rfl rfl dX1_readPass_16 19 rfl ?_
  refine v_if_eq X (tgt := 30) dX1_readPass_19 rfl 22 rfl hf (fun hf => ?_) (fun hf => ?_)
  · cases hf
    exact v_vret X (Nat.zero_le _) (Nat.zero_le _) dX1_readPass_30
  · refine v_aload_n X dX1_readPass_22 1 rfl rfl 23 rfl ?_
    refine v_get X (C := RX1) (T := TX1) (N := 8) (ci := 1) (v := _) dX1_readPass_23 k_X1_readPass_w1 0 rfl rfl 1 (by decide) k_X1_readPass_1 rfl rfl 26 rfl ?_
    refine v_iload_n X dX1_readPass_26 0 rfl rfl 27 rfl ?_
    obtain ⟨o4, ho4, hf⟩ := bnd hf
    refine v_callVv X (ci := 5) (T := TX5) (C := RX5) (As := [.int o2.1]) (rest := []) (ws' := (wX1 ad c9 o3.2.1 o3.2.2.1 o3.2.2.2.1 o3.2.2.2.2.1 o3.2.2.2.2.2.1 o3.2.2.2.2.2.2 p_t_count p_t_cells o4.1 p_d_tolerance p_d_seed p_d_madeTickets p_d_cheesesOfText p_d_R_rows p_d_R_cells p_d_U_rows p_d_U_cells p_d_S_rows p_d_S_cells p_d_T_rows p_d_T_cells o4.2.1 o4.2.2)) (c_X5_letPass l hG D c9 (fun k => ad ([3, 4, 5, 6, 7, 8, 9, 10, 11, 12, 13].getD k 0)) p_d_time p_d_tolerance p_d_seed p_d_madeTickets p_d_cheesesOfText p_d_R_rows p_d_R_cells p_d_U_rows p_d_U_cells p_d_S_rows p_d_S_cells p_d_T_rows p_d_T_cells p_d_E_rows p_d_E_cells o2.1 ho4) 1 gX1_readPass_X5_letPass rfl rfl rfl ⟨rfl, pd_X5_letPass⟩ ⟨Nat.le_of_ble_eq_true rfl, Nat.le_of_ble_eq_true rfl⟩ 3 rfl rfl rfl rfl (Nat.le_of_ble_eq_true rfl) ⟨Nat.zero_le _, Nat.zero_le _⟩ [3, 4, 5, 6, 7, 8, 9, 10, 11, 12, 13] [0, 1, 2] [0, 1, 2, 3, 4, 5, 6, 7, 8, 9, 10, 11, 12, 13] rfl rfl rfl rfl dX1_readPass_27 30 rfl ?_
    cases hf
    exact v_vret X (Nat.zero_le _) (Nat.zero_le _) dX1_readPass_30
theorem pd_X1_readPass : yX1_readPass.cls ≠ "java/lang/invoke/MethodHandle" ∧ yX1_readPass.cls ≠ "java/lang/invoke/VarHandle" ∧ (parseMethodDescriptor yX1_readPass.desc).map (fun d => d.parameters.length) = some 0 := by decide +kernel
theorem k_X1_knownName_users_w1 : ∀ w ∈ u_ws RX1 TX1 8, w ∈ wsX1_knownName := in_r _ [70, 71, 72, 73, 74, 75, 76, 77] rfl
theorem k_X1_knownName_users_1 : Cond.fieldLink RX1 151 "TicketGate$Parser" "value" "I" ∈ wsX1_knownName := List.mem_of_getElem? (i := 1) rfl
theorem pd_X6_rowWith_UX1_knownName_247 : "TicketGate$Table" ≠ "java/lang/invoke/MethodHandle" ∧ "TicketGate$Table" ≠ "java/lang/invoke/VarHandle" ∧ (parseMethodDescriptor "(II)I").map (fun d => d.parameters.length) = some 2 := by decide +kernel
theorem k_X1_knownName_users_2 : Cond.fieldLink RX1 43 "TicketGate$Parser" "kind" "I" ∈ wsX1_knownName := List.mem_of_getElem? (i := 2) rfl
def f_X1_knownName_users (p_start : Int32) (p_end : Int32) (p_kind : Int32) (p_value : Int32) (p_error : Int32) (p_errorAt : Int32) (p_t_count : Int32) (p_t_cells : Nat → Int32) (p_d_U_rows : Int32) (p_d_U_cells : Nat → Int32) (v2 : Int32) : Option (Int32 × Int32 × Int32 × Int32 × Int32 × Int32 × Int32) :=
  (f_X6_rowWith 30 5 p_d_U_rows p_d_U_cells v2 p_value).bind fun o1 =>
  Option.bind (if p_kind = 1 then (
    some (1))
  else (
    some (0)) : Option (Int32)) fun j2 =>
  (f_X1_require p_start p_error p_errorAt j2 1).bind fun o3 =>
  Option.bind (if o1 = (-1) then (
    some (0))
  else (
    some (1)) : Option (Int32)) fun j4 =>
  (f_X1_require p_start o3.1 o3.2 j4 4).bind fun o5 =>
  (f_X1_take p_start p_end p_kind p_value o5.1 p_t_count p_t_cells).bind fun o6 =>
  some (o1, o6.2.1, o6.2.2.1, o6.2.2.2.1, o6.2.2.2.2, o5.1, o5.2)
set_option maxRecDepth 100000 in
set_option maxHeartbeats 4000000 in
theorem c_X1_knownName_users (l : Launch) {G : (Nat → Prop) → State → Heap → Prop} (hG : vG G) (D : va_G) (c9 : Nat → ClassId) (ad : Nat → Nat) (p_start : Int32) (p_end : Int32) (p_kind : Int32) (p_value : Int32) (p_error : Int32) (p_errorAt : Int32) (p_t_count : Int32) (p_t_cells : Nat → Int32) (p_d_time : Int32) (p_d_tolerance : Int32) (p_d_seed : Int32) (p_d_madeTickets : Int32) (p_d_cheesesOfText : Int32) (p_d_R_rows : Int32) (p_d_R_cells : Nat → Int32) (p_d_U_rows : Int32) (p_d_U_cells : Nat → Int32) (p_d_S_rows : Int32) (p_d_S_cells : Nat → Int32) (p_d_T_rows : Int32) (p_d_T_cells : Nat → Int32) (p_d_E_rows : Int32) (p_d_E_cells : Nat → Int32) (v2 : Int32) {o : Int32 × Int32 × Int32 × Int32 × Int32 × Int32 × Int32} (hf : f_X1_knownName_users p_start p_end p_kind p_value p_error p_errorAt p_t_count p_t_cells p_d_U_rows p_d_U_cells v2 = some o) : mI l yX1_knownName wsX1_knownName { frames := 3, cells := 0, slots := 0, locals := 86 } G D (tyA c9) [.ref (ad 0), .ref (ad 6), .int v2] (wX1 ad c9 p_start p_end p_kind p_value p_error p_errorAt p_t_count p_t_cells p_d_time p_d_tolerance p_d_seed p_d_madeTickets p_d_cheesesOfText p_d_R_rows p_d_R_cells p_d_U_rows p_d_U_cells p_d_S_rows p_d_S_cells p_d_T_rows p_d_T_cells p_d_E_rows p_d_E_cells) [] 0 0 o.1 (wX1 ad c9 o.2.1 o.2.2.1 o.2.2.2.1 o.2.2.2.2.1 o.2.2.2.2.2.1 o.2.2.2.2.2.2 p_t_count p_t_cells p_d_time p_d_tolerance p_d_seed p_d_madeTickets p_d_cheesesOfText p_d_R_rows p_d_R_cells p_d_U_rows p_d_U_cells p_d_S_rows p_d_S_cells p_d_T_rows p_d_T_cells p_d_E_rows p_d_E_cells) := by
  refine mI_of hG (cc := cX1_knownName) (maxL := 4) (ty := .int) (by decide) rfl (Nat.le_of_ble_eq_true rfl) ?_
  intro p e s m args below meth c A X
  have X : vX p s m args meth c cX1_knownName 4 (some .int) RX1 wsX1_knownName D (tyA c9) G A := X
  refine v_eq (lv2 := [(0, .ref (ad 0)), (1, .ref (ad 6)), (2, .int v2)]) rfl rfl rfl rfl ?_
  rw [f_X1_knownName_users] at hf
  refine v_aload_n X dX1_knownName_0 1 rfl rfl 1 rfl ?_
  refine v_iload_n X dX1_knownName_1 2 rfl rfl 2 rfl ?_
  refine v_aload_n X dX1_knownName_2 0 rfl rfl 3 rfl ?_
  refine v_get X (C := RX1) (T := TX1) (N := 8) (ci := 1) (v := _) dX1_knownName_3 k_X1_knownName_users_w1 0 rfl rfl 5 (by decide) k_X1_knownName_users_1 rfl rfl 6 rfl ?_
  obtain ⟨o1, ho1, hf⟩ := bnd hf
  refine v_callUi X (ci := 7) (T := TX8) (C := RX8) (owner := "TicketGate$Table") (As := [.int v2, .int p_value]) (rest := []) (ws' := (wX1 ad c9 p_start p_end p_kind p_value p_error p_errorAt p_t_count p_t_cells p_d_time p_d_tolerance p_d_seed p_d_madeTickets p_d_cheesesOfText p_d_R_rows p_d_R_cells p_d_U_rows p_d_U_cells p_d_S_rows p_d_S_cells p_d_T_rows p_d_T_cells p_d_E_rows p_d_E_cells)) (c_X6_rowWith l hG D c9 (fun k => ad ([6, 7].getD k 0)) 30 7 RX8 rfl kt_rowWith_X8 kt_get_X8 gX6_rowWith_X6_get_u31X8 6 5 p_d_U_rows p_d_U_cells v2 p_value ho1) 2 gX1_knownName_X6_rowWith_u247X8 rfl rfl rfl rfl pd_X6_rowWith_UX1_knownName_247 ⟨Nat.le_of_ble_eq_true rfl, Nat.le_of_ble_eq_true rfl⟩ 6 rfl rfl rfl rfl (Nat.le_of_ble_eq_true rfl) ⟨Nat.zero_le _, Nat.zero_le _⟩ [6, 7] [0, 1, 2, 3, 4, 5, 8, 9, 10, 11, 12, 13] [0, 1, 2, 3, 4, 5, 12, 13, 6, 7, 8, 9, 10, 11] rfl rfl rfl rfl dX1_knownName_6 9 rfl ?_
  refine v_istore_n X (lv' := [(3, .int o1), (0, .ref (ad 0)), (1, .ref (ad 6)), (2, .int v2)]) dX1_knownName_9 rfl (by decide) rfl 10 rfl ?_
  refine v_aload_n X dX1_knownName_10 1 rfl rfl 11 rfl ?_
  refine v_aload_n X dX1_knownName_11 1 rfl rfl 12 rfl ?_
  refine v_get X (C := RX1) (T := TX1) (N := 8) (ci := 1) (v := _) dX1_knownName_12 k_X1_knownName_users_w1 0 rfl rfl 4 (by decide) k_X1_knownName_users_2 rfl rfl 15 rfl ?_
  refine v_iconst X dX1_knownName_15 ic_1 16 rfl ?_
  obtain ⟨j2, hj2, hf⟩ := bnd hf
  have Jj2 : vW p l e { frames := 3, cells := 0, slots := 0, locals := 86 } s m args below meth c 4 D A [] 0 0 (MQ below (eI D (tyA c9) A o.1 ((wX1 ad c9 o.2.1 o.2.2.1 o.2.2.2.1 o.2.2.2.2.1 o.2.2.2.2.2.1 o.2.2.2.2.2.2 p_t_count p_t_cells p_d_time p_d_tolerance p_d_seed p_d_madeTickets p_d_cheesesOfText p_d_R_rows p_d_R_cells p_d_U_rows p_d_U_cells p_d_S_rows p_d_S_cells p_d_T_rows p_d_T_cells p_d_E_rows p_d_E_cells) ++ [])) args s 0 0 A) (wX1 ad c9 p_start p_end p_kind p_value p_error p_errorAt p_t_count p_t_cells p_d_time p_d_tolerance p_d_seed p_d_madeTickets p_d_cheesesOfText p_d_R_rows p_d_R_cells p_d_U_rows p_d_U_cells p_d_S_rows p_d_S_cells p_d_T_rows p_d_T_cells p_d_E_rows p_d_E_cells) 24 [(0, .ref (ad 0)), (3, .int o1)] [.int j2, .ref (ad 0)] := by
    refine v_iconst X dX1_knownName_24 ic_1 25 rfl ?_
    obtain ⟨o3, ho3, hf⟩ := bnd hf
    refine v_callVv X (ci := 1) (T := TX1) (C := RX1) (As := [.int j2, .int 1]) (rest := []) (ws' := (wX1 ad c9 p_start p_end p_kind p_value o3.1 o3.2 p_t_count p_t_cells p_d_time p_d_tolerance p_d_seed p_d_madeTickets p_d_cheesesOfText p_d_R_rows p_d_R_cells p_d_U_rows p_d_U_cells p_d_S_rows p_d_S_cells p_d_T_rows p_d_T_cells p_d_E_rows p_d_E_cells)) (c_X1_require l hG D c9 ad p_start p_end p_kind p_value p_error p_errorAt p_t_count p_t_cells p_d_time p_d_tolerance p_d_seed p_d_madeTickets p_d_cheesesOfText p_d_R_rows p_d_R_cells p_d_U_rows p_d_U_cells p_d_S_rows p_d_S_cells p_d_T_rows p_d_T_cells p_d_E_rows p_d_E_cells j2 1 ho3) 2 gX1_knownName_X1_require rfl rfl rfl ⟨rfl, pd_X1_require⟩ ⟨Nat.le_of_ble_eq_true rfl, Nat.le_of_ble_eq_true rfl⟩ 0 rfl rfl rfl rfl (Nat.le_of_ble_eq_true rfl) ⟨Nat.zero_le _, Nat.zero_le _⟩ [0, 1, 2, 3, 4, 5, 6, 7, 8, 9, 10, 11, 12, 13] [] [0, 1, 2, 3, 4, 5, 6, 7, 8, 9, 10, 11, 12, 13] rfl rfl rfl rfl dX1_knownName_25 28 rfl ?_
    refine v_aload_n X dX1_knownName_28 0 rfl rfl 29 rfl ?_
    refine v_iload_n X dX1_knownName_29 1 rfl rfl 30 rfl ?_
    refine v_iconst X dX1_knownName_30 ic_m1 31 rfl ?_
    obtain ⟨j4, hj4, hf⟩ := bnd hf
    have Jj4 : vW p l e { frames := 3, cells := 0, slots := 0, locals := 86 } s m args below meth c 4 D A [] 0 0 (MQ below (eI D (tyA c9) A o.1 ((wX1 ad c9 o.2.1 o.2.2.1 o.2.2.2.1 o.2.2.2.2.1 o.2.2.2.2.2.1 o.2.2.2.2.2.2 p_t_count p_t_cells p_d_time p_d_tolerance p_d_seed p_d_madeTickets p_d_cheesesOfText p_d_R_rows p_d_R_cells p_d_U_rows p_d_U_cells p_d_S_rows p_d_S_cells p_d_T_rows p_d_T_cells p_d_E_rows p_d_E_cells) ++ [])) args s 0 0 A) (wX1 ad c9 p_start p_end p_kind p_value o3.1 o3.2 p_t_count p_t_cells p_d_time p_d_tolerance p_d_seed p_d_madeTickets p_d_cheesesOfText p_d_R_rows p_d_R_cells p_d_U_rows p_d_U_cells p_d_S_rows p_d_S_cells p_d_T_rows p_d_T_cells p_d_E_rows p_d_E_cells) 39 [(0, .ref (ad 0)), (3, .int o1)] [.int j4, .ref (ad 0)] := by
      refine v_iconst X dX1_knownName_39 ic_4 40 rfl ?_
      obtain ⟨o5, ho5, hf⟩ := bnd hf
      refine v_callVv X (ci := 1) (T := TX1) (C := RX1) (As := [.int j4, .int 4]) (rest := []) (ws' := (wX1 ad c9 p_start p_end p_kind p_value o5.1 o5.2 p_t_count p_t_cells p_d_time p_d_tolerance p_d_seed p_d_madeTickets p_d_cheesesOfText p_d_R_rows p_d_R_cells p_d_U_rows p_d_U_cells p_d_S_rows p_d_S_cells p_d_T_rows p_d_T_cells p_d_E_rows p_d_E_cells)) (c_X1_require l hG D c9 ad p_start p_end p_kind p_value o3.1 o3.2 p_t_count p_t_cells p_d_time p_d_tolerance p_d_seed p_d_madeTickets p_d_cheesesOfText p_d_R_rows p_d_R_cells p_d_U_rows p_d_U_cells p_d_S_rows p_d_S_cells p_d_T_rows p_d_T_cells p_d_E_rows p_d_E_cells j4 4 ho5) 2 gX1_knownName_X1_require rfl rfl rfl ⟨rfl, pd_X1_require⟩ ⟨Nat.le_of_ble_eq_true rfl, Nat.le_of_ble_eq_true rfl⟩ 0 rfl rfl rfl rfl (Nat.le_of_ble_eq_true rfl) ⟨Nat.zero_le _, Nat.zero_le _⟩ [0, 1, 2, 3, 4, 5, 6, 7, 8, 9, 10, 11, 12, 13] [] [0, 1, 2, 3, 4, 5, 6, 7, 8, 9, 10, 11, 12, 13] rfl rfl rfl rfl dX1_knownName_40 43 rfl ?_
      refine v_aload_n X dX1_knownName_43 0 rfl rfl 44 rfl ?_
      obtain ⟨o6, ho6, hf⟩ := bnd hf
      refine v_callVi X (ci := 1) (T := TX1) (C := RX1) (As := []) (rest := []) (ws' := (wX1 ad c9 o6.2.1 o6.2.2.1 o6.2.2.2.1 o6.2.2.2.2 o5.1 o5.2 p_t_count p_t_cells p_d_time p_d_tolerance p_d_seed p_d_madeTickets p_d_cheesesOfText p_d_R_rows p_d_R_cells p_d_U_rows p_d_U_cells p_d_S_rows p_d_S_cells p_d_T_rows p_d_T_cells p_d_E_rows p_d_E_cells)) (c_X1_take l hG D c9 ad p_start p_end p_kind p_value o5.1 o5.2 p_t_count p_t_cells p_d_time p_d_tolerance p_d_seed p_d_madeTickets p_d_cheesesOfText p_d_R_rows p_d_R_cells p_d_U_rows p_d_U_cells p_d_S_rows p_d_S_cells p_d_T_rows p_d_T_cells p_d_E_rows p_d_E_cells ho6) 0 gX1_knownName_X1_take rfl rfl rfl ⟨rfl, pd_X1_take⟩ ⟨Nat.le_of_ble_eq_true rfl, Nat.le_of_ble_eq_true rfl⟩ 0 rfl rfl rfl rfl (Nat.le_of_ble_eq_true rfl) ⟨Nat.zero_le _, Nat.zero_le _⟩ [0, 1, 2, 3, 4, 5, 6, 7, 8, 9, 10, 11, 12, 13] [] [0, 1, 2, 3, 4, 5, 6, 7, 8, 9, 10, 11, 12, 13] rfl rfl rfl rfl dX1_knownName_44 47 rfl ?_
      refine v_pop X dX1_knownName_47 rfl 48 rfl ?_
      refine v_iload_n X dX1_knownName_48 1 rfl rfl 49 rfl ?_
      cases hf
      exact v_iret X (Nat.zero_le _) (Nat.zero_le _) dX1_knownName_49
    clear hf
    refine v_icmp_eq X (tgt := 38) dX1_knownName_31 rfl 34 rfl hj4 (fun hf => ?_) (fun hf => ?_)
    · refine v_iconst X dX1_knownName_38 ic_0 39 rfl ?_
      cases hf
      exact Jj4
    · refine v_iconst X dX1_knownName_34 ic_1 35 rfl ?_
      refine v_goto X (tgt := 39) dX1_knownName_35 rfl ?_
      cases hf
      exact Jj4
  clear hf
  refine v_icmp_ne X (tgt := 23) dX1_knownName_16 rfl 19 rfl hj2 (fun hf => ?_) (fun hf => ?_)
  · refine v_iconst X dX1_knownName_23 ic_0 24 rfl ?_
    cases hf
    refine v_sub (lv' := [(0, .ref (ad 0)), (3, .int o1)]) [1, 0] rfl ?_
    exact Jj2
  · refine v_iconst X dX1_knownName_19 ic_1 20 rfl ?_
    refine v_goto X (tgt := 24) dX1_knownName_20 rfl ?_
    cases hf
    refine v_sub (lv' := [(0, .ref (ad 0)), (3, .int o1)]) [1, 0] rfl ?_
    exact Jj2
theorem pd_X1_knownName : yX1_knownName.cls ≠ "java/lang/invoke/MethodHandle" ∧ yX1_knownName.cls ≠ "java/lang/invoke/VarHandle" ∧ (parseMethodDescriptor yX1_knownName.desc).map (fun d => d.parameters.length) = some 2 := by decide +kernel
