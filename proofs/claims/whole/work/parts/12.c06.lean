theorem k_X1_number_w1 : ∀ w ∈ u_ws RX1 TX1 8, w ∈ wsX1_number := in_r _ [46, 47, 48, 49, 50, 51, 52, 53] rfl
theorem k_X1_number_1 : Cond.fieldLink RX1 43 "TicketGate$Parser" "kind" "I" ∈ wsX1_number := List.mem_of_getElem? (i := 1) rfl
theorem k_X1_number_2 : Cond.fieldLink RX1 151 "TicketGate$Parser" "value" "I" ∈ wsX1_number := List.mem_of_getElem? (i := 2) rfl
def f_X1_number (p_start : Int32) (p_end : Int32) (p_kind : Int32) (p_value : Int32) (p_error : Int32) (p_errorAt : Int32) (p_t_count : Int32) (p_t_cells : Nat → Int32) (v1 : Int32) (v2 : Int32) : Option (Int32 × Int32 × Int32 × Int32 × Int32 × Int32 × Int32) :=
  Option.bind (if p_kind = 2 then (
    some (1))
  else (
    some (0)) : Option (Int32)) fun j1 =>
  (f_X1_require p_start p_error p_errorAt j1 1).bind fun o2 =>
  Option.bind (if p_value < v1 then (
    some (0))
  else (
    if v2 < p_value then (
      some (0))
    else (
      some (1))) : Option (Int32)) fun j3 =>
  (f_X1_require p_start o2.1 o2.2 j3 2).bind fun o4 =>
  (f_X1_take p_start p_end p_kind p_value o4.1 p_t_count p_t_cells).bind fun o5 =>
  some (o5.1, o5.2.1, o5.2.2.1, o5.2.2.2.1, o5.2.2.2.2, o4.1, o4.2)
set_option maxRecDepth 100000 in
set_option maxHeartbeats 4000000 in
theorem c_X1_number (l : Launch) {G : (Nat → Prop) → State → Heap → Prop} (hG : vG G) (D : va_G) (c9 : Nat → ClassId) (ad : Nat → Nat) (p_start : Int32) (p_end : Int32) (p_kind : Int32) (p_value : Int32) (p_error : Int32) (p_errorAt : Int32) (p_t_count : Int32) (p_t_cells : Nat → Int32) (p_d_time : Int32) (p_d_tolerance : Int32) (p_d_seed : Int32) (p_d_madeTickets : Int32) (p_d_cheesesOfText : Int32) (p_d_R_rows : Int32) (p_d_R_cells : Nat → Int32) (p_d_U_rows : Int32) (p_d_U_cells : Nat → Int32) (p_d_S_rows : Int32) (p_d_S_cells : Nat → Int32) (p_d_T_rows : Int32) (p_d_T_cells : Nat → Int32) (p_d_E_rows : Int32) (p_d_E_cells : Nat → Int32) (v1 : Int32) (v2 : Int32) {o : Int32 × Int32 × Int32 × Int32 × Int32 × Int32 × Int32} (hf : f_X1_number p_start p_end p_kind p_value p_error p_errorAt p_t_count p_t_cells v1 v2 = some o) : mI l yX1_number wsX1_number { frames := 3, cells := 0, slots := 0, locals := 86 } G D (tyA c9) [.ref (ad 0), .int v1, .int v2] (wX1 ad c9 p_start p_end p_kind p_value p_error p_errorAt p_t_count p_t_cells p_d_time p_d_tolerance p_d_seed p_d_madeTickets p_d_cheesesOfText p_d_R_rows p_d_R_cells p_d_U_rows p_d_U_cells p_d_S_rows p_d_S_cells p_d_T_rows p_d_T_cells p_d_E_rows p_d_E_cells) [] 0 0 o.1 (wX1 ad c9 o.2.1 o.2.2.1 o.2.2.2.1 o.2.2.2.2.1 o.2.2.2.2.2.1 o.2.2.2.2.2.2 p_t_count p_t_cells p_d_time p_d_tolerance p_d_seed p_d_madeTickets p_d_cheesesOfText p_d_R_rows p_d_R_cells p_d_U_rows p_d_U_cells p_d_S_rows p_d_S_cells p_d_T_rows p_d_T_cells p_d_E_rows p_d_E_cells) := by
  refine mI_of hG (cc := cX1_number) (maxL := 3) (ty := .int) (by decide) rfl (Nat.le_of_ble_eq_true rfl) ?_
  intro p e s m args below meth c A X
  have X : vX p s m args meth c cX1_number 3 (some .int) RX1 wsX1_number D (tyA c9) G A := X
  refine v_eq (lv2 := [(0, .ref (ad 0)), (1, .int v1), (2, .int v2)]) rfl rfl rfl rfl ?_
  rw [f_X1_number] at hf
  refine v_aload_n X dX1_number_0 0 rfl rfl 1 rfl ?_
  refine v_aload_n X dX1_number_1 0 rfl rfl 2 rfl ?_
  refine v_get X (C := RX1) (T := TX1) (N := 8) (ci := 1) (v := _) dX1_number_2 k_X1_number_w1 0 rfl rfl 4 (by decide) k_X1_number_1 rfl rfl 5 rfl ?_
  refine v_iconst X dX1_number_5 ic_2 6 rfl ?_
  obtain ⟨j1, hj1, hf⟩ := bnd hf
  have Jj1 : vW p l e { frames := 3, cells := 0, slots := 0, locals := 86 } s m args below meth c 3 D A [] 0 0 (MQ below (eI D (tyA c9) A o.1 ((wX1 ad c9 o.2.1 o.2.2.1 o.2.2.2.1 o.2.2.2.2.1 o.2.2.2.2.2.1 o.2.2.2.2.2.2 p_t_count p_t_cells p_d_time p_d_tolerance p_d_seed p_d_madeTickets p_d_cheesesOfText p_d_R_rows p_d_R_cells p_d_U_rows p_d_U_cells p_d_S_rows p_d_S_cells p_d_T_rows p_d_T_cells p_d_E_rows p_d_E_cells) ++ [])) args s 0 0 A) (wX1 ad c9 p_start p_end p_kind p_value p_error p_errorAt p_t_count p_t_cells p_d_time p_d_tolerance p_d_seed p_d_madeTickets p_d_cheesesOfText p_d_R_rows p_d_R_cells p_d_U_rows p_d_U_cells p_d_S_rows p_d_S_cells p_d_T_rows p_d_T_cells p_d_E_rows p_d_E_cells) 14 [(0, .ref (ad 0)), (1, .int v1), (2, .int v2)] [.int j1, .ref (ad 0)] := by
    refine v_iconst X dX1_number_14 ic_1 15 rfl ?_
    obtain ⟨o2, ho2, hf⟩ := bnd hf
    refine v_callVv X (ci := 1) (T := TX1) (C := RX1) (As := [.int j1, .int 1]) (rest := []) (ws' := (wX1 ad c9 p_start p_end p_kind p_value o2.1 o2.2 p_t_count p_t_cells p_d_time p_d_tolerance p_d_seed p_d_madeTickets p_d_cheesesOfText p_d_R_rows p_d_R_cells p_d_U_rows p_d_U_cells p_d_S_rows p_d_S_cells p_d_T_rows p_d_T_cells p_d_E_rows p_d_E_cells)) (c_X1_require l hG D c9 ad p_start p_end p_kind p_value p_error p_errorAt p_t_count p_t_cells p_d_time p_d_tolerance p_d_seed p_d_madeTickets p_d_cheesesOfText p_d_R_rows p_d_R_cells p_d_U_rows p_d_U_cells p_d_S_rows p_d_S_cells p_d_T_rows p_d_T_cells p_d_E_rows p_d_E_cells j1 1 ho2) 2 gX1_number_X1_require rfl rfl rfl ⟨rfl, pd_X1_require⟩ ⟨Nat.le_of_ble_eq_true rfl, Nat.le_of_ble_eq_true rfl⟩ 0 rfl rfl rfl rfl (Nat.le_of_ble_eq_true rfl) ⟨Nat.zero_le _, Nat.zero_le _⟩ [0, 1, 2, 3, 4, 5, 6, 7, 8, 9, 10, 11, 12, 13] [] [0, 1, 2, 3, 4, 5, 6, 7, 8, 9, 10, 11, 12, 13] rfl rfl rfl rfl dX1_number_15 18 rfl ?_
    refine v_aload_n X dX1_number_18 0 rfl rfl 19 rfl ?_
    refine v_aload_n X dX1_number_19 0 rfl rfl 20 rfl ?_
    refine v_get X (C := RX1) (T := TX1) (N := 8) (ci := 1) (v := _) dX1_number_20 k_X1_number_w1 0 rfl rfl 5 (by decide) k_X1_number_2 rfl rfl 23 rfl ?_
    refine v_iload_n X dX1_number_23 1 rfl rfl 24 rfl ?_
    obtain ⟨j3, hj3, hf⟩ := bnd hf
    have Jj3 : vW p l e { frames := 3, cells := 0, slots := 0, locals := 86 } s m args below meth c 3 D A [] 0 0 (MQ below (eI D (tyA c9) A o.1 ((wX1 ad c9 o.2.1 o.2.2.1 o.2.2.2.1 o.2.2.2.2.1 o.2.2.2.2.2.1 o.2.2.2.2.2.2 p_t_count p_t_cells p_d_time p_d_tolerance p_d_seed p_d_madeTickets p_d_cheesesOfText p_d_R_rows p_d_R_cells p_d_U_rows p_d_U_cells p_d_S_rows p_d_S_cells p_d_T_rows p_d_T_cells p_d_E_rows p_d_E_cells) ++ [])) args s 0 0 A) (wX1 ad c9 p_start p_end p_kind p_value o2.1 o2.2 p_t_count p_t_cells p_d_time p_d_tolerance p_d_seed p_d_madeTickets p_d_cheesesOfText p_d_R_rows p_d_R_cells p_d_U_rows p_d_U_cells p_d_S_rows p_d_S_cells p_d_T_rows p_d_T_cells p_d_E_rows p_d_E_cells) 40 [(0, .ref (ad 0))] [.int j3, .ref (ad 0)] := by
      refine v_iconst X dX1_number_40 ic_2 41 rfl ?_
      obtain ⟨o4, ho4, hf⟩ := bnd hf
      refine v_callVv X (ci := 1) (T := TX1) (C := RX1) (As := [.int j3, .int 2]) (rest := []) (ws' := (wX1 ad c9 p_start p_end p_kind p_value o4.1 o4.2 p_t_count p_t_cells p_d_time p_d_tolerance p_d_seed p_d_madeTickets p_d_cheesesOfText p_d_R_rows p_d_R_cells p_d_U_rows p_d_U_cells p_d_S_rows p_d_S_cells p_d_T_rows p_d_T_cells p_d_E_rows p_d_E_cells)) (c_X1_require l hG D c9 ad p_start p_end p_kind p_value o2.1 o2.2 p_t_count p_t_cells p_d_time p_d_tolerance p_d_seed p_d_madeTickets p_d_cheesesOfText p_d_R_rows p_d_R_cells p_d_U_rows p_d_U_cells p_d_S_rows p_d_S_cells p_d_T_rows p_d_T_cells p_d_E_rows p_d_E_cells j3 2 ho4) 2 gX1_number_X1_require rfl rfl rfl ⟨rfl, pd_X1_require⟩ ⟨Nat.le_of_ble_eq_true rfl, Nat.le_of_ble_eq_true rfl⟩ 0 rfl rfl rfl rfl (Nat.le_of_ble_eq_true rfl) ⟨Nat.zero_le _, Nat.zero_le _⟩ [0, 1, 2, 3, 4, 5, 6, 7, 8, 9, 10, 11, 12, 13] [] [0, 1, 2, 3, 4, 5, 6, 7, 8, 9, 10, 11, 12, 13] rfl rfl rfl rfl dX1_number_41 44 rfl ?_
      refine v_aload_n X dX1_number_44 0 rfl rfl 45 rfl ?_
      obtain ⟨o5, ho5, hf⟩ := bnd hf
      refine v_callVi X (ci := 1) (T := TX1) (C := RX1) (As := []) (rest := []) (ws' := (wX1 ad c9 o5.2.1 o5.2.2.1 o5.2.2.2.1 o5.2.2.2.2 o4.1 o4.2 p_t_count p_t_cells p_d_time p_d_tolerance p_d_seed p_d_madeTickets p_d_cheesesOfText p_d_R_rows p_d_R_cells p_d_U_rows p_d_U_cells p_d_S_rows p_d_S_cells p_d_T_rows p_d_T_cells p_d_E_rows p_d_E_cells)) (c_X1_take l hG D c9 ad p_start p_end p_kind p_value o4.1 o4.2 p_t_count p_t_cells p_d_time p_d_tolerance p_d_seed p_d_madeTickets p_d_cheesesOfText p_d_R_rows p_d_R_cells p_d_U_rows p_d_U_cells p_d_S_rows p_d_S_cells p_d_T_rows p_d_T_cells p_d_E_rows p_d_E_cells ho5) 0 gX1_number_X1_take rfl rfl rfl ⟨rfl, pd_X1_take⟩ ⟨Nat.le_of_ble_eq_true rfl, Nat.le_of_ble_eq_true rfl⟩ 0 rfl rfl rfl rfl (Nat.le_of_ble_eq_true rfl) ⟨Nat.zero_le _, Nat.zero_le _⟩ [0, 1, 2, 3, 4, 5, 6, 7, 8, 9, 10, 11, 12, 13] [] [0, 1, 2, 3, 4, 5, 6, 7, 8, 9, 10, 11, 12, 13] rfl rfl rfl rfl dX1_number_45 48 rfl ?_
      cases hf
      exact v_iret X (Nat.zero_le _) (Nat.zero_le _) dX1_number_48
    clear hf
    refine v_icmp_lt X (tgt := 39) dX1_number_24 rfl 27 rfl hj3 (fun hf => ?_) (fun hf => ?_)
    · refine v_iconst X dX1_number_39 ic_0 40 rfl ?_
      cases hf
      refine v_sub (lv' := [(0, .ref (ad 0))]) [0] rfl ?_
      exact Jj3
    · refine v_aload_n X dX1_number_27 0 rfl rfl 28 rfl ?_
      refine v_get X (C := RX1) (T := TX1) (N := 8) (ci := 1) (v := _) dX1_number_28 k_X1_number_w1 0 rfl rfl 5 (by decide) k_X1_number_2 rfl rfl 31 rfl ?_
      refine v_iload_n X dX1_number_31 2 rfl rfl 32 rfl ?_
      refine v_icmp_gt X (tgt := 39) dX1_number_32 rfl 35 rfl hf (fun hf => ?_) (fun hf => ?_)
      · refine v_iconst X dX1_number_39 ic_0 40 rfl ?_
        cases hf
        refine v_sub (lv' := [(0, .ref (ad 0))]) [0] rfl ?_
        exact Jj3
      · refine v_iconst X dX1_number_35 ic_1 36 rfl ?_
        refine v_goto X (tgt := 40) dX1_number_36 rfl ?_
        cases hf
        refine v_sub (lv' := [(0, .ref (ad 0))]) [0] rfl ?_
        exact Jj3
  clear hf
  refine v_icmp_ne X (tgt := 13) dX1_number_6 rfl 9 rfl hj1 (fun hf => ?_) (fun hf => ?_)
  · refine v_iconst X dX1_number_13 ic_0 14 rfl ?_
    cases hf
    exact Jj1
  · refine v_iconst X dX1_number_9 ic_1 10 rfl ?_
    refine v_goto X (tgt := 14) dX1_number_10 rfl ?_
    cases hf
    exact Jj1
theorem pd_X1_number : yX1_number.cls ≠ "java/lang/invoke/MethodHandle" ∧ yX1_number.cls ≠ "java/lang/invoke/VarHandle" ∧ (parseMethodDescriptor yX1_number.desc).map (fun d => d.parameters.length) = some 2 := by decide +kernel
theorem k_X1_readService_w1 : ∀ w ∈ u_ws RX1 TX1 8, w ∈ wsX1_readService := in_r _ [125, 126, 127, 128, 129, 130, 131, 132] rfl
theorem k_X1_readService_1 : Cond.fieldLink RX1 12 "TicketGate$Parser" "draft" "LTicketGate$State;" ∈ wsX1_readService := List.mem_of_getElem? (i := 1) rfl
theorem k_X1_readService_w5 : ∀ w ∈ u_ws RX5 TX5 10, w ∈ wsX1_readService := in_r _ [133, 134, 135, 136, 137, 138, 139, 140, 141, 142] rfl
theorem pd_X6_isFull_UX1_readService_178 : "TicketGate$Table" ≠ "java/lang/invoke/MethodHandle" ∧ "TicketGate$Table" ≠ "java/lang/invoke/VarHandle" ∧ (parseMethodDescriptor "()Z").map (fun d => d.parameters.length) = some 0 := by decide +kernel
def f_X1_readService (p_start : Int32) (p_end : Int32) (p_kind : Int32) (p_value : Int32) (p_error : Int32) (p_errorAt : Int32) (p_t_count : Int32) (p_t_cells : Nat → Int32) (p_d_cheesesOfText : Int32) (p_d_R_rows : Int32) (p_d_R_cells : Nat → Int32) (p_d_U_rows : Int32) (p_d_U_cells : Nat → Int32) (p_d_S_rows : Int32) (p_d_S_cells : Nat → Int32) : Option (Int32 × Int32 × Int32 × Int32 × Int32 × Int32 × Int32 × Int32 × (Nat → Int32)) :=
  (f_X6_isFull 18 6 p_d_S_rows).bind fun o1 =>
  Option.bind (if o1 = 0 then (
    some (1))
  else (
    some (0)) : Option (Int32)) fun j2 =>
  (f_X1_require p_start p_error p_errorAt j2 5).bind fun o3 =>
  (f_X1_take p_start p_end p_kind p_value o3.1 p_t_count p_t_cells).bind fun o4 =>
  (f_X1_newName o4.2.1 o4.2.2.1 o4.2.2.2.1 o4.2.2.2.2 o3.1 o3.2 p_t_count p_t_cells p_d_R_rows p_d_R_cells p_d_U_rows p_d_U_cells p_d_S_rows p_d_S_cells).bind fun o5 =>
  (f_X1_knownName_realms o5.2.1 o5.2.2.1 o5.2.2.2.1 o5.2.2.2.2.1 o5.2.2.2.2.2.1 o5.2.2.2.2.2.2 p_t_count p_t_cells p_d_R_rows p_d_R_cells 0).bind fun o6 =>
  (f_X1_number o6.2.1 o6.2.2.1 o6.2.2.2.1 o6.2.2.2.2.1 o6.2.2.2.2.2.1 o6.2.2.2.2.2.2 p_t_count p_t_cells 0 99).bind fun o7 =>
  (f_X1_semicolon o7.2.1 o7.2.2.1 o7.2.2.2.1 o7.2.2.2.2.1 o7.2.2.2.2.2.1 o7.2.2.2.2.2.2 p_t_count p_t_cells 1).bind fun o8 =>
  if o8.1 = 0 then (
    some (o8.2.1, o8.2.2.1, o8.2.2.2.1, o8.2.2.2.2.1, o8.2.2.2.2.2.1, o8.2.2.2.2.2.2, p_d_cheesesOfText, p_d_S_rows, p_d_S_cells))
  else (
    (f_X3_addService p_d_S_rows p_d_S_cells o5.1 o6.1 o7.1).bind fun o9 =>
    some (o8.2.1, o8.2.2.1, o8.2.2.2.1, o8.2.2.2.2.1, o8.2.2.2.2.2.1, o8.2.2.2.2.2.2, (p_d_cheesesOfText + o7.1), o9.1, o9.2))
set_option maxRecDepth 100000 in
set_option maxHeartbeats 4000000 in
theorem c_X1_readService (l : Launch) {G : (Nat → Prop) → State → Heap → Prop} (hG : vG G) (D : va_G) (c9 : Nat → ClassId) (ad : Nat → Nat) (p_start : Int32) (p_end : Int32) (p_kind : Int32) (p_value : Int32) (p_error : Int32) (p_errorAt : Int32) (p_t_count : Int32) (p_t_cells : Nat → Int32) (p_d_time : Int32) (p_d_tolerance : Int32) (p_d_seed : Int32) (p_d_madeTickets : Int32) (p_d_cheesesOfText : Int32) (p_d_R_rows : Int32) (p_d_R_cells : Nat → Int32) (p_d_U_rows : Int32) (p_d_U_cells : Nat → Int32) (p_d_S_rows : Int32) (p_d_S_cells : Nat → Int32) (p_d_T_rows : Int32) (p_d_T_cells : Nat → Int32) (p_d_E_rows : Int32) (p_d_E_cells : Nat → Int32)  {o : Int32 × Int32 × Int32 × Int32 × Int32 × Int32 × Int32 × Int32 × (Nat → Int32)} (hf : f_X1_readService p_start p_end p_kind p_value p_error p_errorAt p_t_count p_t_cells p_d_cheesesOfText p_d_R_rows p_d_R_cells p_d_U_rows p_d_U_cells p_d_S_rows p_d_S_cells = some o) : mV l yX1_readService wsX1_readService { frames := 4, cells := 0, slots := 0, locals := 109 } G D (tyA c9) [.ref (ad 0)] (wX1 ad c9 p_start p_end p_kind p_value p_error p_errorAt p_t_count p_t_cells p_d_time p_d_tolerance p_d_seed p_d_madeTickets p_d_cheesesOfText p_d_R_rows p_d_R_cells p_d_U_rows p_d_U_cells p_d_S_rows p_d_S_cells p_d_T_rows p_d_T_cells p_d_E_rows p_d_E_cells) [] 0 0 (wX1 ad c9 o.1 o.2.1 o.2.2.1 o.2.2.2.1 o.2.2.2.2.1 o.2.2.2.2.2.1 p_t_count p_t_cells p_d_time p_d_tolerance p_d_seed p_d_madeTickets o.2.2.2.2.2.2.1 p_d_R_rows p_d_R_cells p_d_U_rows p_d_U_cells o.2.2.2.2.2.2.2.1 o.2.2.2.2.2.2.2.2 p_d_T_rows p_d_T_cells p_d_E_rows p_d_E_cells) := by
  refine mV_of hG (cc := cX1_readService) (maxL := 4) (by decide) rfl (Nat.le_of_ble_eq_true rfl) ?_
  intro p e s m args below meth c A hnm X
  have X : vX p s m args meth c cX1_readService 4 none RX1 wsX1_readService D (tyA c9) G A := X
  refine v_eq (lv2 := [(0, .ref (ad 0))]) rfl rfl rfl rfl ?_
  rw [f_X1_readService] at hf
  refine v_aload_n X dX1_readService_0 0 rfl rfl 1 rfl ?_
  refine v_aload_n X dX1_readService_1 0 rfl rfl 2 rfl ?_
  refine v_get X (C := RX1) (T := TX1) (N := 8) (ci := 1) (v := _) dX1_readService_2 k_X1_readService_w1 0 rfl rfl 1 (by decide) k_X1_readService_1 rfl rfl 5 rfl ?_
  refine v_getN X (C := RX5) (T := TX5) (N := 10) (ci := 5) (v := _) dX1_readService_5 k_X1_readService_w5 3 rfl rfl 2 (by decide) nest_RX1_174 rfl rfl 8 rfl ?_
  obtain ⟨o1, ho1, hf⟩ := bnd hf
  refine v_callUi X (ci := 3) (T := TX3) (C := RX3) (owner := "TicketGate$Table") (As := []) (rest := [.ref (ad 0)]) (ws' := (wX1 ad c9 p_start p_end p_kind p_value p_error p_errorAt p_t_count p_t_cells p_d_time p_d_tolerance p_d_seed p_d_madeTickets p_d_cheesesOfText p_d_R_rows p_d_R_cells p_d_U_rows p_d_U_cells p_d_S_rows p_d_S_cells p_d_T_rows p_d_T_cells p_d_E_rows p_d_E_cells)) (c_X6_isFull l hG D c9 (fun k => ad ([8, 9].getD k 0)) 18 3 RX3 rfl kt_isFull_X3 6 3 p_d_S_rows p_d_S_cells ho1) 0 gX1_readService_X6_isFull_u178X3 rfl rfl rfl rfl pd_X6_isFull_UX1_readService_178 ⟨Nat.le_of_ble_eq_true rfl, Nat.le_of_ble_eq_true rfl⟩ 8 rfl rfl rfl rfl (Nat.le_of_ble_eq_true rfl) ⟨Nat.zero_le _, Nat.zero_le _⟩ [8, 9] [0, 1, 2, 3, 4, 5, 6, 7, 10, 11, 12, 13] [0, 1, 2, 3, 4, 5, 6, 7, 12, 13, 8, 9, 10, 11] rfl rfl rfl rfl dX1_readService_8 11 rfl ?_
  obtain ⟨j2, hj2, hf⟩ := bnd hf
  have Jj2 : vW p l e { frames := 4, cells := 0, slots := 0, locals := 109 } s m args below meth c 4 D A [] 0 0 (MQ below (eV D (tyA c9) A ((wX1 ad c9 o.1 o.2.1 o.2.2.1 o.2.2.2.1 o.2.2.2.2.1 o.2.2.2.2.2.1 p_t_count p_t_cells p_d_time p_d_tolerance p_d_seed p_d_madeTickets o.2.2.2.2.2.2.1 p_d_R_rows p_d_R_cells p_d_U_rows p_d_U_cells o.2.2.2.2.2.2.2.1 o.2.2.2.2.2.2.2.2 p_d_T_rows p_d_T_cells p_d_E_rows p_d_E_cells) ++ [])) args s 0 0 A) (wX1 ad c9 p_start p_end p_kind p_value p_error p_errorAt p_t_count p_t_cells p_d_time p_d_tolerance p_d_seed p_d_madeTickets p_d_cheesesOfText p_d_R_rows p_d_R_cells p_d_U_rows p_d_U_cells p_d_S_rows p_d_S_cells p_d_T_rows p_d_T_cells p_d_E_rows p_d_E_cells) 19 [(0, .ref (ad 0))] [.int j2, .ref (ad 0)] := by
    refine v_iconst X dX1_readService_19 ic_5 20 rfl ?_
    obtain ⟨o3, ho3, hf⟩ := bnd hf
    refine v_callVv X (ci := 1) (T := TX1) (C := RX1) (As := [.int j2, .int 5]) (rest := []) (ws' := (wX1 ad c9 p_start p_end p_kind p_value o3.1 o3.2 p_t_count p_t_cells p_d_time p_d_tolerance p_d_seed p_d_madeTickets p_d_cheesesOfText p_d_R_rows p_d_R_cells p_d_U_rows p_d_U_cells p_d_S_rows p_d_S_cells p_d_T_rows p_d_T_cells p_d_E_rows p_d_E_cells)) (c_X1_require l hG D c9 ad p_start p_end p_kind p_value p_error p_errorAt p_t_count p_t_cells p_d_time p_d_tolerance p_d_seed p_d_madeTickets p_d_cheesesOfText p_d_R_rows p_d_R_cells p_d_U_rows p_d_U_cells p_d_S_rows p_d_S_cells p_d_T_rows p_d_T_cells p_d_E_rows p_d_E_cells j2 5 ho3) 2 gX1_readService_X1_require rfl rfl rfl ⟨rfl, pd_X1_require⟩ ⟨Nat.le_of_ble_eq_true rfl, Nat.le_of_ble_eq_true rfl⟩ 0 rfl rfl rfl rfl (Nat.le_of_ble_eq_true rfl) ⟨Nat.zero_le _, Nat.zero_le _⟩ [0, 1, 2, 3, 4, 5, 6, 7, 8, 9, 10, 11, 12, 13] [] [0, 1, 2, 3, 4, 5, 6, 7, 8, 9, 10, 11, 12, 13] rfl rfl rfl rfl dX1_readService_20 23 rfl ?_
    refine v_aload_n X dX1_readService_23 0 rfl rfl 24 rfl ?_
    obtain ⟨o4, ho4, hf⟩ := bnd hf
    refine v_callVi X (ci := 1) (T := TX1) (C := RX1) (As := []) (rest := []) (ws' := (wX1 ad c9 o4.2.1 o4.2.2.1 o4.2.2.2.1 o4.2.2.2.2 o3.1 o3.2 p_t_count p_t_cells p_d_time p_d_tolerance p_d_seed p_d_madeTickets p_d_cheesesOfText p_d_R_rows p_d_R_cells p_d_U_rows p_d_U_cells p_d_S_rows p_d_S_cells p_d_T_rows p_d_T_cells p_d_E_rows p_d_E_cells)) (c_X1_take l hG D c9 ad p_start p_end p_kind p_value o3.1 o3.2 p_t_count p_t_cells p_d_time p_d_tolerance p_d_seed p_d_madeTickets p_d_cheesesOfText p_d_R_rows p_d_R_cells p_d_U_rows p_d_U_cells p_d_S_rows p_d_S_cells p_d_T_rows p_d_T_cells p_d_E_rows p_d_E_cells ho4) 0 gX1_readService_X1_take rfl rfl rfl ⟨rfl, pd_X1_take⟩ ⟨Nat.le_of_ble_eq_true rfl, Nat.le_of_ble_eq_true rfl⟩ 0 rfl rfl rfl rfl (Nat.le_of_ble_eq_true rfl) ⟨Nat.zero_le _, Nat.zero_le _⟩ [0, 1, 2, 3, 4, 5, 6, 7, 8, 9, 10, 11, 12, 13] [] [0, 1, 2, 3, 4, 5, 6, 7, 8, 9, 10, 11, 12, 13] rfl rfl rfl rfl dX1_readService_24 27 rfl ?_
    refine v_pop X dX1_readService_27 rfl 28 rfl ?_
    refine v_aload_n X dX1_readService_28 0 rfl rfl 29 rfl ?_
    obtain ⟨o5, ho5, hf⟩ := bnd hf
    refine v_callVi X (ci := 1) (T := TX1) (C := RX1) (As := []) (rest := []) (ws' := (wX1 ad c9 o5.2.1 o5.2.2.1 o5.2.2.2.1 o5.2.2.2.2.1 o5.2.2.2.2.2.1 o5.2.2.2.2.2.2 p_t_count p_t_cells p_d_time p_d_tolerance p_d_seed p_d_madeTickets p_d_cheesesOfText p_d_R_rows p_d_R_cells p_d_U_rows p_d_U_cells p_d_S_rows p_d_S_cells p_d_T_rows p_d_T_cells p_d_E_rows p_d_E_cells)) (c_X1_newName l hG D c9 ad o4.2.1 o4.2.2.1 o4.2.2.2.1 o4.2.2.2.2 o3.1 o3.2 p_t_count p_t_cells p_d_time p_d_tolerance p_d_seed p_d_madeTickets p_d_cheesesOfText p_d_R_rows p_d_R_cells p_d_U_rows p_d_U_cells p_d_S_rows p_d_S_cells p_d_T_rows p_d_T_cells p_d_E_rows p_d_E_cells ho5) 0 gX1_readService_X1_newName rfl rfl rfl ⟨rfl, pd_X1_newName⟩ ⟨Nat.le_of_ble_eq_true rfl, Nat.le_of_ble_eq_true rfl⟩ 0 rfl rfl rfl rfl (Nat.le_of_ble_eq_true rfl) ⟨Nat.zero_le _, Nat.zero_le _⟩ [0, 1, 2, 3, 4, 5, 6, 7, 8, 9, 10, 11, 12, 13] [] [0, 1, 2, 3, 4, 5, 6, 7, 8, 9, 10, 11, 12, 13] rfl rfl rfl rfl dX1_readService_29 32 rfl ?_
    refine v_istore_n X (lv' := [(1, .int o5.1), (0, .ref (ad 0))]) dX1_readService_32 rfl (by decide) rfl 33 rfl ?_
    refine v_aload_n X dX1_readService_33 1 rfl rfl 34 rfl ?_
    refine v_aload_n X dX1_readService_34 1 rfl rfl 35 rfl ?_
    refine v_get X (C := RX1) (T := TX1) (N := 8) (ci := 1) (v := _) dX1_readService_35 k_X1_readService_w1 0 rfl rfl 1 (by decide) k_X1_readService_1 rfl rfl 38 rfl ?_
    refine v_getN X (C := RX5) (T := TX5) (N := 10) (ci := 5) (v := _) dX1_readService_38 k_X1_readService_w5 3 rfl rfl 0 (by decide) nest_RX1_127 rfl rfl 41 rfl ?_
    refine v_iconst X dX1_readService_41 ic_0 42 rfl ?_
    obtain ⟨o6, ho6, hf⟩ := bnd hf
    refine v_callVi X (ci := 1) (T := TX1) (C := RX1) (As := [.ref (ad 4), .int 0]) (rest := []) (ws' := (wX1 ad c9 o6.2.1 o6.2.2.1 o6.2.2.2.1 o6.2.2.2.2.1 o6.2.2.2.2.2.1 o6.2.2.2.2.2.2 p_t_count p_t_cells p_d_time p_d_tolerance p_d_seed p_d_madeTickets p_d_cheesesOfText p_d_R_rows p_d_R_cells p_d_U_rows p_d_U_cells p_d_S_rows p_d_S_cells p_d_T_rows p_d_T_cells p_d_E_rows p_d_E_cells)) (c_X1_knownName_realms l hG D c9 ad o5.2.1 o5.2.2.1 o5.2.2.2.1 o5.2.2.2.2.1 o5.2.2.2.2.2.1 o5.2.2.2.2.2.2 p_t_count p_t_cells p_d_time p_d_tolerance p_d_seed p_d_madeTickets p_d_cheesesOfText p_d_R_rows p_d_R_cells p_d_U_rows p_d_U_cells p_d_S_rows p_d_S_cells p_d_T_rows p_d_T_cells p_d_E_rows p_d_E_cells 0 ho6) 2 gX1_readService_X1_knownName rfl rfl rfl ⟨rfl, pd_X1_knownName⟩ ⟨Nat.le_of_ble_eq_true rfl, Nat.le_of_ble_eq_true rfl⟩ 0 rfl rfl rfl rfl (Nat.le_of_ble_eq_true rfl) ⟨Nat.zero_le _, Nat.zero_le _⟩ [0, 1, 2, 3, 4, 5, 6, 7, 8, 9, 10, 11, 12, 13] [] [0, 1, 2, 3, 4, 5, 6, 7, 8, 9, 10, 11, 12, 13] rfl rfl rfl rfl dX1_readService_42 45 rfl ?_
    refine v_istore_n X (lv' := [(2, .int o6.1), (1, .int o5.1), (0, .ref (ad 0))]) dX1_readService_45 rfl (by decide) rfl 46 rfl ?_
    refine v_aload_n X dX1_readService_46 2 rfl rfl 47 rfl ?_
    refine v_iconst X dX1_readService_47 ic_0 48 rfl ?_
    refine v_bipush X dX1_readService_48 bp_99 50 rfl ?_
    obtain ⟨o7, ho7, hf⟩ := bnd hf
    refine v_callVi X (ci := 1) (T := TX1) (C := RX1) (As := [.int 0, .int 99]) (rest := []) (ws' := (wX1 ad c9 o7.2.1 o7.2.2.1 o7.2.2.2.1 o7.2.2.2.2.1 o7.2.2.2.2.2.1 o7.2.2.2.2.2.2 p_t_count p_t_cells p_d_time p_d_tolerance p_d_seed p_d_madeTickets p_d_cheesesOfText p_d_R_rows p_d_R_cells p_d_U_rows p_d_U_cells p_d_S_rows p_d_S_cells p_d_T_rows p_d_T_cells p_d_E_rows p_d_E_cells)) (c_X1_number l hG D c9 ad o6.2.1 o6.2.2.1 o6.2.2.2.1 o6.2.2.2.2.1 o6.2.2.2.2.2.1 o6.2.2.2.2.2.2 p_t_count p_t_cells p_d_time p_d_tolerance p_d_seed p_d_madeTickets p_d_cheesesOfText p_d_R_rows p_d_R_cells p_d_U_rows p_d_U_cells p_d_S_rows p_d_S_cells p_d_T_rows p_d_T_cells p_d_E_rows p_d_E_cells 0 99 ho7) 2 gX1_readService_X1_number rfl rfl rfl ⟨rfl, pd_X1_number⟩ ⟨Nat.le_of_ble_eq_true rfl, Nat.le_of_ble_eq_true rfl⟩ 0 rfl rfl rfl rfl (Nat.le_of_ble_eq_true rfl) ⟨Nat.zero_le _, Nat.zero_le _⟩ [0, 1, 2, 3, 4, 5, 6, 7, 8, 9, 10, 11, 12, 13] [] [0, 1, 2, 3, 4, 5, 6, 7, 8, 9, 10, 11, 12, 13] rfl rfl rfl rfl dX1_readService_50 53 rfl ?_
    refine v_istore_n X (lv' := [(3, .int o7.1), (2, .int o6.1), (1, .int o5.1), (0, .ref (ad 0))]) dX1_readService_53 rfl (by decide) rfl 54 rfl ?_
    refine v_aload_n X dX1_readService_54 3 rfl rfl 55 rfl ?_
    refine v_iconst X dX1_readService_55 ic_1 56 rfl ?_
    obtain ⟨o8, ho8, hf⟩ := bnd hf
    refine v_callVi X (ci := 1) (T := TX1) (C := RX1) (As := [.int 1]) (rest := []) (ws' := (wX1 ad c9 o8.2.1 o8.2.2.1 o8.2.2.2.1 o8.2.2.2.2.1 o8.2.2.2.2.2.1 o8.2.2.2.2.2.2 p_t_count p_t_cells p_d_time p_d_tolerance p_d_seed p_d_madeTickets p_d_cheesesOfText p_d_R_rows p_d_R_cells p_d_U_rows p_d_U_cells p_d_S_rows p_d_S_cells p_d_T_rows p_d_T_cells p_d_E_rows p_d_E_cells)) (c_X1_semicolon l hG D c9 ad o7.2.1 o7.2.2.1 o7.2.2.2.1 o7.2.2.2.2.1 o7.2.2.2.2.2.1 o7.2.2.2.2.2.2 p_t_count p_t_cells p_d_time p_d_tolerance p_d_seed p_d_madeTickets p_d_cheesesOfText p_d_R_rows p_d_R_cells p_d_U_rows p_d_U_cells p_d_S_rows p_d_S_cells p_d_T_rows p_d_T_cells p_d_E_rows p_d_E_cells 1 ho8) 1 gX1_readService_X1_semicolon rfl rfl rfl ⟨rfl, pd_X1_semicolon⟩ ⟨Nat.le_of_ble_eq_true rfl, Nat.le_of_ble_eq_true rfl⟩ 0 rfl rfl rfl rfl (Nat.le_of_ble_eq_true rfl) ⟨Nat.zero_le _, Nat.zero_le _⟩ [0, 1, 2, 3, 4, 5, 6, 7, 8, 9, 10, 11, 12, 13] [] [0, 1, 2, 3, 4, 5, 6, 7, 8, 9, 10, 11, 12, 13] rfl rfl rfl rfl dX1_readService_56 59 rfl ?_
    refine v_if_eq X (tgt := 88) dX1_readService_59 rfl 62 rfl hf (fun hf => ?_) (fun hf => ?_)
    · cases hf
      exact v_vret X (Nat.zero_le _) (Nat.zero_le _) dX1_readService_88
    · refine v_aload_n X dX1_readService_62 3 rfl rfl 63 rfl ?_
      refine v_get X (C := RX1) (T := TX1) (N := 8) (ci := 1) (v := _) dX1_readService_63 k_X1_readService_w1 0 rfl rfl 1 (by decide) k_X1_readService_1 rfl rfl 66 rfl ?_
      refine v_getN X (C := RX5) (T := TX5) (N := 10) (ci := 5) (v := _) dX1_readService_66 k_X1_readService_w5 3 rfl rfl 2 (by decide) nest_RX1_174 rfl rfl 69 rfl ?_
      refine v_iload_n X dX1_readService_69 2 rfl rfl 70 rfl ?_
      refine v_iload_n X dX1_readService_70 1 rfl rfl 71 rfl ?_
      refine v_iload_n X dX1_readService_71 0 rfl rfl 72 rfl ?_
      obtain ⟨o9, ho9, hf⟩ := bnd hf
      refine v_callVv X (ci := 3) (T := TX3) (C := RX3) (As := [.int o5.1, .int o6.1, .int o7.1]) (rest := []) (ws' := (wX1 ad c9 o8.2.1 o8.2.2.1 o8.2.2.2.1 o8.2.2.2.2.1 o8.2.2.2.2.2.1 o8.2.2.2.2.2.2 p_t_count p_t_cells p_d_time p_d_tolerance p_d_seed p_d_madeTickets p_d_cheesesOfText p_d_R_rows p_d_R_cells p_d_U_rows p_d_U_cells o9.1 o9.2 p_d_T_rows p_d_T_cells p_d_E_rows p_d_E_cells)) (c_X3_addService l hG D c9 (fun k => ad ([8, 9].getD k 0)) p_d_S_rows p_d_S_cells o5.1 o6.1 o7.1 ho9) 3 gX1_readService_X3_addService rfl rfl rfl ⟨rfl, pd_X3_addService⟩ ⟨Nat.le_of_ble_eq_true rfl, Nat.le_of_ble_eq_true rfl⟩ 8 rfl rfl rfl rfl (Nat.le_of_ble_eq_true rfl) ⟨Nat.zero_le _, Nat.zero_le _⟩ [8, 9] [0, 1, 2, 3, 4, 5, 6, 7, 10, 11, 12, 13] [0, 1, 2, 3, 4, 5, 6, 7, 12, 13, 8, 9, 10, 11] rfl rfl rfl rfl dX1_readService_72 75 rfl ?_
      refine v_aload_n X dX1_readService_75 3 rfl rfl 76 rfl ?_
      refine v_get X (C := RX1) (T := TX1) (N := 8) (ci := 1) (v := _) dX1_readService_76 k_X1_readService_w1 0 rfl rfl 1 (by decide) k_X1_readService_1 rfl rfl 79 rfl ?_
      refine v_dup X dX1_readService_79 rfl 80 rfl ?_
      refine v_getN X (C := RX5) (T := TX5) (N := 10) (ci := 5) (v := _) dX1_readService_80 k_X1_readService_w5 3 rfl rfl 9 (by decide) nest_RX1_185 rfl rfl 83 rfl ?_
      refine v_iload_n X dX1_readService_83 0 rfl rfl 84 rfl ?_
      refine v_iadd X dX1_readService_84 85 rfl ?_
      refine v_putN X (C := RX5) (T := TX5) (N := 10) (ci := 5) (ty := tyX5 9) (ws' := (wX1 ad c9 o8.2.1 o8.2.2.1 o8.2.2.2.1 o8.2.2.2.2.1 o8.2.2.2.2.2.1 o8.2.2.2.2.2.2 p_t_count p_t_cells p_d_time p_d_tolerance p_d_seed p_d_madeTickets (p_d_cheesesOfText + o7.1) p_d_R_rows p_d_R_cells p_d_U_rows p_d_U_cells o9.1 o9.2 p_d_T_rows p_d_T_cells p_d_E_rows p_d_E_cells)) dX1_readService_85 k_X1_readService_w5 3 rfl rfl 9 (by decide) tyX5 tyX5_ok nmX5 nest_RX1_185 rfl rfl (tyX5_ok 9 (by decide)) rfl rfl (by decide) rfl 88 rfl ?_
      cases hf
      exact v_vret X (Nat.zero_le _) (Nat.zero_le _) dX1_readService_88
  clear hf
  refine v_if_ne X (tgt := 18) dX1_readService_11 rfl 14 rfl hj2 (fun hf => ?_) (fun hf => ?_)
  · refine v_iconst X dX1_readService_18 ic_0 19 rfl ?_
    cases hf
    exact Jj2
  · refine v_iconst X dX1_readService_14 ic_1 15 rfl ?_
    refine v_goto X (tgt := 19) dX1_readService_15 rfl ?_
    cases hf
    exact Jj2
theorem pd_X1_readService : yX1_readService.cls ≠ "java/lang/invoke/MethodHandle" ∧ yX1_readService.cls ≠ "java/lang/invoke/VarHandle" ∧ (parseMethodDescriptor yX1_readService.desc).map (fun d => d.parameters.length) = some 0 := by decide +kernel
theorem k_X1_knownTicket_w1 : ∀ w ∈ u_ws RX1 TX1 8, w ∈ wsX1_knownTicket := in_r _ [66, 67, 68, 69, 70, 71, 72, 73] rfl
theorem k_X1_knownTicket_1 : Cond.fieldLink RX1 12 "TicketGate$Parser" "draft" "LTicketGate$State;" ∈ wsX1_knownTicket := List.mem_of_getElem? (i := 1) rfl
theorem k_X1_knownTicket_w5 : ∀ w ∈ u_ws RX5 TX5 10, w ∈ wsX1_knownTicket := in_r _ [74, 75, 76, 77, 78, 79, 80, 81, 82, 83] rfl
theorem k_X1_knownTicket_2 : Cond.fieldLink RX1 151 "TicketGate$Parser" "value" "I" ∈ wsX1_knownTicket := List.mem_of_getElem? (i := 2) rfl
theorem pd_X6_rowWith_UX1_knownTicket_250 : "TicketGate$Table" ≠ "java/lang/invoke/MethodHandle" ∧ "TicketGate$Table" ≠ "java/lang/invoke/VarHandle" ∧ (parseMethodDescriptor "(II)I").map (fun d => d.parameters.length) = some 2 := by decide +kernel
theorem k_X1_knownTicket_3 : Cond.fieldLink RX1 43 "TicketGate$Parser" "kind" "I" ∈ wsX1_knownTicket := List.mem_of_getElem? (i := 3) rfl
def f_X1_knownTicket (p_start : Int32) (p_end : Int32) (p_kind : Int32) (p_value : Int32) (p_error : Int32) (p_errorAt : Int32) (p_t_count : Int32) (p_t_cells : Nat → Int32) (p_d_T_rows : Int32) (p_d_T_cells : Nat → Int32) : Option (Int32 × Int32 × Int32 × Int32 × Int32 × Int32 × Int32) :=
  (f_X6_rowWith 240 10 p_d_T_rows p_d_T_cells 0 p_value).bind fun o1 =>
  Option.bind (if p_kind = 2 then (
    some (1))
  else (
    some (0)) : Option (Int32)) fun j2 =>
  (f_X1_require p_start p_error p_errorAt j2 1).bind fun o3 =>
  Option.bind (if o1 = (-1) then (
    some (0))
  else (
    some (1)) : Option (Int32)) fun j4 =>
  (f_X1_require p_start o3.1 o3.2 j4 4).bind fun o5 =>
  (f_X1_take p_start p_end p_kind p_value o5.1 p_t_count p_t_cells).bind fun o6 =>
  some (o1, o6.2.1, o6.2.2.1, o6.2.2.2.1, o6.2.2.2.2, o5.1, o5.2)
set_option maxRecDepth 100000 in
set_option maxHeartbeats 4000000 in
theorem c_X1_knownTicket (l : Launch) {G : (Nat → Prop) → State → Heap → Prop} (hG : vG G) (D : va_G) (c9 : Nat → ClassId) (ad : Nat → Nat) (p_start : Int32) (p_end : Int32) (p_kind : Int32) (p_value : Int32) (p_error : Int32) (p_errorAt : Int32) (p_t_count : Int32) (p_t_cells : Nat → Int32) (p_d_time : Int32) (p_d_tolerance : Int32) (p_d_seed : Int32) (p_d_madeTickets : Int32) (p_d_cheesesOfText : Int32) (p_d_R_rows : Int32) (p_d_R_cells : Nat → Int32) (p_d_U_rows : Int32) (p_d_U_cells : Nat → Int32) (p_d_S_rows : Int32) (p_d_S_cells : Nat → Int32) (p_d_T_rows : Int32) (p_d_T_cells : Nat → Int32) (p_d_E_rows : Int32) (p_d_E_cells : Nat → Int32)  {o : Int32 × Int32 × Int32 × Int32 × Int32 × Int32 × Int32} (hf : f_X1_knownTicket p_start p_end p_kind p_value p_error p_errorAt p_t_count p_t_cells p_d_T_rows p_d_T_cells = some o) : mI l yX1_knownTicket wsX1_knownTicket { frames := 3, cells := 0, slots := 0, locals := 86 } G D (tyA c9) [.ref (ad 0)] (wX1 ad c9 p_start p_end p_kind p_value p_error p_errorAt p_t_count p_t_cells p_d_time p_d_tolerance p_d_seed p_d_madeTickets p_d_cheesesOfText p_d_R_rows p_d_R_cells p_d_U_rows p_d_U_cells p_d_S_rows p_d_S_cells p_d_T_rows p_d_T_cells p_d_E_rows p_d_E_cells) [] 0 0 o.1 (wX1 ad c9 o.2.1 o.2.2.1 o.2.2.2.1 o.2.2.2.2.1 o.2.2.2.2.2.1 o.2.2.2.2.2.2 p_t_count p_t_cells p_d_time p_d_tolerance p_d_seed p_d_madeTickets p_d_cheesesOfText p_d_R_rows p_d_R_cells p_d_U_rows p_d_U_cells p_d_S_rows p_d_S_cells p_d_T_rows p_d_T_cells p_d_E_rows p_d_E_cells) := by
  refine mI_of hG (cc := cX1_knownTicket) (maxL := 2) (ty := .int) (by decide) rfl (Nat.le_of_ble_eq_true rfl) ?_
  intro p e s m args below meth c A X
  have X : vX p s m args meth c cX1_knownTicket 2 (some .int) RX1 wsX1_knownTicket D (tyA c9) G A := X
  refine v_eq (lv2 := [(0, .ref (ad 0))]) rfl rfl rfl rfl ?_
  rw [f_X1_knownTicket] at hf
  refine v_aload_n X dX1_knownTicket_0 0 rfl rfl 1 rfl ?_
  refine v_get X (C := RX1) (T := TX1) (N := 8) (ci := 1) (v := _) dX1_knownTicket_1 k_X1_knownTicket_w1 0 rfl rfl 1 (by decide) k_X1_knownTicket_1 rfl rfl 4 rfl ?_
  refine v_getN X (C := RX5) (T := TX5) (N := 10) (ci := 5) (v := _) dX1_knownTicket_4 k_X1_knownTicket_w5 3 rfl rfl 3 (by decide) nest_RX1_225 rfl rfl 7 rfl ?_
  refine v_iconst X dX1_knownTicket_7 ic_0 8 rfl ?_
  refine v_aload_n X dX1_knownTicket_8 0 rfl rfl 9 rfl ?_
  refine v_get X (C := RX1) (T := TX1) (N := 8) (ci := 1) (v := _) dX1_knownTicket_9 k_X1_knownTicket_w1 0 rfl rfl 5 (by decide) k_X1_knownTicket_2 rfl rfl 12 rfl ?_
  obtain ⟨o1, ho1, hf⟩ := bnd hf
  refine v_callUi X (ci := 6) (T := TX7) (C := RX7) (owner := "TicketGate$Table") (As := [.int 0, .int p_value]) (rest := []) (ws' := (wX1 ad c9 p_start p_end p_kind p_value p_error p_errorAt p_t_count p_t_cells p_d_time p_d_tolerance p_d_seed p_d_madeTickets p_d_cheesesOfText p_d_R_rows p_d_R_cells p_d_U_rows p_d_U_cells p_d_S_rows p_d_S_cells p_d_T_rows p_d_T_cells p_d_E_rows p_d_E_cells)) (c_X6_rowWith l hG D c9 (fun k => ad ([10, 11].getD k 0)) 240 6 RX7 rfl kt_rowWith_X7 kt_get_X7 gX6_rowWith_X6_get_u31X7 24 10 p_d_T_rows p_d_T_cells 0 p_value ho1) 2 gX1_knownTicket_X6_rowWith_u250X7 rfl rfl rfl rfl pd_X6_rowWith_UX1_knownTicket_250 ⟨Nat.le_of_ble_eq_true rfl, Nat.le_of_ble_eq_true rfl⟩ 10 rfl rfl rfl rfl (Nat.le_of_ble_eq_true rfl) ⟨Nat.zero_le _, Nat.zero_le _⟩ [10, 11] [0, 1, 2, 3, 4, 5, 6, 7, 8, 9, 12, 13] [0, 1, 2, 3, 4, 5, 6, 7, 8, 9, 12, 13, 10, 11] rfl rfl rfl rfl dX1_knownTicket_12 15 rfl ?_
  refine v_istore_n X (lv' := [(1, .int o1), (0, .ref (ad 0))]) dX1_knownTicket_15 rfl (by decide) rfl 16 rfl ?_
  refine v_aload_n X dX1_knownTicket_16 1 rfl rfl 17 rfl ?_
  refine v_aload_n X dX1_knownTicket_17 1 rfl rfl 18 rfl ?_
  refine v_get X (C := RX1) (T := TX1) (N := 8) (ci := 1) (v := _) dX1_knownTicket_18 k_X1_knownTicket_w1 0 rfl rfl 4 (by decide) k_X1_knownTicket_3 rfl rfl 21 rfl ?_
  refine v_iconst X dX1_knownTicket_21 ic_2 22 rfl ?_
  obtain ⟨j2, hj2, hf⟩ := bnd hf
  have Jj2 : vW p l e { frames := 3, cells := 0, slots := 0, locals := 86 } s m args below meth c 2 D A [] 0 0 (MQ below (eI D (tyA c9) A o.1 ((wX1 ad c9 o.2.1 o.2.2.1 o.2.2.2.1 o.2.2.2.2.1 o.2.2.2.2.2.1 o.2.2.2.2.2.2 p_t_count p_t_cells p_d_time p_d_tolerance p_d_seed p_d_madeTickets p_d_cheesesOfText p_d_R_rows p_d_R_cells p_d_U_rows p_d_U_cells p_d_S_rows p_d_S_cells p_d_T_rows p_d_T_cells p_d_E_rows p_d_E_cells) ++ [])) args s 0 0 A) (wX1 ad c9 p_start p_end p_kind p_value p_error p_errorAt p_t_count p_t_cells p_d_time p_d_tolerance p_d_seed p_d_madeTickets p_d_cheesesOfText p_d_R_rows p_d_R_cells p_d_U_rows p_d_U_cells p_d_S_rows p_d_S_cells p_d_T_rows p_d_T_cells p_d_E_rows p_d_E_cells) 30 [(0, .ref (ad 0)), (1, .int o1)] [.int j2, .ref (ad 0)] := by
    refine v_iconst X dX1_knownTicket_30 ic_1 31 rfl ?_
    obtain ⟨o3, ho3, hf⟩ := bnd hf
    refine v_callVv X (ci := 1) (T := TX1) (C := RX1) (As := [.int j2, .int 1]) (rest := []) (ws' := (wX1 ad c9 p_start p_end p_kind p_value o3.1 o3.2 p_t_count p_t_cells p_d_time p_d_tolerance p_d_seed p_d_madeTickets p_d_cheesesOfText p_d_R_rows p_d_R_cells p_d_U_rows p_d_U_cells p_d_S_rows p_d_S_cells p_d_T_rows p_d_T_cells p_d_E_rows p_d_E_cells)) (c_X1_require l hG D c9 ad p_start p_end p_kind p_value p_error p_errorAt p_t_count p_t_cells p_d_time p_d_tolerance p_d_seed p_d_madeTickets p_d_cheesesOfText p_d_R_rows p_d_R_cells p_d_U_rows p_d_U_cells p_d_S_rows p_d_S_cells p_d_T_rows p_d_T_cells p_d_E_rows p_d_E_cells j2 1 ho3) 2 gX1_knownTicket_X1_require rfl rfl rfl ⟨rfl, pd_X1_require⟩ ⟨Nat.le_of_ble_eq_true rfl, Nat.le_of_ble_eq_true rfl⟩ 0 rfl rfl rfl rfl (Nat.le_of_ble_eq_true rfl) ⟨Nat.zero_le _, Nat.zero_le _⟩ [0, 1, 2, 3, 4, 5, 6, 7, 8, 9, 10, 11, 12, 13] [] [0, 1, 2, 3, 4, 5, 6, 7, 8, 9, 10, 11, 12, 13] rfl rfl rfl rfl dX1_knownTicket_31 34 rfl ?_
    refine v_aload_n X dX1_knownTicket_34 0 rfl rfl 35 rfl ?_
    refine v_iload_n X dX1_knownTicket_35 1 rfl rfl 36 rfl ?_
    refine v_iconst X dX1_knownTicket_36 ic_m1 37 rfl ?_
    obtain ⟨j4, hj4, hf⟩ := bnd hf
    have Jj4 : vW p l e { frames := 3, cells := 0, slots := 0, locals := 86 } s m args below meth c 2 D A [] 0 0 (MQ below (eI D (tyA c9) A o.1 ((wX1 ad c9 o.2.1 o.2.2.1 o.2.2.2.1 o.2.2.2.2.1 o.2.2.2.2.2.1 o.2.2.2.2.2.2 p_t_count p_t_cells p_d_time p_d_tolerance p_d_seed p_d_madeTickets p_d_cheesesOfText p_d_R_rows p_d_R_cells p_d_U_rows p_d_U_cells p_d_S_rows p_d_S_cells p_d_T_rows p_d_T_cells p_d_E_rows p_d_E_cells) ++ [])) args s 0 0 A) (wX1 ad c9 p_start p_end p_kind p_value o3.1 o3.2 p_t_count p_t_cells p_d_time p_d_tolerance p_d_seed p_d_madeTickets p_d_cheesesOfText p_d_R_rows p_d_R_cells p_d_U_rows p_d_U_cells p_d_S_rows p_d_S_cells p_d_T_rows p_d_T_cells p_d_E_rows p_d_E_cells) 45 [(0, .ref (ad 0)), (1, .int o1)] [.int j4, .ref (ad 0)] := by
      refine v_iconst X dX1_knownTicket_45 ic_4 46 rfl ?_
      obtain ⟨o5, ho5, hf⟩ := bnd hf
      refine v_callVv X (ci := 1) (T := TX1) (C := RX1) (As := [.int j4, .int 4]) (rest := []) (ws' := (wX1 ad c9 p_start p_end p_kind p_value o5.1 o5.2 p_t_count p_t_cells p_d_time p_d_tolerance p_d_seed p_d_madeTickets p_d_cheesesOfText p_d_R_rows p_d_R_cells p_d_U_rows p_d_U_cells p_d_S_rows p_d_S_cells p_d_T_rows p_d_T_cells p_d_E_rows p_d_E_cells)) (c_X1_require l hG D c9 ad p_start p_end p_kind p_value o3.1 o3.2 p_t_count p_t_cells p_d_time p_d_tolerance p_d_seed p_d_madeTickets p_d_cheesesOfText p_d_R_rows p_d_R_cells p_d_U_rows p_d_U_cells p_d_S_rows p_d_S_cells p_d_T_rows p_d_T_cells p_d_E_rows p_d_E_cells j4 4 ho5) 2 gX1_knownTicket_X1_require rfl rfl rfl ⟨rfl, pd_X1_require⟩ ⟨Nat.le_of_ble_eq_true rfl, Nat.le_of_ble_eq_true rfl⟩ 0 rfl rfl rfl rfl (Nat.le_of_ble_eq_true rfl) ⟨Nat.zero_le _, Nat.zero_le _⟩ [0, 1, 2, 3, 4, 5, 6, 7, 8, 9, 10, 11, 12, 13] [] [0, 1, 2, 3, 4, 5, 6, 7, 8, 9, 10, 11, 12, 13] rfl rfl rfl rfl dX1_knownTicket_46 49 rfl ?_
      refine v_aload_n X dX1_knownTicket_49 0 rfl rfl 50 rfl ?_
      obtain ⟨o6, ho6, hf⟩ := bnd hf
      refine v_callVi X (ci := 1) (T := TX1) (C := RX1) (As := []) (rest := []) (ws' := (wX1 ad c9 o6.2.1 o6.2.2.1 o6.2.2.2.1 o6.2.2.2.2 o5.1 o5.2 p_t_count p_t_cells p_d_time p_d_tolerance p_d_seed p_d_madeTickets p_d_cheesesOfText p_d_R_rows p_d_R_cells p_d_U_rows p_d_U_cells p_d_S_rows p_d_S_cells p_d_T_rows p_d_T_cells p_d_E_rows p_d_E_cells)) (c_X1_take l hG D c9 ad p_start p_end p_kind p_value o5.1 o5.2 p_t_count p_t_cells p_d_time p_d_tolerance p_d_seed p_d_madeTickets p_d_cheesesOfText p_d_R_rows p_d_R_cells p_d_U_rows p_d_U_cells p_d_S_rows p_d_S_cells p_d_T_rows p_d_T_cells p_d_E_rows p_d_E_cells ho6) 0 gX1_knownTicket_X1_take rfl rfl rfl ⟨rfl, pd_X1_take⟩ ⟨Nat.le_of_ble_eq_true rfl, Nat.le_of_ble_eq_true rfl⟩ 0 rfl rfl rfl rfl (Nat.le_of_ble_eq_true rfl) ⟨Nat.zero_le _, Nat.zero_le _⟩ [0, 1, 2, 3, 4, 5, 6, 7, 8, 9, 10, 11, 12, 13] [] [0, 1, 2, 3, 4, 5, 6, 7, 8, 9, 10, 11, 12, 13] rfl rfl rfl rfl dX1_knownTicket_50 53 rfl ?_
      refine v_pop X dX1_knownTicket_53 rfl 54 rfl ?_
      refine v_iload_n X dX1_knownTicket_54 1 rfl rfl 55 rfl ?_
      cases hf
      exact v_iret X (Nat.zero_le _) (Nat.zero_le _) dX1_knownTicket_55
    clear hf
    refine v_icmp_eq X (tgt := 44) dX1_knownTicket_37 rfl 40 rfl hj4 (fun hf => ?_) (fun hf => ?_)
    · refine v_iconst X dX1_knownTicket_44 ic_0 45 rfl ?_
      cases hf
      exact Jj4
    · refine v_iconst X dX1_knownTicket_40 ic_1 41 rfl ?_
      refine v_goto X (tgt := 45) dX1_knownTicket_41 rfl ?_
      cases hf
      exact Jj4
  clear hf
  refine v_icmp_ne X (tgt := 29) dX1_knownTicket_22 rfl 25 rfl hj2 (fun hf => ?_) (fun hf => ?_)
  · refine v_iconst X dX1_knownTicket_29 ic_0 30 rfl ?_
    cases hf
    refine v_sub (lv' := [(0, .ref (ad 0)), (1, .int o1)]) [1, 0] rfl ?_
    exact Jj2
  · refine v_iconst X dX1_knownTicket_25 ic_1 26 rfl ?_
    refine v_goto X (tgt := 30) dX1_knownTicket_26 rfl ?_
    cases hf
    refine v_sub (lv' := [(0, .ref (ad 0)), (1, .int o1)]) [1, 0] rfl ?_
    exact Jj2
theorem pd_X1_knownTicket : yX1_knownTicket.cls ≠ "java/lang/invoke/MethodHandle" ∧ yX1_knownTicket.cls ≠ "java/lang/invoke/VarHandle" ∧ (parseMethodDescriptor yX1_knownTicket.desc).map (fun d => d.parameters.length) = some 0 := by decide +kernel
theorem k_X1_readRefer_w1 : ∀ w ∈ u_ws RX1 TX1 8, w ∈ wsX1_readRefer := in_r _ [174, 175, 176, 177, 178, 179, 180, 181] rfl
theorem k_X1_readRefer_1 : Cond.fieldLink RX1 12 "TicketGate$Parser" "draft" "LTicketGate$State;" ∈ wsX1_readRefer := List.mem_of_getElem? (i := 1) rfl
theorem k_X1_readRefer_w5 : ∀ w ∈ u_ws RX5 TX5 10, w ∈ wsX1_readRefer := in_r _ [182, 183, 184, 185, 186, 187, 188, 189, 190, 191] rfl
def f_X1_readRefer (p_start : Int32) (p_end : Int32) (p_kind : Int32) (p_value : Int32) (p_error : Int32) (p_errorAt : Int32) (p_t_count : Int32) (p_t_cells : Nat → Int32) (p_d_time : Int32) (p_d_tolerance : Int32) (p_d_seed : Int32) (p_d_madeTickets : Int32) (p_d_R_rows : Int32) (p_d_R_cells : Nat → Int32) (p_d_U_rows : Int32) (p_d_U_cells : Nat → Int32) (p_d_T_rows : Int32) (p_d_T_cells : Nat → Int32) : Option (Int32 × Int32 × Int32 × Int32 × Int32 × Int32 × Int32 × Int32 × Int32 × (Nat → Int32)) :=
  (f_X1_take p_start p_end p_kind p_value p_error p_t_count p_t_cells).bind fun o1 =>
  (f_X1_knownTicket o1.2.1 o1.2.2.1 o1.2.2.2.1 o1.2.2.2.2 p_error p_errorAt p_t_count p_t_cells p_d_T_rows p_d_T_cells).bind fun o2 =>
  (f_X1_knownName_realms o2.2.1 o2.2.2.1 o2.2.2.2.1 o2.2.2.2.2.1 o2.2.2.2.2.2.1 o2.2.2.2.2.2.2 p_t_count p_t_cells p_d_R_rows p_d_R_cells 0).bind fun o3 =>
  (f_X5_whyNoReferral p_d_time p_d_tolerance p_d_R_rows p_d_R_cells p_d_U_rows p_d_U_cells p_d_T_rows p_d_T_cells o2.1 o3.1).bind fun o4 =>
  Option.bind (if o4 = 0 then (
    some (1))
  else (
    some (0)) : Option (Int32)) fun j5 =>
  (f_X1_semicolon o3.2.1 o3.2.2.1 o3.2.2.2.1 o3.2.2.2.2.1 o3.2.2.2.2.2.1 o3.2.2.2.2.2.2 p_t_count p_t_cells j5).bind fun o6 =>
  if o6.1 = 0 then (
    some (o6.2.1, o6.2.2.1, o6.2.2.2.1, o6.2.2.2.2.1, o6.2.2.2.2.2.1, o6.2.2.2.2.2.2, p_d_seed, p_d_madeTickets, p_d_T_rows, p_d_T_cells))
  else (
    (f_X5_makeReferral p_d_time p_d_seed p_d_madeTickets p_d_R_rows p_d_R_cells p_d_T_rows p_d_T_cells o2.1 o3.1).bind fun o7 =>
    some (o6.2.1, o6.2.2.1, o6.2.2.2.1, o6.2.2.2.2.1, o6.2.2.2.2.2.1, o6.2.2.2.2.2.2, o7.2.1, o7.2.2.1, o7.2.2.2.1, o7.2.2.2.2))
set_option maxRecDepth 100000 in
set_option maxHeartbeats 4000000 in
theorem c_X1_readRefer (l : Launch) {G : (Nat → Prop) → State → Heap → Prop} (hG : vG G) (D : va_G) (c9 : Nat → ClassId) (ad : Nat → Nat) (p_start : Int32) (p_end : Int32) (p_kind : Int32) (p_value : Int32) (p_error : Int32) (p_errorAt : Int32) (p_t_count : Int32) (p_t_cells : Nat → Int32) (p_d_time : Int32) (p_d_tolerance : Int32) (p_d_seed : Int32) (p_d_madeTickets : Int32) (p_d_cheesesOfText : Int32) (p_d_R_rows : Int32) (p_d_R_cells : Nat → Int32) (p_d_U_rows : Int32) (p_d_U_cells : Nat → Int32) (p_d_S_rows : Int32) (p_d_S_cells : Nat → Int32) (p_d_T_rows : Int32) (p_d_T_cells : Nat → Int32) (p_d_E_rows : Int32) (p_d_E_cells : Nat → Int32)  {o : Int32 × Int32 × Int32 × Int32 × Int32 × Int32 × Int32 × Int32 × Int32 × (Nat → Int32)} (hf : f_X1_readRefer p_start p_end p_kind p_value p_error p_errorAt p_t_count p_t_cells p_d_time p_d_tolerance p_d_seed p_d_madeTickets p_d_R_rows p_d_R_cells p_d_U_rows p_d_U_cells p_d_T_rows p_d_T_cells = some o) : mV l yX1_readRefer wsX1_readRefer { frames := 4, cells := 0, slots := 0, locals := 113 } G D (tyA c9) [.ref (ad 0)] (wX1 ad c9 p_start p_end p_kind p_value p_error p_errorAt p_t_count p_t_cells p_d_time p_d_tolerance p_d_seed p_d_madeTickets p_d_cheesesOfText p_d_R_rows p_d_R_cells p_d_U_rows p_d_U_cells p_d_S_rows p_d_S_cells p_d_T_rows p_d_T_cells p_d_E_rows p_d_E_cells) [] 0 0 (wX1 ad c9 o.1 o.2.1 o.2.2.1 o.2.2.2.1 o.2.2.2.2.1 o.2.2.2.2.2.1 p_t_count p_t_cells p_d_time p_d_tolerance o.2.2.2.2.2.2.1 o.2.2.2.2.2.2.2.1 p_d_cheesesOfText p_d_R_rows p_d_R_cells p_d_U_rows p_d_U_cells p_d_S_rows p_d_S_cells o.2.2.2.2.2.2.2.2.1 o.2.2.2.2.2.2.2.2.2 p_d_E_rows p_d_E_cells) := by
  refine mV_of hG (cc := cX1_readRefer) (maxL := 3) (by decide) rfl (Nat.le_of_ble_eq_true rfl) ?_
  intro p e s m args below meth c A hnm X
  have X : vX p s m args meth c cX1_readRefer 3 none RX1 wsX1_readRefer D (tyA c9) G A := X
  refine v_eq (lv2 := [(0, .ref (ad 0))]) rfl rfl rfl rfl ?_
  rw [f_X1_readRefer] at hf
  refine v_aload_n X dX1_readRefer_0 0 rfl rfl 1 rfl ?_
  obtain ⟨o1, ho1, hf⟩ := bnd hf
  refine v_callVi X (ci := 1) (T := TX1) (C := RX1) (As := []) (rest := []) (ws' := (wX1 ad c9 o1.2.1 o1.2.2.1 o1.2.2.2.1 o1.2.2.2.2 p_error p_errorAt p_t_count p_t_cells p_d_time p_d_tolerance p_d_seed p_d_madeTickets p_d_cheesesOfText p_d_R_rows p_d_R_cells p_d_U_rows p_d_U_cells p_d_S_rows p_d_S_cells p_d_T_rows p_d_T_cells p_d_E_rows p_d_E_cells)) (c_X1_take l hG D c9 ad p_start p_end p_kind p_value p_error p_errorAt p_t_count p_t_cells p_d_time p_d_tolerance p_d_seed p_d_madeTickets p_d_cheesesOfText p_d_R_rows p_d_R_cells p_d_U_rows p_d_U_cells p_d_S_rows p_d_S_cells p_d_T_rows p_d_T_cells p_d_E_rows p_d_E_cells ho1) 0 gX1_readRefer_X1_take rfl rfl rfl ⟨rfl, pd_X1_take⟩ ⟨Nat.le_of_ble_eq_true rfl, Nat.le_of_ble_eq_true rfl⟩ 0 rfl rfl rfl rfl (Nat.le_of_ble_eq_true rfl) ⟨Nat.zero_le _, Nat.zero_le _⟩ [0, 1, 2, 3, 4, 5, 6, 7, 8, 9, 10, 11, 12, 13] [] [0, 1, 2, 3, 4, 5, 6, 7, 8, 9, 10, 11, 12, 13] rfl rfl rfl rfl dX1_readRefer_1 4 rfl ?_
  refine v_pop X dX1_readRefer_4 rfl 5 rfl ?_
  refine v_aload_n X dX1_readRefer_5 0 rfl rfl 6 rfl ?_
  obtain ⟨o2, ho2, hf⟩ := bnd hf
  refine v_callVi X (ci := 1) (T := TX1) (C := RX1) (As := []) (rest := []) (ws' := (wX1 ad c9 o2.2.1 o2.2.2.1 o2.2.2.2.1 o2.2.2.2.2.1 o2.2.2.2.2.2.1 o2.2.2.2.2.2.2 p_t_count p_t_cells p_d_time p_d_tolerance p_d_seed p_d_madeTickets p_d_cheesesOfText p_d_R_rows p_d_R_cells p_d_U_rows p_d_U_cells p_d_S_rows p_d_S_cells p_d_T_rows p_d_T_cells p_d_E_rows p_d_E_cells)) (c_X1_knownTicket l hG D c9 ad o1.2.1 o1.2.2.1 o1.2.2.2.1 o1.2.2.2.2 p_error p_errorAt p_t_count p_t_cells p_d_time p_d_tolerance p_d_seed p_d_madeTickets p_d_cheesesOfText p_d_R_rows p_d_R_cells p_d_U_rows p_d_U_cells p_d_S_rows p_d_S_cells p_d_T_rows p_d_T_cells p_d_E_rows p_d_E_cells ho2) 0 gX1_readRefer_X1_knownTicket rfl rfl rfl ⟨rfl, pd_X1_knownTicket⟩ ⟨Nat.le_of_ble_eq_true rfl, Nat.le_of_ble_eq_true rfl⟩ 0 rfl rfl rfl rfl (Nat.le_of_ble_eq_true rfl) ⟨Nat.zero_le _, Nat.zero_le _⟩ [0, 1, 2, 3, 4, 5, 6, 7, 8, 9, 10, 11, 12, 13] [] [0, 1, 2, 3, 4, 5, 6, 7, 8, 9, 10, 11, 12, 13] rfl rfl rfl rfl dX1_readRefer_6 9 rfl ?_
  refine v_istore_n X (lv' := [(1, .int o2.1), (0, .ref (ad 0))]) dX1_readRefer_9 rfl (by decide) rfl 10 rfl ?_
  refine v_aload_n X dX1_readRefer_10 1 rfl rfl 11 rfl ?_
  refine v_aload_n X dX1_readRefer_11 1 rfl rfl 12 rfl ?_
  refine v_get X (C := RX1) (T := TX1) (N := 8) (ci := 1) (v := _) dX1_readRefer_12 k_X1_readRefer_w1 0 rfl rfl 1 (by decide) k_X1_readRefer_1 rfl rfl 15 rfl ?_
  refine v_getN X (C := RX5) (T := TX5) (N := 10) (ci := 5) (v := _) dX1_readRefer_15 k_X1_readRefer_w5 3 rfl rfl 0 (by decide) nest_RX1_127 rfl rfl 18 rfl ?_
  refine v_iconst X dX1_readRefer_18 ic_0 19 rfl ?_
  obtain ⟨o3, ho3, hf⟩ := bnd hf
  refine v_callVi X (ci := 1) (T := TX1) (C := RX1) (As := [.ref (ad 4), .int 0]) (rest := []) (ws' := (wX1 ad c9 o3.2.1 o3.2.2.1 o3.2.2.2.1 o3.2.2.2.2.1 o3.2.2.2.2.2.1 o3.2.2.2.2.2.2 p_t_count p_t_cells p_d_time p_d_tolerance p_d_seed p_d_madeTickets p_d_cheesesOfText p_d_R_rows p_d_R_cells p_d_U_rows p_d_U_cells p_d_S_rows p_d_S_cells p_d_T_rows p_d_T_cells p_d_E_rows p_d_E_cells)) (c_X1_knownName_realms l hG D c9 ad o2.2.1 o2.2.2.1 o2.2.2.2.1 o2.2.2.2.2.1 o2.2.2.2.2.2.1 o2.2.2.2.2.2.2 p_t_count p_t_cells p_d_time p_d_tolerance p_d_seed p_d_madeTickets p_d_cheesesOfText p_d_R_rows p_d_R_cells p_d_U_rows p_d_U_cells p_d_S_rows p_d_S_cells p_d_T_rows p_d_T_cells p_d_E_rows p_d_E_cells 0 ho3) 2 gX1_readRefer_X1_knownName rfl rfl rfl ⟨rfl, pd_X1_knownName⟩ ⟨Nat.le_of_ble_eq_true rfl, Nat.le_of_ble_eq_true rfl⟩ 0 rfl rfl rfl rfl (Nat.le_of_ble_eq_true rfl) ⟨Nat.zero_le _, Nat.zero_le _⟩ [0, 1, 2, 3, 4, 5, 6, 7, 8, 9, 10, 11, 12, 13] [] [0, 1, 2, 3, 4, 5, 6, 7, 8, 9, 10, 11, 12, 13] rfl rfl rfl rfl dX1_readRefer_19 22 rfl ?_
  refine v_istore_n X (lv' := [(2, .int o3.1), (1, .int o2.1), (0, .ref (ad 0))]) dX1_readRefer_22 rfl (by decide) rfl 23 rfl ?_
  refine v_aload_n X dX1_readRefer_23 2 rfl rfl 24 rfl ?_
  refine v_aload_n X dX1_readRefer_24 2 rfl rfl 25 rfl ?_
  refine v_get X (C := RX1) (T := TX1) (N := 8) (ci := 1) (v := _) dX1_readRefer_25 k_X1_readRefer_w1 0 rfl rfl 1 (by decide) k_X1_readRefer_1 rfl rfl 28 rfl ?_
  refine v_iload_n X dX1_readRefer_28 1 rfl rfl 29 rfl ?_
  refine v_iload_n X dX1_readRefer_29 0 rfl rfl 30 rfl ?_
  obtain ⟨o4, ho4, hf⟩ := bnd hf
  refine v_callVi X (ci := 5) (T := TX5) (C := RX5) (As := [.int o2.1, .int o3.1]) (rest := [.ref (ad 0)]) (ws' := (wX1 ad c9 o3.2.1 o3.2.2.1 o3.2.2.2.1 o3.2.2.2.2.1 o3.2.2.2.2.2.1 o3.2.2.2.2.2.2 p_t_count p_t_cells p_d_time p_d_tolerance p_d_seed p_d_madeTickets p_d_cheesesOfText p_d_R_rows p_d_R_cells p_d_U_rows p_d_U_cells p_d_S_rows p_d_S_cells p_d_T_rows p_d_T_cells p_d_E_rows p_d_E_cells)) (c_X5_whyNoReferral l hG D c9 (fun k => ad ([3, 4, 5, 6, 7, 8, 9, 10, 11, 12, 13].getD k 0)) p_d_time p_d_tolerance p_d_seed p_d_madeTickets p_d_cheesesOfText p_d_R_rows p_d_R_cells p_d_U_rows p_d_U_cells p_d_S_rows p_d_S_cells p_d_T_rows p_d_T_cells p_d_E_rows p_d_E_cells o2.1 o3.1 ho4) 2 gX1_readRefer_X5_whyNoReferral rfl rfl rfl ⟨rfl, pd_X5_whyNoReferral⟩ ⟨Nat.le_of_ble_eq_true rfl, Nat.le_of_ble_eq_true rfl⟩ 3 rfl rfl rfl rfl (Nat.le_of_ble_eq_true rfl) ⟨Nat.zero_le _, Nat.zero_le _⟩ [3, 4, 5, 6, 7, 8, 9, 10, 11, 12, 13] [0, 1, 2] [0, 1, 2, 3, 4, 5, 6, 7, 8, 9, 10, 11, 12, 13] rfl rfl rfl rfl dX1_readRefer_30 33 rfl ?_
  obtain ⟨j5, hj5, hf⟩ := bnd hf
  have Jj5 : vW p l e { frames := 4, cells := 0, slots := 0, locals := 113 } s m args below meth c 3 D A [] 0 0 (MQ below (eV D (tyA c9) A ((wX1 ad c9 o.1 o.2.1 o.2.2.1 o.2.2.2.1 o.2.2.2.2.1 o.2.2.2.2.2.1 p_t_count p_t_cells p_d_time p_d_tolerance o.2.2.2.2.2.2.1 o.2.2.2.2.2.2.2.1 p_d_cheesesOfText p_d_R_rows p_d_R_cells p_d_U_rows p_d_U_cells p_d_S_rows p_d_S_cells o.2.2.2.2.2.2.2.2.1 o.2.2.2.2.2.2.2.2.2 p_d_E_rows p_d_E_cells) ++ [])) args s 0 0 A) (wX1 ad c9 o3.2.1 o3.2.2.1 o3.2.2.2.1 o3.2.2.2.2.1 o3.2.2.2.2.2.1 o3.2.2.2.2.2.2 p_t_count p_t_cells p_d_time p_d_tolerance p_d_seed p_d_madeTickets p_d_cheesesOfText p_d_R_rows p_d_R_cells p_d_U_rows p_d_U_cells p_d_S_rows p_d_S_cells p_d_T_rows p_d_T_cells p_d_E_rows p_d_E_cells) 41 [(0, .ref (ad 0)), (1, .int o2.1), (2, .int o3.1)] [.int j5, .ref (ad 0)] := by
    obtain ⟨o6, ho6, hf⟩ := bnd hf
    refine v_callVi X (ci := 1) (T := TX1) (C := RX1) (As := [.int j5]) (rest := []) (ws' := (wX1 ad c9 o6.2.1 o6.2.2.1 o6.2.2.2.1 o6.2.2.2.2.1 o6.2.2.2.2.2.1 o6.2.2.2.2.2.2 p_t_count p_t_cells p_d_time p_d_tolerance p_d_seed p_d_madeTickets p_d_cheesesOfText p_d_R_rows p_d_R_cells p_d_U_rows p_d_U_cells p_d_S_rows p_d_S_cells p_d_T_rows p_d_T_cells p_d_E_rows p_d_E_cells)) (c_X1_semicolon l hG D c9 ad o3.2.1 o3.2.2.1 o3.2.2.2.1 o3.2.2.2.2.1 o3.2.2.2.2.2.1 o3.2.2.2.2.2.2 p_t_count p_t_cells p_d_time p_d_tolerance p_d_seed p_d_madeTickets p_d_cheesesOfText p_d_R_rows p_d_R_cells p_d_U_rows p_d_U_cells p_d_S_rows p_d_S_cells p_d_T_rows p_d_T_cells p_d_E_rows p_d_E_cells j5 ho6) 1 gX1_readRefer_X1_semicolon rfl rfl rfl ⟨rfl, pd_X1_semicolon⟩ ⟨Nat.le_of_ble_eq_true rfl, Nat.le_of_ble_eq_true rfl⟩ 0 rfl rfl rfl rfl (Nat.le_of_ble_eq_true rfl) ⟨Nat.zero_le _, Nat.zero_le _⟩ [0, 1, 2, 3, 4, 5, 6, 7, 8, 9, 10, 11, 12, 13] [] [0, 1, 2, 3, 4, 5, 6, 7, 8, 9, 10, 11, 12, 13] rfl rfl rfl rfl dX1_readRefer_41 44 rfl ?_
    refine v_if_eq X (tgt := 57) dX1_readRefer_44 rfl 47 rfl hf (fun hf => ?_) (fun hf => ?_)
    · cases hf
      exact v_vret X (Nat.zero_le _) (Nat.zero_le _) dX1_readRefer_57
    · refine v_aload_n X dX1_readRefer_47 0 rfl rfl 48 rfl ?_
      refine v_get X (C := RX1) (T := TX1) (N := 8) (ci := 1) (v := _) dX1_readRefer_48 k_X1_readRefer_w1 0 rfl rfl 1 (by decide) k_X1_readRefer_1 rfl rfl 51 rfl ?_
      refine v_iload_n X dX1_readRefer_51 1 rfl rfl 52 rfl ?_
      refine v_iload_n X dX1_readRefer_52 2 rfl rfl 53 rfl ?_
      obtain ⟨o7, ho7, hf⟩ := bnd hf
      refine v_callVi X (ci := 5) (T := TX5) (C := RX5) (As := [.int o2.1, .int o3.1]) (rest := []) (ws' := (wX1 ad c9 o6.2.1 o6.2.2.1 o6.2.2.2.1 o6.2.2.2.2.1 o6.2.2.2.2.2.1 o6.2.2.2.2.2.2 p_t_count p_t_cells p_d_time p_d_tolerance o7.2.1 o7.2.2.1 p_d_cheesesOfText p_d_R_rows p_d_R_cells p_d_U_rows p_d_U_cells p_d_S_rows p_d_S_cells o7.2.2.2.1 o7.2.2.2.2 p_d_E_rows p_d_E_cells)) (c_X5_makeReferral l hG D c9 (fun k => ad ([3, 4, 5, 6, 7, 8, 9, 10, 11, 12, 13].getD k 0)) p_d_time p_d_tolerance p_d_seed p_d_madeTickets p_d_cheesesOfText p_d_R_rows p_d_R_cells p_d_U_rows p_d_U_cells p_d_S_rows p_d_S_cells p_d_T_rows p_d_T_cells p_d_E_rows p_d_E_cells o2.1 o3.1 ho7) 2 gX1_readRefer_X5_makeReferral rfl rfl rfl ⟨rfl, pd_X5_makeReferral⟩ ⟨Nat.le_of_ble_eq_true rfl, Nat.le_of_ble_eq_true rfl⟩ 3 rfl rfl rfl rfl (Nat.le_of_ble_eq_true rfl) ⟨Nat.zero_le _, Nat.zero_le _⟩ [3, 4, 5, 6, 7, 8, 9, 10, 11, 12, 13] [0, 1, 2] [0, 1, 2, 3, 4, 5, 6, 7, 8, 9, 10, 11, 12, 13] rfl rfl rfl rfl dX1_readRefer_53 56 rfl ?_
      refine v_pop X dX1_readRefer_56 rfl 57 rfl ?_
      cases hf
      exact v_vret X (Nat.zero_le _) (Nat.zero_le _) dX1_readRefer_57
  clear hf
  refine v_if_ne X (tgt := 40) dX1_readRefer_33 rfl 36 rfl hj5 (fun hf => ?_) (fun hf => ?_)
  · refine v_iconst X dX1_readRefer_40 ic_0 41 rfl ?_
    cases hf
    refine v_sub (lv' := [(0, .ref (ad 0)), (1, .int o2.1), (2, .int o3.1)]) [2, 1, 0] rfl ?_
    exact Jj5
  · refine v_iconst X dX1_readRefer_36 ic_1 37 rfl ?_
    refine v_goto X (tgt := 41) dX1_readRefer_37 rfl ?_
    cases hf
    refine v_sub (lv' := [(0, .ref (ad 0)), (1, .int o2.1), (2, .int o3.1)]) [2, 1, 0] rfl ?_
    exact Jj5
theorem pd_X1_readRefer : yX1_readRefer.cls ≠ "java/lang/invoke/MethodHandle" ∧ yX1_readRefer.cls ≠ "java/lang/invoke/VarHandle" ∧ (parseMethodDescriptor yX1_readRefer.desc).map (fun d => d.parameters.length) = some 0 := by decide +kernel
theorem k_X1_knownName_services_w1 : ∀ w ∈ u_ws RX1 TX1 8, w ∈ wsX1_knownName := in_r _ [70, 71, 72, 73, 74, 75, 76, 77] rfl
theorem k_X1_knownName_services_1 : Cond.fieldLink RX1 151 "TicketGate$Parser" "value" "I" ∈ wsX1_knownName := List.mem_of_getElem? (i := 1) rfl
theorem pd_X6_rowWith_UX1_knownName_247 : "TicketGate$Table" ≠ "java/lang/invoke/MethodHandle" ∧ "TicketGate$Table" ≠ "java/lang/invoke/VarHandle" ∧ (parseMethodDescriptor "(II)I").map (fun d => d.parameters.length) = some 2 := by decide +kernel
theorem k_X1_knownName_services_2 : Cond.fieldLink RX1 43 "TicketGate$Parser" "kind" "I" ∈ wsX1_knownName := List.mem_of_getElem? (i := 2) rfl
def f_X1_knownName_services (p_start : Int32) (p_end : Int32) (p_kind : Int32) (p_value : Int32) (p_error : Int32) (p_errorAt : Int32) (p_t_count : Int32) (p_t_cells : Nat → Int32) (p_d_S_rows : Int32) (p_d_S_cells : Nat → Int32) (v2 : Int32) : Option (Int32 × Int32 × Int32 × Int32 × Int32 × Int32 × Int32) :=
  (f_X6_rowWith 18 3 p_d_S_rows p_d_S_cells v2 p_value).bind fun o1 =>
  Option.bind (if p_kind = 1 then (
    some (1))
  else (
    some (0)) : Option (Int32)) fun j2 =>
  (f_X1_require p_start p_error p_errorAt j2 1).bind fun o3 =>
  Option.bind (if o1 = (-1) then (
    some (0))
  else (
    some (1)) : Option (Int32)) fun j4 =>
  (f_X1_require p_start o3.1 o3.2 j4 4).bind fun o5 =>
  (f_X1_take p_start p_end p_kind p_value o5.1 p_t_count p_t_cells).bind fun o6 =>
  some (o1, o6.2.1, o6.2.2.1, o6.2.2.2.1, o6.2.2.2.2, o5.1, o5.2)
set_option maxRecDepth 100000 in
set_option maxHeartbeats 4000000 in
theorem c_X1_knownName_services (l : Launch) {G : (Nat → Prop) → State → Heap → Prop} (hG : vG G) (D : va_G) (c9 : Nat → ClassId) (ad : Nat → Nat) (p_start : Int32) (p_end : Int32) (p_kind : Int32) (p_value : Int32) (p_error : Int32) (p_errorAt : Int32) (p_t_count : Int32) (p_t_cells : Nat → Int32) (p_d_time : Int32) (p_d_tolerance : Int32) (p_d_seed : Int32) (p_d_madeTickets : Int32) (p_d_cheesesOfText : Int32) (p_d_R_rows : Int32) (p_d_R_cells : Nat → Int32) (p_d_U_rows : Int32) (p_d_U_cells : Nat → Int32) (p_d_S_rows : Int32) (p_d_S_cells : Nat → Int32) (p_d_T_rows : Int32) (p_d_T_cells : Nat → Int32) (p_d_E_rows : Int32) (p_d_E_cells : Nat → Int32) (v2 : Int32) {o : Int32 × Int32 × Int32 × Int32 × Int32 × Int32 × Int32} (hf : f_X1_knownName_services p_start p_end p_kind p_value p_error p_errorAt p_t_count p_t_cells p_d_S_rows p_d_S_cells v2 = some o) : mI l yX1_knownName wsX1_knownName { frames := 3, cells := 0, slots := 0, locals := 86 } G D (tyA c9) [.ref (ad 0), .ref (ad 8), .int v2] (wX1 ad c9 p_start p_end p_kind p_value p_error p_errorAt p_t_count p_t_cells p_d_time p_d_tolerance p_d_seed p_d_madeTickets p_d_cheesesOfText p_d_R_rows p_d_R_cells p_d_U_rows p_d_U_cells p_d_S_rows p_d_S_cells p_d_T_rows p_d_T_cells p_d_E_rows p_d_E_cells) [] 0 0 o.1 (wX1 ad c9 o.2.1 o.2.2.1 o.2.2.2.1 o.2.2.2.2.1 o.2.2.2.2.2.1 o.2.2.2.2.2.2 p_t_count p_t_cells p_d_time p_d_tolerance p_d_seed p_d_madeTickets p_d_cheesesOfText p_d_R_rows p_d_R_cells p_d_U_rows p_d_U_cells p_d_S_rows p_d_S_cells p_d_T_rows p_d_T_cells p_d_E_rows p_d_E_cells) := by
  refine mI_of hG (cc := cX1_knownName) (maxL := 4) (ty := .int) (by decide) rfl (Nat.le_of_ble_eq_true rfl) ?_
  intro p e s m args below meth c A X
  have X : vX p s m args meth c cX1_knownName 4 (some .int) RX1 wsX1_knownName D (tyA c9) G A := X
  refine v_eq (lv2 := [(0, .ref (ad 0)), (1, .ref (ad 8)), (2, .int v2)]) rfl rfl rfl rfl ?_
  rw [f_X1_knownName_services] at hf
  refine v_aload_n X dX1_knownName_0 1 rfl rfl 1 rfl ?_
  refine v_iload_n X dX1_knownName_1 2 rfl rfl 2 rfl ?_
  refine v_aload_n X dX1_knownName_2 0 rfl rfl 3 rfl ?_
  refine v_get X (C := RX1) (T := TX1) (N := 8) (ci := 1) (v := _) dX1_knownName_3 k_X1_knownName_services_w1 0 rfl rfl 5 (by decide) k_X1_knownName_services_1 rfl rfl 6 rfl ?_
  obtain ⟨o1, ho1, hf⟩ := bnd hf
  refine v_callUi X (ci := 3) (T := TX3) (C := RX3) (owner := "TicketGate$Table") (As := [.int v2, .int p_value]) (rest := []) (ws' := (wX1 ad c9 p_start p_end p_kind p_value p_error p_errorAt p_t_count p_t_cells p_d_time p_d_tolerance p_d_seed p_d_madeTickets p_d_cheesesOfText p_d_R_rows p_d_R_cells p_d_U_rows p_d_U_cells p_d_S_rows p_d_S_cells p_d_T_rows p_d_T_cells p_d_E_rows p_d_E_cells)) (c_X6_rowWith l hG D c9 (fun k => ad ([8, 9].getD k 0)) 18 3 RX3 rfl kt_rowWith_X3 kt_get_X3 gX6_rowWith_X6_get_u31X3 6 3 p_d_S_rows p_d_S_cells v2 p_value ho1) 2 gX1_knownName_X6_rowWith_u247X3 rfl rfl rfl rfl pd_X6_rowWith_UX1_knownName_247 ⟨Nat.le_of_ble_eq_true rfl, Nat.le_of_ble_eq_true rfl⟩ 8 rfl rfl rfl rfl (Nat.le_of_ble_eq_true rfl) ⟨Nat.zero_le _, Nat.zero_le _⟩ [8, 9] [0, 1, 2, 3, 4, 5, 6, 7, 10, 11, 12, 13] [0, 1, 2, 3, 4, 5, 6, 7, 12, 13, 8, 9, 10, 11] rfl rfl rfl rfl dX1_knownName_6 9 rfl ?_
  refine v_istore_n X (lv' := [(3, .int o1), (0, .ref (ad 0)), (1, .ref (ad 8)), (2, .int v2)]) dX1_knownName_9 rfl (by decide) rfl 10 rfl ?_
  refine v_aload_n X dX1_knownName_10 1 rfl rfl 11 rfl ?_
  refine v_aload_n X dX1_knownName_11 1 rfl rfl 12 rfl ?_
  refine v_get X (C := RX1) (T := TX1) (N := 8) (ci := 1) (v := _) dX1_knownName_12 k_X1_knownName_services_w1 0 rfl rfl 4 (by decide) k_X1_knownName_services_2 rfl rfl 15 rfl ?_
  refine v_iconst X dX1_knownName_15 ic_1 16 rfl ?_
  obtain ⟨j2, hj2, hf⟩ := bnd hf
  have Jj2 : vW p l e { frames := 3, cells := 0, slots := 0, locals := 86 } s m args below meth c 4 D A [] 0 0 (MQ below (eI D (tyA c9) A o.1 ((wX1 ad c9 o.2.1 o.2.2.1 o.2.2.2.1 o.2.2.2.2.1 o.2.2.2.2.2.1 o.2.2.2.2.2.2 p_t_count p_t_cells p_d_time p_d_tolerance p_d_seed p_d_madeTickets p_d_cheesesOfText p_d_R_rows p_d_R_cells p_d_U_rows p_d_U_cells p_d_S_rows p_d_S_cells p_d_T_rows p_d_T_cells p_d_E_rows p_d_E_cells) ++ [])) args s 0 0 A) (wX1 ad c9 p_start p_end p_kind p_value p_error p_errorAt p_t_count p_t_cells p_d_time p_d_tolerance p_d_seed p_d_madeTickets p_d_cheesesOfText p_d_R_rows p_d_R_cells p_d_U_rows p_d_U_cells p_d_S_rows p_d_S_cells p_d_T_rows p_d_T_cells p_d_E_rows p_d_E_cells) 24 [(0, .ref (ad 0)), (3, .int o1)] [.int j2, .ref (ad 0)] := by
    refine v_iconst X dX1_knownName_24 ic_1 25 rfl ?_
    obtain ⟨o3, ho3, hf⟩ := bnd hf
    refine v_callVv X (ci := 1) (T := TX1) (C := RX1) (As := [.int j2, .int 1]) (rest := []) (ws' := (wX1 ad c9 p_start p_end p_kind p_value o3.1 o3.2 p_t_count p_t_cells p_d_time p_d_tolerance p_d_seed p_d_madeTickets p_d_cheesesOfText p_d_R_rows p_d_R_cells p_d_U_rows p_d_U_cells p_d_S_rows p_d_S_cells p_d_T_rows p_d_T_cells p_d_E_rows p_d_E_cells)) (c_X1_require l hG D c9 ad p_start p_end p_kind p_value p_error p_errorAt p_t_count p_t_cells p_d_time p_d_tolerance p_d_seed p_d_madeTickets p_d_cheesesOfText p_d_R_rows p_d_R_cells p_d_U_rows p_d_U_cells p_d_S_rows p_d_S_cells p_d_T_rows p_d_T_cells p_d_E_rows p_d_E_cells j2 1 ho3) 2 gX1_knownName_X1_require rfl rfl rfl ⟨rfl, pd_X1_require⟩ ⟨Nat.le_of_ble_eq_true rfl, Nat.le_of_ble_eq_true rfl⟩ 0 rfl rfl rfl rfl (Nat.le_of_ble_eq_true rfl) ⟨Nat.zero_le _, Nat.zero_le _⟩ [0, 1, 2, 3, 4, 5, 6, 7, 8, 9, 10, 11, 12, 13] [] [0, 1, 2, 3, 4, 5, 6, 7, 8, 9, 10, 11, 12, 13] rfl rfl rfl rfl dX1_knownName_25 28 rfl ?_
    refine v_aload_n X dX1_knownName_28 0 rfl rfl 29 rfl ?_
    refine v_iload_n X dX1_knownName_29 1 rfl rfl 30 rfl ?_
    refine v_iconst X dX1_knownName_30 ic_m1 31 rfl ?_
    obtain ⟨j4, hj4, hf⟩ := bnd hf
    have Jj4 : vW p l e { frames := 3, cells := 0, slots := 0, locals := 86 } s m args below meth c 4 D A [] 0 0 (MQ below (eI D (tyA c9) A o.1 ((wX1 ad c9 o.2.1 o.2.2.1 o.2.2.2.1 o.2.2.2.2.1 o.2.2.2.2.2.1 o.2.2.2.2.2.2 p_t_count p_t_cells p_d_time p_d_tolerance p_d_seed p_d_madeTickets p_d_cheesesOfText p_d_R_rows p_d_R_cells p_d_U_rows p_d_U_cells p_d_S_rows p_d_S_cells p_d_T_rows p_d_T_cells p_d_E_rows p_d_E_cells) ++ [])) args s 0 0 A) (wX1 ad c9 p_start p_end p_kind p_value o3.1 o3.2 p_t_count p_t_cells p_d_time p_d_tolerance p_d_seed p_d_madeTickets p_d_cheesesOfText p_d_R_rows p_d_R_cells p_d_U_rows p_d_U_cells p_d_S_rows p_d_S_cells p_d_T_rows p_d_T_cells p_d_E_rows p_d_E_cells) 39 [(0, .ref (ad 0)), (3, .int o1)] [.int j4, .ref (ad 0)] := by
      refine v_iconst X dX1_knownName_39 ic_4 40 rfl ?_
      obtain ⟨o5, ho5, hf⟩ := bnd hf
      refine v_callVv X (ci := 1) (T := TX1) (C := RX1) (As := [.int j4, .int 4]) (rest := []) (ws' := (wX1 ad c9 p_start p_end p_kind p_value o5.1 o5.2 p_t_count p_t_cells p_d_time p_d_tolerance p_d_seed p_d_madeTickets p_d_cheesesOfText p_d_R_rows p_d_R_cells p_d_U_rows p_d_U_cells p_d_S_rows p_d_S_cells p_d_T_rows p_d_T_cells p_d_E_rows p_d_E_cells)) (c_X1_require l hG D c9 ad p_start p_end p_kind p_value o3.1 o3.2 p_t_count p_t_cells p_d_time p_d_tolerance p_d_seed p_d_madeTickets p_d_cheesesOfText p_d_R_rows p_d_R_cells p_d_U_rows p_d_U_cells p_d_S_rows p_d_S_cells p_d_T_rows p_d_T_cells p_d_E_rows p_d_E_cells j4 4 ho5) 2 gX1_knownName_X1_require rfl rfl rfl ⟨rfl, pd_X1_require⟩ ⟨Nat.le_of_ble_eq_true rfl, Nat.le_of_ble_eq_true rfl⟩ 0 rfl rfl rfl rfl (Nat.le_of_ble_eq_true rfl) ⟨Nat.zero_le _, Nat.zero_le _⟩ [0, 1, 2, 3, 4, 5, 6, 7, 8, 9, 10, 11, 12, 13] [] [0, 1, 2, 3, 4, 5, 6, 7, 8, 9, 10, 11, 12, 13] rfl rfl rfl rfl dX1_knownName_40 43 rfl ?_
      refine v_aload_n X dX1_knownName_43 0 rfl rfl 44 rfl ?_
      obtain ⟨o6, ho6, hf⟩ := bnd hf
      refine v_callVi X (ci := 1) (T := TX1) (C := RX1) (As := []) (rest := []) (ws' := (wX1 ad c9 o6.2.1 o6.2.2.1 o6.2.2.2.1 o6.2.2.2.2 o5.1 o5.2 p_t_count p_t_cells p_d_time p_d_tolerance p_d_seed p_d_madeTickets p_d_cheesesOfText p_d_R_rows p_d_R_cells p_d_U_rows p_d_U_cells p_d_S_rows p_d_S_cells p_d_T_rows p_d_T_cells p_d_E_rows p_d_E_cells)) (c_X1_take l hG D c9 ad p_start p_end p_kind p_value o5.1 o5.2 p_t_count p_t_cells p_d_time p_d_tolerance p_d_seed p_d_madeTickets p_d_cheesesOfText p_d_R_rows p_d_R_cells p_d_U_rows p_d_U_cells p_d_S_rows p_d_S_cells p_d_T_rows p_d_T_cells p_d_E_rows p_d_E_cells ho6) 0 gX1_knownName_X1_take rfl rfl rfl ⟨rfl, pd_X1_take⟩ ⟨Nat.le_of_ble_eq_true rfl, Nat.le_of_ble_eq_true rfl⟩ 0 rfl rfl rfl rfl (Nat.le_of_ble_eq_true rfl) ⟨Nat.zero_le _, Nat.zero_le _⟩ [0, 1, 2, 3, 4, 5, 6, 7, 8, 9, 10, 11, 12, 13] [] [0, 1, 2, 3, 4, 5, 6, 7, 8, 9, 10, 11, 12, 13] rfl rfl rfl rfl dX1_knownName_44 47 rfl ?_
      refine v_pop X dX1_knownName_47 rfl 48 rfl ?_
      refine v_iload_n X dX1_knownName_48 1 rfl rfl 49 rfl ?_
      cases hf
      exact v_iret X (Nat.zero_le _) (Nat.zero_le _) dX1_knownName_49
    clear hf
    refine v_icmp_eq X (tgt := 38) dX1_knownName_31 rfl 34 rfl hj4 (fun hf => ?_) (fun hf => ?_)
    · refine v_iconst X dX1_knownName_38 ic_0 39 rfl ?_
      cases hf
      exact Jj4
    · refine v_iconst X dX1_knownName_34 ic_1 35 rfl ?_
      refine v_goto X (tgt := 39) dX1_knownName_35 rfl ?_
      cases hf
      exact Jj4
  clear hf
  refine v_icmp_ne X (tgt := 23) dX1_knownName_16 rfl 19 rfl hj2 (fun hf => ?_) (fun hf => ?_)
  · refine v_iconst X dX1_knownName_23 ic_0 24 rfl ?_
    cases hf
    refine v_sub (lv' := [(0, .ref (ad 0)), (3, .int o1)]) [1, 0] rfl ?_
    exact Jj2
  · refine v_iconst X dX1_knownName_19 ic_1 20 rfl ?_
    refine v_goto X (tgt := 24) dX1_knownName_20 rfl ?_
    cases hf
    refine v_sub (lv' := [(0, .ref (ad 0)), (3, .int o1)]) [1, 0] rfl ?_
    exact Jj2
theorem pd_X1_knownName : yX1_knownName.cls ≠ "java/lang/invoke/MethodHandle" ∧ yX1_knownName.cls ≠ "java/lang/invoke/VarHandle" ∧ (parseMethodDescriptor yX1_knownName.desc).map (fun d => d.parameters.length) = some 2 := by decide +kernel
theorem k_X1_readRequest_w1 : ∀ w ∈ u_ws RX1 TX1 8, w ∈ wsX1_readRequest := in_r _ [172, 173, 174, 175, 176, 177, 178, 179] rfl
theorem k_X1_readRequest_1 : Cond.fieldLink RX1 12 "TicketGate$Parser" "draft" "LTicketGate$State;" ∈ wsX1_readRequest := List.mem_of_getElem? (i := 1) rfl
theorem k_X1_readRequest_w5 : ∀ w ∈ u_ws RX5 TX5 10, w ∈ wsX1_readRequest := in_r _ [180, 181, 182, 183, 184, 185, 186, 187, 188, 189] rfl
def f_X1_readRequest (p_start : Int32) (p_end : Int32) (p_kind : Int32) (p_value : Int32) (p_error : Int32) (p_errorAt : Int32) (p_t_count : Int32) (p_t_cells : Nat → Int32) (p_d_time : Int32) (p_d_tolerance : Int32) (p_d_seed : Int32) (p_d_madeTickets : Int32) (p_d_R_rows : Int32) (p_d_R_cells : Nat → Int32) (p_d_U_rows : Int32) (p_d_U_cells : Nat → Int32) (p_d_S_rows : Int32) (p_d_S_cells : Nat → Int32) (p_d_T_rows : Int32) (p_d_T_cells : Nat → Int32) : Option (Int32 × Int32 × Int32 × Int32 × Int32 × Int32 × Int32 × Int32 × Int32 × (Nat → Int32)) :=
  (f_X1_take p_start p_end p_kind p_value p_error p_t_count p_t_cells).bind fun o1 =>
  (f_X1_knownTicket o1.2.1 o1.2.2.1 o1.2.2.2.1 o1.2.2.2.2 p_error p_errorAt p_t_count p_t_cells p_d_T_rows p_d_T_cells).bind fun o2 =>
  (f_X1_knownName_services o2.2.1 o2.2.2.1 o2.2.2.2.1 o2.2.2.2.2.1 o2.2.2.2.2.2.1 o2.2.2.2.2.2.2 p_t_count p_t_cells p_d_S_rows p_d_S_cells 0).bind fun o3 =>
  (f_X5_whyNoRequest p_d_time p_d_tolerance p_d_R_rows p_d_R_cells p_d_U_rows p_d_U_cells p_d_S_rows p_d_S_cells p_d_T_rows p_d_T_cells o2.1 o3.1).bind fun o4 =>
  Option.bind (if o4 = 0 then (
    some (1))
  else (
    some (0)) : Option (Int32)) fun j5 =>
  (f_X1_semicolon o3.2.1 o3.2.2.1 o3.2.2.2.1 o3.2.2.2.2.1 o3.2.2.2.2.2.1 o3.2.2.2.2.2.2 p_t_count p_t_cells j5).bind fun o6 =>
  if o6.1 = 0 then (
    some (o6.2.1, o6.2.2.1, o6.2.2.2.1, o6.2.2.2.2.1, o6.2.2.2.2.2.1, o6.2.2.2.2.2.2, p_d_seed, p_d_madeTickets, p_d_T_rows, p_d_T_cells))
  else (
    (f_X5_makeRequest p_d_time p_d_seed p_d_madeTickets p_d_R_rows p_d_R_cells p_d_T_rows p_d_T_cells o2.1 o3.1).bind fun o7 =>
    some (o6.2.1, o6.2.2.1, o6.2.2.2.1, o6.2.2.2.2.1, o6.2.2.2.2.2.1, o6.2.2.2.2.2.2, o7.2.1, o7.2.2.1, o7.2.2.2.1, o7.2.2.2.2))
set_option maxRecDepth 100000 in
set_option maxHeartbeats 4000000 in
theorem c_X1_readRequest (l : Launch) {G : (Nat → Prop) → State → Heap → Prop} (hG : vG G) (D : va_G) (c9 : Nat → ClassId) (ad : Nat → Nat) (p_start : Int32) (p_end : Int32) (p_kind : Int32) (p_value : Int32) (p_error : Int32) (p_errorAt : Int32) (p_t_count : Int32) (p_t_cells : Nat → Int32) (p_d_time : Int32) (p_d_tolerance : Int32) (p_d_seed : Int32) (p_d_madeTickets : Int32) (p_d_cheesesOfText : Int32) (p_d_R_rows : Int32) (p_d_R_cells : Nat → Int32) (p_d_U_rows : Int32) (p_d_U_cells : Nat → Int32) (p_d_S_rows : Int32) (p_d_S_cells : Nat → Int32) (p_d_T_rows : Int32) (p_d_T_cells : Nat → Int32) (p_d_E_rows : Int32) (p_d_E_cells : Nat → Int32)  {o : Int32 × Int32 × Int32 × Int32 × Int32 × Int32 × Int32 × Int32 × Int32 × (Nat → Int32)} (hf : f_X1_readRequest p_start p_end p_kind p_value p_error p_errorAt p_t_count p_t_cells p_d_time p_d_tolerance p_d_seed p_d_madeTickets p_d_R_rows p_d_R_cells p_d_U_rows p_d_U_cells p_d_S_rows p_d_S_cells p_d_T_rows p_d_T_cells = some o) : mV l yX1_readRequest wsX1_readRequest { frames := 4, cells := 0, slots := 0, locals := 114 } G D (tyA c9) [.ref (ad 0)] (wX1 ad c9 p_start p_end p_kind p_value p_error p_errorAt p_t_count p_t_cells p_d_time p_d_tolerance p_d_seed p_d_madeTickets p_d_cheesesOfText p_d_R_rows p_d_R_cells p_d_U_rows p_d_U_cells p_d_S_rows p_d_S_cells p_d_T_rows p_d_T_cells p_d_E_rows p_d_E_cells) [] 0 0 (wX1 ad c9 o.1 o.2.1 o.2.2.1 o.2.2.2.1 o.2.2.2.2.1 o.2.2.2.2.2.1 p_t_count p_t_cells p_d_time p_d_tolerance o.2.2.2.2.2.2.1 o.2.2.2.2.2.2.2.1 p_d_cheesesOfText p_d_R_rows p_d_R_cells p_d_U_rows p_d_U_cells p_d_S_rows p_d_S_cells o.2.2.2.2.2.2.2.2.1 o.2.2.2.2.2.2.2.2.2 p_d_E_rows p_d_E_cells) := by
  refine mV_of hG (cc := cX1_readRequest) (maxL := 3) (by decide) rfl (Nat.le_of_ble_eq_true rfl) ?_
  intro p e s m args below meth c A hnm X
  have X : vX p s m args meth c cX1_readRequest 3 none RX1 wsX1_readRequest D (tyA c9) G A := X
  refine v_eq (lv2 := [(0, .ref (ad 0))]) rfl rfl rfl rfl ?_
  rw [f_X1_readRequest] at hf
  refine v_aload_n X dX1_readRequest_0 0 rfl rfl 1 rfl ?_
  obtain ⟨o1, ho1, hf⟩ := bnd hf
  refine v_callVi X (ci := 1) (T := TX1) (C := RX1) (As := []) (rest := []) (ws' := (wX1 ad c9 o1.2.1 o1.2.2.1 o1.2.2.2.1 o1.2.2.2.2 p_error p_errorAt p_t_count p_t_cells p_d_time p_d_tolerance p_d_seed p_d_madeTickets p_d_cheesesOfText p_d_R_rows p_d_R_cells p_d_U_rows p_d_U_cells p_d_S_rows p_d_S_cells p_d_T_rows p_d_T_cells p_d_E_rows p_d_E_cells)) (c_X1_take l hG D c9 ad p_start p_end p_kind p_value p_error p_errorAt p_t_count p_t_cells p_d_time p_d_tolerance p_d_seed p_d_madeTickets p_d_cheesesOfText p_d_R_rows p_d_R_cells p_d_U_rows p_d_U_cells p_d_S_rows p_d_S_cells p_d_T_rows p_d_T_cells p_d_E_rows p_d_E_cells ho1) 0 gX1_readRequest_X1_take rfl rfl rfl ⟨rfl, pd_X1_take⟩ ⟨Nat.le_of_ble_eq_true rfl, Nat.le_of_ble_eq_true rfl⟩ 0 rfl rfl rfl rfl (Nat.le_of_ble_eq_true rfl) ⟨Nat.zero_le _, Nat.zero_le _⟩ [0, 1, 2, 3, 4, 5, 6, 7, 8, 9, 10, 11, 12, 13] [] [0, 1, 2, 3, 4, 5, 6, 7, 8, 9, 10, 11, 12, 13] rfl rfl rfl rfl dX1_readRequest_1 4 rfl ?_
  refine v_pop X dX1_readRequest_4 rfl 5 rfl ?_
  refine v_aload_n X dX1_readRequest_5 0 rfl rfl 6 rfl ?_
  obtain ⟨o2, ho2, hf⟩ := bnd hf
  refine v_callVi X (ci := 1) (T := TX1) (C := RX1) (As := []) (rest := []) (ws' := (wX1 ad c9 o2.2.1 o2.2.2.1 o2.2.2.2.1 o2.2.2.2.2.1 o2.2.2.2.2.2.1 o2.2.2.2.2.2.2 p_t_count p_t_cells p_d_time p_d_tolerance p_d_seed p_d_madeTickets p_d_cheesesOfText p_d_R_rows p_d_R_cells p_d_U_rows p_d_U_cells p_d_S_rows p_d_S_cells p_d_T_rows p_d_T_cells p_d_E_rows p_d_E_cells)) (c_X1_knownTicket l hG D c9 ad o1.2.1 o1.2.2.1 o1.2.2.2.1 o1.2.2.2.2 p_error p_errorAt p_t_count p_t_cells p_d_time p_d_tolerance p_d_seed p_d_madeTickets p_d_cheesesOfText p_d_R_rows p_d_R_cells p_d_U_rows p_d_U_cells p_d_S_rows p_d_S_cells p_d_T_rows p_d_T_cells p_d_E_rows p_d_E_cells ho2) 0 gX1_readRequest_X1_knownTicket rfl rfl rfl ⟨rfl, pd_X1_knownTicket⟩ ⟨Nat.le_of_ble_eq_true rfl, Nat.le_of_ble_eq_true rfl⟩ 0 rfl rfl rfl rfl (Nat.le_of_ble_eq_true rfl) ⟨Nat.zero_le _, Nat.zero_le _⟩ [0, 1, 2, 3, 4, 5, 6, 7, 8, 9, 10, 11, 12, 13] [] [0, 1, 2, 3, 4, 5, 6, 7, 8, 9, 10, 11, 12, 13] rfl rfl rfl rfl dX1_readRequest_6 9 rfl ?_
  refine v_istore_n X (lv' := [(1, .int o2.1), (0, .ref (ad 0))]) dX1_readRequest_9 rfl (by decide) rfl 10 rfl ?_
  refine v_aload_n X dX1_readRequest_10 1 rfl rfl 11 rfl ?_
  refine v_aload_n X dX1_readRequest_11 1 rfl rfl 12 rfl ?_
  refine v_get X (C := RX1) (T := TX1) (N := 8) (ci := 1) (v := _) dX1_readRequest_12 k_X1_readRequest_w1 0 rfl rfl 1 (by decide) k_X1_readRequest_1 rfl rfl 15 rfl ?_
  refine v_getN X (C := RX5) (T := TX5) (N := 10) (ci := 5) (v := _) dX1_readRequest_15 k_X1_readRequest_w5 3 rfl rfl 2 (by decide) nest_RX1_174 rfl rfl 18 rfl ?_
  refine v_iconst X dX1_readRequest_18 ic_0 19 rfl ?_
  obtain ⟨o3, ho3, hf⟩ := bnd hf
  refine v_callVi X (ci := 1) (T := TX1) (C := RX1) (As := [.ref (ad 8), .int 0]) (rest := []) (ws' := (wX1 ad c9 o3.2.1 o3.2.2.1 o3.2.2.2.1 o3.2.2.2.2.1 o3.2.2.2.2.2.1 o3.2.2.2.2.2.2 p_t_count p_t_cells p_d_time p_d_tolerance p_d_seed p_d_madeTickets p_d_cheesesOfText p_d_R_rows p_d_R_cells p_d_U_rows p_d_U_cells p_d_S_rows p_d_S_cells p_d_T_rows p_d_T_cells p_d_E_rows p_d_E_cells)) (c_X1_knownName_services l hG D c9 ad o2.2.1 o2.2.2.1 o2.2.2.2.1 o2.2.2.2.2.1 o2.2.2.2.2.2.1 o2.2.2.2.2.2.2 p_t_count p_t_cells p_d_time p_d_tolerance p_d_seed p_d_madeTickets p_d_cheesesOfText p_d_R_rows p_d_R_cells p_d_U_rows p_d_U_cells p_d_S_rows p_d_S_cells p_d_T_rows p_d_T_cells p_d_E_rows p_d_E_cells 0 ho3) 2 gX1_readRequest_X1_knownName rfl rfl rfl ⟨rfl, pd_X1_knownName⟩ ⟨Nat.le_of_ble_eq_true rfl, Nat.le_of_ble_eq_true rfl⟩ 0 rfl rfl rfl rfl (Nat.le_of_ble_eq_true rfl) ⟨Nat.zero_le _, Nat.zero_le _⟩ [0, 1, 2, 3, 4, 5, 6, 7, 8, 9, 10, 11, 12, 13] [] [0, 1, 2, 3, 4, 5, 6, 7, 8, 9, 10, 11, 12, 13] rfl rfl rfl rfl dX1_readRequest_19 22 rfl ?_
  refine v_istore_n X (lv' := [(2, .int o3.1), (1, .int o2.1), (0, .ref (ad 0))]) dX1_readRequest_22 rfl (by decide) rfl 23 rfl ?_
  refine v_aload_n X dX1_readRequest_23 2 rfl rfl 24 rfl ?_
  refine v_aload_n X dX1_readRequest_24 2 rfl rfl 25 rfl ?_
  refine v_get X (C := RX1) (T := TX1) (N := 8) (ci := 1) (v := _) dX1_readRequest_25 k_X1_readRequest_w1 0 rfl rfl 1 (by decide) k_X1_readRequest_1 rfl rfl 28 rfl ?_
  refine v_iload_n X dX1_readRequest_28 1 rfl rfl 29 rfl ?_
  refine v_iload_n X dX1_readRequest_29 0 rfl rfl 30 rfl ?_
  obtain ⟨o4, ho4, hf⟩ := bnd hf
  refine v_callVi X (ci := 5) (T := TX5) (C := RX5) (As := [.int o2.1, .int o3.1]) (rest := [.ref (ad 0)]) (ws' := (wX1 ad c9 o3.2.1 o3.2.2.1 o3.2.2.2.1 o3.2.2.2.2.1 o3.2.2.2.2.2.1 o3.2.2.2.2.2.2 p_t_count p_t_cells p_d_time p_d_tolerance p_d_seed p_d_madeTickets p_d_cheesesOfText p_d_R_rows p_d_R_cells p_d_U_rows p_d_U_cells p_d_S_rows p_d_S_cells p_d_T_rows p_d_T_cells p_d_E_rows p_d_E_cells)) (c_X5_whyNoRequest l hG D c9 (fun k => ad ([3, 4, 5, 6, 7, 8, 9, 10, 11, 12, 13].getD k 0)) p_d_time p_d_tolerance p_d_seed p_d_madeTickets p_d_cheesesOfText p_d_R_rows p_d_R_cells p_d_U_rows p_d_U_cells p_d_S_rows p_d_S_cells p_d_T_rows p_d_T_cells p_d_E_rows p_d_E_cells o2.1 o3.1 ho4) 2 gX1_readRequest_X5_whyNoRequest rfl rfl rfl ⟨rfl, pd_X5_whyNoRequest⟩ ⟨Nat.le_of_ble_eq_true rfl, Nat.le_of_ble_eq_true rfl⟩ 3 rfl rfl rfl rfl (Nat.le_of_ble_eq_true rfl) ⟨Nat.zero_le _, Nat.zero_le _⟩ [3, 4, 5, 6, 7, 8, 9, 10, 11, 12, 13] [0, 1, 2] [0, 1, 2, 3, 4, 5, 6, 7, 8, 9, 10, 11, 12, 13] rfl rfl rfl rfl dX1_readRequest_30 33 rfl ?_
  obtain ⟨j5, hj5, hf⟩ := bnd hf
  have Jj5 : vW p l e { frames := 4, cells := 0, slots := 0, locals := 114 } s m args below meth c 3 D A [] 0 0 (MQ below (eV D (tyA c9) A ((wX1 ad c9 o.1 o.2.1 o.2.2.1 o.2.2.2.1 o.2.2.2.2.1 o.2.2.2.2.2.1 p_t_count p_t_cells p_d_time p_d_tolerance o.2.2.2.2.2.2.1 o.2.2.2.2.2.2.2.1 p_d_cheesesOfText p_d_R_rows p_d_R_cells p_d_U_rows p_d_U_cells p_d_S_rows p_d_S_cells o.2.2.2.2.2.2.2.2.1 o.2.2.2.2.2.2.2.2.2 p_d_E_rows p_d_E_cells) ++ [])) args s 0 0 A) (wX1 ad c9 o3.2.1 o3.2.2.1 o3.2.2.2.1 o3.2.2.2.2.1 o3.2.2.2.2.2.1 o3.2.2.2.2.2.2 p_t_count p_t_cells p_d_time p_d_tolerance p_d_seed p_d_madeTickets p_d_cheesesOfText p_d_R_rows p_d_R_cells p_d_U_rows p_d_U_cells p_d_S_rows p_d_S_cells p_d_T_rows p_d_T_cells p_d_E_rows p_d_E_cells) 41 [(0, .ref (ad 0)), (1, .int o2.1), (2, .int o3.1)] [.int j5, .ref (ad 0)] := by
    obtain ⟨o6, ho6, hf⟩ := bnd hf
    refine v_callVi X (ci := 1) (T := TX1) (C := RX1) (As := [.int j5]) (rest := []) (ws' := (wX1 ad c9 o6.2.1 o6.2.2.1 o6.2.2.2.1 o6.2.2.2.2.1 o6.2.2.2.2.2.1 o6.2.2.2.2.2.2 p_t_count p_t_cells p_d_time p_d_tolerance p_d_seed p_d_madeTickets p_d_cheesesOfText p_d_R_rows p_d_R_cells p_d_U_rows p_d_U_cells p_d_S_rows p_d_S_cells p_d_T_rows p_d_T_cells p_d_E_rows p_d_E_cells)) (c_X1_semicolon l hG D c9 ad o3.2.1 o3.2.2.1 o3.2.2.2.1 o3.2.2.2.2.1 o3.2.2.2.2.2.1 o3.2.2.2.2.2.2 p_t_count p_t_cells p_d_time p_d_tolerance p_d_seed p_d_madeTickets p_d_cheesesOfText p_d_R_rows p_d_R_cells p_d_U_rows p_d_U_cells p_d_S_rows p_d_S_cells p_d_T_rows p_d_T_cells p_d_E_rows p_d_E_cells j5 ho6) 1 gX1_readRequest_X1_semicolon rfl rfl rfl ⟨rfl, pd_X1_semicolon⟩ ⟨Nat.le_of_ble_eq_true rfl, Nat.le_of_ble_eq_true rfl⟩ 0 rfl rfl rfl rfl (Nat.le_of_ble_eq_true rfl) ⟨Nat.zero_le _, Nat.zero_le _⟩ [0, 1, 2, 3, 4, 5, 6, 7, 8, 9, 10, 11, 12, 13] [] [0, 1, 2, 3, 4, 5, 6, 7, 8, 9, 10, 11, 12, 13] rfl rfl rfl rfl dX1_readRequest_41 44 rfl ?_
    refine v_if_eq X (tgt := 57) dX1_readRequest_44 rfl 47 rfl hf (fun hf => ?_) (fun hf => ?_)
    · cases hf
      exact v_vret X (Nat.zero_le _) (Nat.zero_le _) dX1_readRequest_57
    · refine v_aload_n X dX1_readRequest_47 0 rfl rfl 48 rfl ?_
      refine v_get X (C := RX1) (T := TX1) (N := 8) (ci := 1) (v := _) dX1_readRequest_48 k_X1_readRequest_w1 0 rfl rfl 1 (by decide) k_X1_readRequest_1 rfl rfl 51 rfl ?_
      refine v_iload_n X dX1_readRequest_51 1 rfl rfl 52 rfl ?_
      refine v_iload_n X dX1_readRequest_52 2 rfl rfl 53 rfl ?_
      obtain ⟨o7, ho7, hf⟩ := bnd hf
      refine v_callVi X (ci := 5) (T := TX5) (C := RX5) (As := [.int o2.1, .int o3.1]) (rest := []) (ws' := (wX1 ad c9 o6.2.1 o6.2.2.1 o6.2.2.2.1 o6.2.2.2.2.1 o6.2.2.2.2.2.1 o6.2.2.2.2.2.2 p_t_count p_t_cells p_d_time p_d_tolerance o7.2.1 o7.2.2.1 p_d_cheesesOfText p_d_R_rows p_d_R_cells p_d_U_rows p_d_U_cells p_d_S_rows p_d_S_cells o7.2.2.2.1 o7.2.2.2.2 p_d_E_rows p_d_E_cells)) (c_X5_makeRequest l hG D c9 (fun k => ad ([3, 4, 5, 6, 7, 8, 9, 10, 11, 12, 13].getD k 0)) p_d_time p_d_tolerance p_d_seed p_d_madeTickets p_d_cheesesOfText p_d_R_rows p_d_R_cells p_d_U_rows p_d_U_cells p_d_S_rows p_d_S_cells p_d_T_rows p_d_T_cells p_d_E_rows p_d_E_cells o2.1 o3.1 ho7) 2 gX1_readRequest_X5_makeRequest rfl rfl rfl ⟨rfl, pd_X5_makeRequest⟩ ⟨Nat.le_of_ble_eq_true rfl, Nat.le_of_ble_eq_true rfl⟩ 3 rfl rfl rfl rfl (Nat.le_of_ble_eq_true rfl) ⟨Nat.zero_le _, Nat.zero_le _⟩ [3, 4, 5, 6, 7, 8, 9, 10, 11, 12, 13] [0, 1, 2] [0, 1, 2, 3, 4, 5, 6, 7, 8, 9, 10, 11, 12, 13] rfl rfl rfl rfl dX1_readRequest_53 56 rfl ?_
      refine v_pop X dX1_readRequest_56 rfl 57 rfl ?_
      cases hf
      exact v_vret X (Nat.zero_le _) (Nat.zero_le _) dX1_readRequest_57
  clear hf
  refine v_if_ne X (tgt := 40) dX1_readRequest_33 rfl 36 rfl hj5 (fun hf => ?_) (fun hf => ?_)
  · refine v_iconst X dX1_readRequest_40 ic_0 41 rfl ?_
    cases hf
    refine v_sub (lv' := [(0, .ref (ad 0)), (1, .int o2.1), (2, .int o3.1)]) [2, 1, 0] rfl ?_
    exact Jj5
  · refine v_iconst X dX1_readRequest_36 ic_1 37 rfl ?_
    refine v_goto X (tgt := 41) dX1_readRequest_37 rfl ?_
    cases hf
    refine v_sub (lv' := [(0, .ref (ad 0)), (1, .int o2.1), (2, .int o3.1)]) [2, 1, 0] rfl ?_
    exact Jj5
theorem pd_X1_readRequest : yX1_readRequest.cls ≠ "java/lang/invoke/MethodHandle" ∧ yX1_readRequest.cls ≠ "java/lang/invoke/VarHandle" ∧ (parseMethodDescriptor yX1_readRequest.desc).map (fun d => d.parameters.length) = some 0 := by decide +kernel
theorem k_X1_readRenew_w1 : ∀ w ∈ u_ws RX1 TX1 8, w ∈ wsX1_readRenew := in_r _ [117, 118, 119, 120, 121, 122, 123, 124] rfl
theorem k_X1_readRenew_1 : Cond.fieldLink RX1 12 "TicketGate$Parser" "draft" "LTicketGate$State;" ∈ wsX1_readRenew := List.mem_of_getElem? (i := 1) rfl
def f_X1_readRenew (p_start : Int32) (p_end : Int32) (p_kind : Int32) (p_value : Int32) (p_error : Int32) (p_errorAt : Int32) (p_t_count : Int32) (p_t_cells : Nat → Int32) (p_d_time : Int32) (p_d_seed : Int32) (p_d_R_rows : Int32) (p_d_R_cells : Nat → Int32) (p_d_T_rows : Int32) (p_d_T_cells : Nat → Int32) : Option (Int32 × Int32 × Int32 × Int32 × Int32 × Int32 × Int32 × (Nat → Int32)) :=
  (f_X1_take p_start p_end p_kind p_value p_error p_t_count p_t_cells).bind fun o1 =>
  (f_X1_knownTicket o1.2.1 o1.2.2.1 o1.2.2.2.1 o1.2.2.2.2 p_error p_errorAt p_t_count p_t_cells p_d_T_rows p_d_T_cells).bind fun o2 =>
  (f_X5_whyNoRenewal p_d_time p_d_R_rows p_d_R_cells p_d_T_rows p_d_T_cells o2.1).bind fun o3 =>
  Option.bind (if o3 = 0 then (
    some (1))
  else (
    some (0)) : Option (Int32)) fun j4 =>
  (f_X1_semicolon o2.2.1 o2.2.2.1 o2.2.2.2.1 o2.2.2.2.2.1 o2.2.2.2.2.2.1 o2.2.2.2.2.2.2 p_t_count p_t_cells j4).bind fun o5 =>
  if o5.1 = 0 then (
    some (o5.2.1, o5.2.2.1, o5.2.2.2.1, o5.2.2.2.2.1, o5.2.2.2.2.2.1, o5.2.2.2.2.2.2, p_d_seed, p_d_T_cells))
  else (
    (f_X5_makeRenewal p_d_time p_d_seed p_d_R_rows p_d_R_cells p_d_T_rows p_d_T_cells o2.1).bind fun o6 =>
    some (o5.2.1, o5.2.2.1, o5.2.2.2.1, o5.2.2.2.2.1, o5.2.2.2.2.2.1, o5.2.2.2.2.2.2, o6.2.1, o6.2.2))
set_option maxRecDepth 100000 in
set_option maxHeartbeats 4000000 in
theorem c_X1_readRenew (l : Launch) {G : (Nat → Prop) → State → Heap → Prop} (hG : vG G) (D : va_G) (c9 : Nat → ClassId) (ad : Nat → Nat) (p_start : Int32) (p_end : Int32) (p_kind : Int32) (p_value : Int32) (p_error : Int32) (p_errorAt : Int32) (p_t_count : Int32) (p_t_cells : Nat → Int32) (p_d_time : Int32) (p_d_tolerance : Int32) (p_d_seed : Int32) (p_d_madeTickets : Int32) (p_d_cheesesOfText : Int32) (p_d_R_rows : Int32) (p_d_R_cells : Nat → Int32) (p_d_U_rows : Int32) (p_d_U_cells : Nat → Int32) (p_d_S_rows : Int32) (p_d_S_cells : Nat → Int32) (p_d_T_rows : Int32) (p_d_T_cells : Nat → Int32) (p_d_E_rows : Int32) (p_d_E_cells : Nat → Int32)  {o : Int32 × Int32 × Int32 × Int32 × Int32 × Int32 × Int32 × (Nat → Int32)} (hf : f_X1_readRenew p_start p_end p_kind p_value p_error p_errorAt p_t_count p_t_cells p_d_time p_d_seed p_d_R_rows p_d_R_cells p_d_T_rows p_d_T_cells = some o) : mV l yX1_readRenew wsX1_readRenew { frames := 4, cells := 0, slots := 0, locals := 107 } G D (tyA c9) [.ref (ad 0)] (wX1 ad c9 p_start p_end p_kind p_value p_error p_errorAt p_t_count p_t_cells p_d_time p_d_tolerance p_d_seed p_d_madeTickets p_d_cheesesOfText p_d_R_rows p_d_R_cells p_d_U_rows p_d_U_cells p_d_S_rows p_d_S_cells p_d_T_rows p_d_T_cells p_d_E_rows p_d_E_cells) [] 0 0 (wX1 ad c9 o.1 o.2.1 o.2.2.1 o.2.2.2.1 o.2.2.2.2.1 o.2.2.2.2.2.1 p_t_count p_t_cells p_d_time p_d_tolerance o.2.2.2.2.2.2.1 p_d_madeTickets p_d_cheesesOfText p_d_R_rows p_d_R_cells p_d_U_rows p_d_U_cells p_d_S_rows p_d_S_cells p_d_T_rows o.2.2.2.2.2.2.2 p_d_E_rows p_d_E_cells) := by
  refine mV_of hG (cc := cX1_readRenew) (maxL := 2) (by decide) rfl (Nat.le_of_ble_eq_true rfl) ?_
  intro p e s m args below meth c A hnm X
  have X : vX p s m args meth c cX1_readRenew 2 none RX1 wsX1_readRenew D (tyA c9) G A := X
  refine v_eq (lv2 := [(0, .ref (ad 0))]) rfl rfl rfl rfl ?_
  rw [f_X1_readRenew] at hf
  refine v_aload_n X dX1_readRenew_0 0 rfl rfl 1 rfl ?_
  obtain ⟨o1, ho1, hf⟩ := bnd hf
  refine v_callVi X (ci := 1) (T := TX1) (C := RX1) (As := []) (rest := []) (ws' := (wX1 ad c9 o1.2.1 o1.2.2.1 o1.2.2.2.1 o1.2.2.2.2 p_error p_errorAt p_t_count p_t_cells p_d_time p_d_tolerance p_d_seed p_d_madeTickets p_d_cheesesOfText p_d_R_rows p_d_R_cells p_d_U_rows p_d_U_cells p_d_S_rows p_d_S_cells p_d_T_rows p_d_T_cells p_d_E_rows p_d_E_cells)) (c_X1_take l hG D c9 ad p_start p_end p_kind p_value p_error p_errorAt p_t_count p_t_cells p_d_time p_d_tolerance p_d_seed p_d_madeTickets p_d_cheesesOfText p_d_R_rows p_d_R_cells p_d_U_rows p_d_U_cells p_d_S_rows p_d_S_cells p_d_T_rows p_d_T_cells p_d_E_rows p_d_E_cells ho1) 0 gX1_readRenew_X1_take rfl rfl rfl ⟨rfl, pd_X1_take⟩ ⟨Nat.le_of_ble_eq_true rfl, Nat.le_of_ble_eq_true rfl⟩ 0 rfl rfl rfl rfl (Nat.le_of_ble_eq_true rfl) ⟨Nat.zero_le _, Nat.zero_le _⟩ [0, 1, 2, 3, 4, 5, 6, 7, 8, 9, 10, 11, 12, 13] [] [0, 1, 2, 3, 4, 5, 6, 7, 8, 9, 10, 11, 12, 13] rfl rfl rfl rfl dX1_readRenew_1 4 rfl ?_
  refine v_pop X dX1_readRenew_4 rfl 5 rfl ?_
  refine v_aload_n X dX1_readRenew_5 0 rfl rfl 6 rfl ?_
  obtain ⟨o2, ho2, hf⟩ := bnd hf
  refine v_callVi X (ci := 1) (T := TX1) (C := RX1) (As := []) (rest := []) (ws' := (wX1 ad c9 o2.2.1 o2.2.2.1 o2.2.2.2.1 o2.2.2.2.2.1 o2.2.2.2.2.2.1 o2.2.2.2.2.2.2 p_t_count p_t_cells p_d_time p_d_tolerance p_d_seed p_d_madeTickets p_d_cheesesOfText p_d_R_rows p_d_R_cells p_d_U_rows p_d_U_cells p_d_S_rows p_d_S_cells p_d_T_rows p_d_T_cells p_d_E_rows p_d_E_cells)) (c_X1_knownTicket l hG D c9 ad o1.2.1 o1.2.2.1 o1.2.2.2.1 o1.2.2.2.2 p_error p_errorAt p_t_count p_t_cells p_d_time p_d_tolerance p_d_seed p_d_madeTickets p_d_cheesesOfText p_d_R_rows p_d_R_cells p_d_U_rows p_d_U_cells p_d_S_rows p_d_S_cells p_d_T_rows p_d_T_cells p_d_E_rows p_d_E_cells ho2) 0 gX1_readRenew_X1_knownTicket rfl rfl rfl ⟨rfl, pd_X1_knownTicket⟩ ⟨Nat.le_of_ble_eq_true rfl, Nat.le_of_ble_eq_true rfl⟩ 0 rfl rfl rfl rfl (Nat.le_of_ble_eq_true rfl) ⟨Nat.zero_le _, Nat.zero_le _⟩ [0, 1, 2, 3, 4, 5, 6, 7, 8, 9, 10, 11, 12, 13] [] [0, 1, 2, 3, 4, 5, 6, 7, 8, 9, 10, 11, 12, 13] rfl rfl rfl rfl dX1_readRenew_6 9 rfl ?_
  refine v_istore_n X (lv' := [(1, .int o2.1), (0, .ref (ad 0))]) dX1_readRenew_9 rfl (by decide) rfl 10 rfl ?_
  refine v_aload_n X dX1_readRenew_10 1 rfl rfl 11 rfl ?_
  refine v_aload_n X dX1_readRenew_11 1 rfl rfl 12 rfl ?_
  refine v_get X (C := RX1) (T := TX1) (N := 8) (ci := 1) (v := _) dX1_readRenew_12 k_X1_readRenew_w1 0 rfl rfl 1 (by decide) k_X1_readRenew_1 rfl rfl 15 rfl ?_
  refine v_iload_n X dX1_readRenew_15 0 rfl rfl 16 rfl ?_
  obtain ⟨o3, ho3, hf⟩ := bnd hf
  refine v_callVi X (ci := 5) (T := TX5) (C := RX5) (As := [.int o2.1]) (rest := [.ref (ad 0)]) (ws' := (wX1 ad c9 o2.2.1 o2.2.2.1 o2.2.2.2.1 o2.2.2.2.2.1 o2.2.2.2.2.2.1 o2.2.2.2.2.2.2 p_t_count p_t_cells p_d_time p_d_tolerance p_d_seed p_d_madeTickets p_d_cheesesOfText p_d_R_rows p_d_R_cells p_d_U_rows p_d_U_cells p_d_S_rows p_d_S_cells p_d_T_rows p_d_T_cells p_d_E_rows p_d_E_cells)) (c_X5_whyNoRenewal l hG D c9 (fun k => ad ([3, 4, 5, 6, 7, 8, 9, 10, 11, 12, 13].getD k 0)) p_d_time p_d_tolerance p_d_seed p_d_madeTickets p_d_cheesesOfText p_d_R_rows p_d_R_cells p_d_U_rows p_d_U_cells p_d_S_rows p_d_S_cells p_d_T_rows p_d_T_cells p_d_E_rows p_d_E_cells o2.1 ho3) 1 gX1_readRenew_X5_whyNoRenewal rfl rfl rfl ⟨rfl, pd_X5_whyNoRenewal⟩ ⟨Nat.le_of_ble_eq_true rfl, Nat.le_of_ble_eq_true rfl⟩ 3 rfl rfl rfl rfl (Nat.le_of_ble_eq_true rfl) ⟨Nat.zero_le _, Nat.zero_le _⟩ [3, 4, 5, 6, 7, 8, 9, 10, 11, 12, 13] [0, 1, 2] [0, 1, 2, 3, 4, 5, 6, 7, 8, 9, 10, 11, 12, 13] rfl rfl rfl rfl dX1_readRenew_16 19 rfl ?_
  obtain ⟨j4, hj4, hf⟩ := bnd hf
  have Jj4 : vW p l e { frames := 4, cells := 0, slots := 0, locals := 107 } s m args below meth c 2 D A [] 0 0 (MQ below (eV D (tyA c9) A ((wX1 ad c9 o.1 o.2.1 o.2.2.1 o.2.2.2.1 o.2.2.2.2.1 o.2.2.2.2.2.1 p_t_count p_t_cells p_d_time p_d_tolerance o.2.2.2.2.2.2.1 p_d_madeTickets p_d_cheesesOfText p_d_R_rows p_d_R_cells p_d_U_rows p_d_U_cells p_d_S_rows p_d_S_cells p_d_T_rows o.2.2.2.2.2.2.2 p_d_E_rows p_d_E_cells) ++ [])) args s 0 0 A) (wX1 ad c9 o2.2.1 o2.2.2.1 o2.2.2.2.1 o2.2.2.2.2.1 o2.2.2.2.2.2.1 o2.2.2.2.2.2.2 p_t_count p_t_cells p_d_time p_d_tolerance p_d_seed p_d_madeTickets p_d_cheesesOfText p_d_R_rows p_d_R_cells p_d_U_rows p_d_U_cells p_d_S_rows p_d_S_cells p_d_T_rows p_d_T_cells p_d_E_rows p_d_E_cells) 27 [(0, .ref (ad 0)), (1, .int o2.1)] [.int j4, .ref (ad 0)] := by
    obtain ⟨o5, ho5, hf⟩ := bnd hf
    refine v_callVi X (ci := 1) (T := TX1) (C := RX1) (As := [.int j4]) (rest := []) (ws' := (wX1 ad c9 o5.2.1 o5.2.2.1 o5.2.2.2.1 o5.2.2.2.2.1 o5.2.2.2.2.2.1 o5.2.2.2.2.2.2 p_t_count p_t_cells p_d_time p_d_tolerance p_d_seed p_d_madeTickets p_d_cheesesOfText p_d_R_rows p_d_R_cells p_d_U_rows p_d_U_cells p_d_S_rows p_d_S_cells p_d_T_rows p_d_T_cells p_d_E_rows p_d_E_cells)) (c_X1_semicolon l hG D c9 ad o2.2.1 o2.2.2.1 o2.2.2.2.1 o2.2.2.2.2.1 o2.2.2.2.2.2.1 o2.2.2.2.2.2.2 p_t_count p_t_cells p_d_time p_d_tolerance p_d_seed p_d_madeTickets p_d_cheesesOfText p_d_R_rows p_d_R_cells p_d_U_rows p_d_U_cells p_d_S_rows p_d_S_cells p_d_T_rows p_d_T_cells p_d_E_rows p_d_E_cells j4 ho5) 1 gX1_readRenew_X1_semicolon rfl rfl rfl ⟨rfl, pd_X1_semicolon⟩ ⟨Nat.le_of_ble_eq_true rfl, Nat.le_of_ble_eq_true rfl⟩ 0 rfl rfl rfl rfl (Nat.le_of_ble_eq_true rfl) ⟨Nat.zero_le _, Nat.zero_le _⟩ [0, 1, 2, 3, 4, 5, 6, 7, 8, 9, 10, 11, 12, 13] [] [0, 1, 2, 3, 4, 5, 6, 7, 8, 9, 10, 11, 12, 13] rfl rfl rfl rfl dX1_readRenew_27 30 rfl ?_
    refine v_if_eq X (tgt := 42) dX1_readRenew_30 rfl 33 rfl hf (fun hf => ?_) (fun hf => ?_)
    · cases hf
      exact v_vret X (Nat.zero_le _) (Nat.zero_le _) dX1_readRenew_42
    · refine v_aload_n X dX1_readRenew_33 0 rfl rfl 34 rfl ?_
      refine v_get X (C := RX1) (T := TX1) (N := 8) (ci := 1) (v := _) dX1_readRenew_34 k_X1_readRenew_w1 0 rfl rfl 1 (by decide) k_X1_readRenew_1 rfl rfl 37 rfl ?_
      refine v_iload_n X dX1_readRenew_37 1 rfl rfl 38 rfl ?_
      obtain ⟨o6, ho6, hf⟩ := bnd hf
      refine v_callVi X (ci := 5) (T := TX5) (C := RX5) (As := [.int o2.1]) (rest := []) (ws' := (wX1 ad c9 o5.2.1 o5.2.2.1 o5.2.2.2.1 o5.2.2.2.2.1 o5.2.2.2.2.2.1 o5.2.2.2.2.2.2 p_t_count p_t_cells p_d_time p_d_tolerance o6.2.1 p_d_madeTickets p_d_cheesesOfText p_d_R_rows p_d_R_cells p_d_U_rows p_d_U_cells p_d_S_rows p_d_S_cells p_d_T_rows o6.2.2 p_d_E_rows p_d_E_cells)) (c_X5_makeRenewal l hG D c9 (fun k => ad ([3, 4, 5, 6, 7, 8, 9, 10, 11, 12, 13].getD k 0)) p_d_time p_d_tolerance p_d_seed p_d_madeTickets p_d_cheesesOfText p_d_R_rows p_d_R_cells p_d_U_rows p_d_U_cells p_d_S_rows p_d_S_cells p_d_T_rows p_d_T_cells p_d_E_rows p_d_E_cells o2.1 ho6) 1 gX1_readRenew_X5_makeRenewal rfl rfl rfl ⟨rfl, pd_X5_makeRenewal⟩ ⟨Nat.le_of_ble_eq_true rfl, Nat.le_of_ble_eq_true rfl⟩ 3 rfl rfl rfl rfl (Nat.le_of_ble_eq_true rfl) ⟨Nat.zero_le _, Nat.zero_le _⟩ [3, 4, 5, 6, 7, 8, 9, 10, 11, 12, 13] [0, 1, 2] [0, 1, 2, 3, 4, 5, 6, 7, 8, 9, 10, 11, 12, 13] rfl rfl rfl rfl dX1_readRenew_38 41 rfl ?_
      refine v_pop X dX1_readRenew_41 rfl 42 rfl ?_
      cases hf
      exact v_vret X (Nat.zero_le _) (Nat.zero_le _) dX1_readRenew_42
  clear hf
  refine v_if_ne X (tgt := 26) dX1_readRenew_19 rfl 22 rfl hj4 (fun hf => ?_) (fun hf => ?_)
  · refine v_iconst X dX1_readRenew_26 ic_0 27 rfl ?_
    cases hf
    refine v_sub (lv' := [(0, .ref (ad 0)), (1, .int o2.1)]) [1, 0] rfl ?_
    exact Jj4
  · refine v_iconst X dX1_readRenew_22 ic_1 23 rfl ?_
    refine v_goto X (tgt := 27) dX1_readRenew_23 rfl ?_
    cases hf
    refine v_sub (lv' := [(0, .ref (ad 0)), (1, .int o2.1)]) [1, 0] rfl ?_
    exact Jj4
theorem pd_X1_readRenew : yX1_readRenew.cls ≠ "java/lang/invoke/MethodHandle" ∧ yX1_readRenew.cls ≠ "java/lang/invoke/VarHandle" ∧ (parseMethodDescriptor yX1_readRenew.desc).map (fun d => d.parameters.length) = some 0 := by decide +kernel
theorem k_X1_readCheese_w1 : ∀ w ∈ u_ws RX1 TX1 8, w ∈ wsX1_readCheese := in_r _ [163, 164, 165, 166, 167, 168, 169, 170] rfl
theorem k_X1_readCheese_1 : Cond.fieldLink RX1 12 "TicketGate$Parser" "draft" "LTicketGate$State;" ∈ wsX1_readCheese := List.mem_of_getElem? (i := 1) rfl
def f_X1_readCheese (p_start : Int32) (p_end : Int32) (p_kind : Int32) (p_value : Int32) (p_error : Int32) (p_errorAt : Int32) (p_t_count : Int32) (p_t_cells : Nat → Int32) (p_d_time : Int32) (p_d_tolerance : Int32) (p_d_R_rows : Int32) (p_d_R_cells : Nat → Int32) (p_d_U_rows : Int32) (p_d_U_cells : Nat → Int32) (p_d_S_rows : Int32) (p_d_S_cells : Nat → Int32) (p_d_T_rows : Int32) (p_d_T_cells : Nat → Int32) (p_d_E_rows : Int32) (p_d_E_cells : Nat → Int32) : Option (Int32 × Int32 × Int32 × Int32 × Int32 × Int32 × (Nat → Int32) × (Nat → Int32) × Int32 × (Nat → Int32)) :=
  (f_X1_take p_start p_end p_kind p_value p_error p_t_count p_t_cells).bind fun o1 =>
  (f_X1_knownTicket o1.2.1 o1.2.2.1 o1.2.2.2.1 o1.2.2.2.2 p_error p_errorAt p_t_count p_t_cells p_d_T_rows p_d_T_cells).bind fun o2 =>
  (f_X5_whyNoCheese p_d_time p_d_tolerance p_d_R_rows p_d_R_cells p_d_U_rows p_d_U_cells p_d_S_rows p_d_S_cells p_d_T_rows p_d_T_cells p_d_E_rows p_d_E_cells o2.1 0).bind fun o3 =>
  Option.bind (if o3 = 0 then (
    some (1))
  else (
    some (0)) : Option (Int32)) fun j4 =>
  (f_X1_semicolon o2.2.1 o2.2.2.1 o2.2.2.2.1 o2.2.2.2.2.1 o2.2.2.2.2.2.1 o2.2.2.2.2.2.2 p_t_count p_t_cells j4).bind fun o5 =>
  if o5.1 = 0 then (
    some (o5.2.1, o5.2.2.1, o5.2.2.2.1, o5.2.2.2.2.1, o5.2.2.2.2.2.1, o5.2.2.2.2.2.2, p_d_U_cells, p_d_S_cells, p_d_E_rows, p_d_E_cells))
  else (
    (f_X5_giveCheese p_d_time p_d_U_rows p_d_U_cells p_d_S_rows p_d_S_cells p_d_T_rows p_d_T_cells p_d_E_rows p_d_E_cells o2.1).bind fun o6 =>
    some (o5.2.1, o5.2.2.1, o5.2.2.2.1, o5.2.2.2.2.1, o5.2.2.2.2.2.1, o5.2.2.2.2.2.2, o6.2.1, o6.2.2.1, o6.2.2.2.1, o6.2.2.2.2))
set_option maxRecDepth 100000 in
set_option maxHeartbeats 4000000 in
theorem c_X1_readCheese (l : Launch) {G : (Nat → Prop) → State → Heap → Prop} (hG : vG G) (D : va_G) (c9 : Nat → ClassId) (ad : Nat → Nat) (p_start : Int32) (p_end : Int32) (p_kind : Int32) (p_value : Int32) (p_error : Int32) (p_errorAt : Int32) (p_t_count : Int32) (p_t_cells : Nat → Int32) (p_d_time : Int32) (p_d_tolerance : Int32) (p_d_seed : Int32) (p_d_madeTickets : Int32) (p_d_cheesesOfText : Int32) (p_d_R_rows : Int32) (p_d_R_cells : Nat → Int32) (p_d_U_rows : Int32) (p_d_U_cells : Nat → Int32) (p_d_S_rows : Int32) (p_d_S_cells : Nat → Int32) (p_d_T_rows : Int32) (p_d_T_cells : Nat → Int32) (p_d_E_rows : Int32) (p_d_E_cells : Nat → Int32)  {o : Int32 × Int32 × Int32 × Int32 × Int32 × Int32 × (Nat → Int32) × (Nat → Int32) × Int32 × (Nat → Int32)} (hf : f_X1_readCheese p_start p_end p_kind p_value p_error p_errorAt p_t_count p_t_cells p_d_time p_d_tolerance p_d_R_rows p_d_R_cells p_d_U_rows p_d_U_cells p_d_S_rows p_d_S_cells p_d_T_rows p_d_T_cells p_d_E_rows p_d_E_cells = some o) : mV l yX1_readCheese wsX1_readCheese { frames := 4, cells := 0, slots := 0, locals := 109 } G D (tyA c9) [.ref (ad 0)] (wX1 ad c9 p_start p_end p_kind p_value p_error p_errorAt p_t_count p_t_cells p_d_time p_d_tolerance p_d_seed p_d_madeTickets p_d_cheesesOfText p_d_R_rows p_d_R_cells p_d_U_rows p_d_U_cells p_d_S_rows p_d_S_cells p_d_T_rows p_d_T_cells p_d_E_rows p_d_E_cells) [] 0 0 (wX1 ad c9 o.1 o.2.1 o.2.2.1 o.2.2.2.1 o.2.2.2.2.1 o.2.2.2.2.2.1 p_t_count p_t_cells p_d_time p_d_tolerance p_d_seed p_d_madeTickets p_d_cheesesOfText p_d_R_rows p_d_R_cells p_d_U_rows o.2.2.2.2.2.2.1 p_d_S_rows o.2.2.2.2.2.2.2.1 p_d_T_rows p_d_T_cells o.2.2.2.2.2.2.2.2.1 o.2.2.2.2.2.2.2.2.2) := by
  refine mV_of hG (cc := cX1_readCheese) (maxL := 2) (by decide) rfl (Nat.le_of_ble_eq_true rfl) ?_
  intro p e s m args below meth c A hnm X
  have X : vX p s m args meth c cX1_readCheese 2 none RX1 wsX1_readCheese D (tyA c9) G A := X
  refine v_eq (lv2 := [(0, .ref (ad 0))]) rfl rfl rfl rfl ?_
  rw [f_X1_readCheese] at hf
  refine v_aload_n X dX1_readCheese_0 0 rfl rfl 1 rfl ?_
  obtain ⟨o1, ho1, hf⟩ := bnd hf
  refine v_callVi X (ci := 1) (T := TX1) (C := RX1) (As := []) (rest := []) (ws' := (wX1 ad c9 o1.2.1 o1.2.2.1 o1.2.2.2.1 o1.2.2.2.2 p_error p_errorAt p_t_count p_t_cells p_d_time p_d_tolerance p_d_seed p_d_madeTickets p_d_cheesesOfText p_d_R_rows p_d_R_cells p_d_U_rows p_d_U_cells p_d_S_rows p_d_S_cells p_d_T_rows p_d_T_cells p_d_E_rows p_d_E_cells)) (c_X1_take l hG D c9 ad p_start p_end p_kind p_value p_error p_errorAt p_t_count p_t_cells p_d_time p_d_tolerance p_d_seed p_d_madeTickets p_d_cheesesOfText p_d_R_rows p_d_R_cells p_d_U_rows p_d_U_cells p_d_S_rows p_d_S_cells p_d_T_rows p_d_T_cells p_d_E_rows p_d_E_cells ho1) 0 gX1_readCheese_X1_take rfl rfl rfl ⟨rfl, pd_X1_take⟩ ⟨Nat.le_of_ble_eq_true rfl, Nat.le_of_ble_eq_true rfl⟩ 0 rfl rfl rfl rfl (Nat.le_of_ble_eq_true rfl) ⟨Nat.zero_le _, Nat.zero_le _⟩ [0, 1, 2, 3, 4, 5, 6, 7, 8, 9, 10, 11, 12, 13] [] [0, 1, 2, 3, 4, 5, 6, 7, 8, 9, 10, 11, 12, 13] rfl rfl rfl rfl dX1_readCheese_1 4 rfl ?_
  refine v_pop X dX1_readCheese_4 rfl 5 rfl ?_
  refine v_aload_n X dX1_readCheese_5 0 rfl rfl 6 rfl ?_
  obtain ⟨o2, ho2, hf⟩ := bnd hf
  refine v_callVi X (ci := 1) (T := TX1) (C := RX1) (As := []) (rest := []) (ws' := (wX1 ad c9 o2.2.1 o2.2.2.1 o2.2.2.2.1 o2.2.2.2.2.1 o2.2.2.2.2.2.1 o2.2.2.2.2.2.2 p_t_count p_t_cells p_d_time p_d_tolerance p_d_seed p_d_madeTickets p_d_cheesesOfText p_d_R_rows p_d_R_cells p_d_U_rows p_d_U_cells p_d_S_rows p_d_S_cells p_d_T_rows p_d_T_cells p_d_E_rows p_d_E_cells)) (c_X1_knownTicket l hG D c9 ad o1.2.1 o1.2.2.1 o1.2.2.2.1 o1.2.2.2.2 p_error p_errorAt p_t_count p_t_cells p_d_time p_d_tolerance p_d_seed p_d_madeTickets p_d_cheesesOfText p_d_R_rows p_d_R_cells p_d_U_rows p_d_U_cells p_d_S_rows p_d_S_cells p_d_T_rows p_d_T_cells p_d_E_rows p_d_E_cells ho2) 0 gX1_readCheese_X1_knownTicket rfl rfl rfl ⟨rfl, pd_X1_knownTicket⟩ ⟨Nat.le_of_ble_eq_true rfl, Nat.le_of_ble_eq_true rfl⟩ 0 rfl rfl rfl rfl (Nat.le_of_ble_eq_true rfl) ⟨Nat.zero_le _, Nat.zero_le _⟩ [0, 1, 2, 3, 4, 5, 6, 7, 8, 9, 10, 11, 12, 13] [] [0, 1, 2, 3, 4, 5, 6, 7, 8, 9, 10, 11, 12, 13] rfl rfl rfl rfl dX1_readCheese_6 9 rfl ?_
  refine v_istore_n X (lv' := [(1, .int o2.1), (0, .ref (ad 0))]) dX1_readCheese_9 rfl (by decide) rfl 10 rfl ?_
  refine v_aload_n X dX1_readCheese_10 1 rfl rfl 11 rfl ?_
  refine v_aload_n X dX1_readCheese_11 1 rfl rfl 12 rfl ?_
  refine v_get X (C := RX1) (T := TX1) (N := 8) (ci := 1) (v := _) dX1_readCheese_12 k_X1_readCheese_w1 0 rfl rfl 1 (by decide) k_X1_readCheese_1 rfl rfl 15 rfl ?_
  refine v_iload_n X dX1_readCheese_15 0 rfl rfl 16 rfl ?_
  refine v_iconst X dX1_readCheese_16 ic_0 17 rfl ?_
  obtain ⟨o3, ho3, hf⟩ := bnd hf
  refine v_callVi X (ci := 5) (T := TX5) (C := RX5) (As := [.int o2.1, .int 0]) (rest := [.ref (ad 0)]) (ws' := (wX1 ad c9 o2.2.1 o2.2.2.1 o2.2.2.2.1 o2.2.2.2.2.1 o2.2.2.2.2.2.1 o2.2.2.2.2.2.2 p_t_count p_t_cells p_d_time p_d_tolerance p_d_seed p_d_madeTickets p_d_cheesesOfText p_d_R_rows p_d_R_cells p_d_U_rows p_d_U_cells p_d_S_rows p_d_S_cells p_d_T_rows p_d_T_cells p_d_E_rows p_d_E_cells)) (c_X5_whyNoCheese l hG D c9 (fun k => ad ([3, 4, 5, 6, 7, 8, 9, 10, 11, 12, 13].getD k 0)) p_d_time p_d_tolerance p_d_seed p_d_madeTickets p_d_cheesesOfText p_d_R_rows p_d_R_cells p_d_U_rows p_d_U_cells p_d_S_rows p_d_S_cells p_d_T_rows p_d_T_cells p_d_E_rows p_d_E_cells o2.1 0 ho3) 2 gX1_readCheese_X5_whyNoCheese rfl rfl rfl ⟨rfl, pd_X5_whyNoCheese⟩ ⟨Nat.le_of_ble_eq_true rfl, Nat.le_of_ble_eq_true rfl⟩ 3 rfl rfl rfl rfl (Nat.le_of_ble_eq_true rfl) ⟨Nat.zero_le _, Nat.zero_le _⟩ [3, 4, 5, 6, 7, 8, 9, 10, 11, 12, 13] [0, 1, 2] [0, 1, 2, 3, 4, 5, 6, 7, 8, 9, 10, 11, 12, 13] rfl rfl rfl rfl dX1_readCheese_17 20 rfl ?_
  obtain ⟨j4, hj4, hf⟩ := bnd hf
  have Jj4 : vW p l e { frames := 4, cells := 0, slots := 0, locals := 109 } s m args below meth c 2 D A [] 0 0 (MQ below (eV D (tyA c9) A ((wX1 ad c9 o.1 o.2.1 o.2.2.1 o.2.2.2.1 o.2.2.2.2.1 o.2.2.2.2.2.1 p_t_count p_t_cells p_d_time p_d_tolerance p_d_seed p_d_madeTickets p_d_cheesesOfText p_d_R_rows p_d_R_cells p_d_U_rows o.2.2.2.2.2.2.1 p_d_S_rows o.2.2.2.2.2.2.2.1 p_d_T_rows p_d_T_cells o.2.2.2.2.2.2.2.2.1 o.2.2.2.2.2.2.2.2.2) ++ [])) args s 0 0 A) (wX1 ad c9 o2.2.1 o2.2.2.1 o2.2.2.2.1 o2.2.2.2.2.1 o2.2.2.2.2.2.1 o2.2.2.2.2.2.2 p_t_count p_t_cells p_d_time p_d_tolerance p_d_seed p_d_madeTickets p_d_cheesesOfText p_d_R_rows p_d_R_cells p_d_U_rows p_d_U_cells p_d_S_rows p_d_S_cells p_d_T_rows p_d_T_cells p_d_E_rows p_d_E_cells) 28 [(0, .ref (ad 0)), (1, .int o2.1)] [.int j4, .ref (ad 0)] := by
    obtain ⟨o5, ho5, hf⟩ := bnd hf
    refine v_callVi X (ci := 1) (T := TX1) (C := RX1) (As := [.int j4]) (rest := []) (ws' := (wX1 ad c9 o5.2.1 o5.2.2.1 o5.2.2.2.1 o5.2.2.2.2.1 o5.2.2.2.2.2.1 o5.2.2.2.2.2.2 p_t_count p_t_cells p_d_time p_d_tolerance p_d_seed p_d_madeTickets p_d_cheesesOfText p_d_R_rows p_d_R_cells p_d_U_rows p_d_U_cells p_d_S_rows p_d_S_cells p_d_T_rows p_d_T_cells p_d_E_rows p_d_E_cells)) (c_X1_semicolon l hG D c9 ad o2.2.1 o2.2.2.1 o2.2.2.2.1 o2.2.2.2.2.1 o2.2.2.2.2.2.1 o2.2.2.2.2.2.2 p_t_count p_t_cells p_d_time p_d_tolerance p_d_seed p_d_madeTickets p_d_cheesesOfText p_d_R_rows p_d_R_cells p_d_U_rows p_d_U_cells p_d_S_rows p_d_S_cells p_d_T_rows p_d_T_cells p_d_E_rows p_d_E_cells j4 ho5) 1 gX1_readCheese_X1_semicolon rfl rfl rfl ⟨rfl, pd_X1_semicolon⟩ ⟨Nat.le_of_ble_eq_true rfl, Nat.le_of_ble_eq_true rfl⟩ 0 rfl rfl rfl rfl (Nat.le_of_ble_eq_true rfl) ⟨Nat.zero_le _, Nat.zero_le _⟩ [0, 1, 2, 3, 4, 5, 6, 7, 8, 9, 10, 11, 12, 13] [] [0, 1, 2, 3, 4, 5, 6, 7, 8, 9, 10, 11, 12, 13] rfl rfl rfl rfl dX1_readCheese_28 31 rfl ?_
    refine v_if_eq X (tgt := 43) dX1_readCheese_31 rfl 34 rfl hf (fun hf => ?_) (fun hf => ?_)
    · cases hf
      exact v_vret X (Nat.zero_le _) (Nat.zero_le _) dX1_readCheese_43
    · refine v_aload_n X dX1_readCheese_34 0 rfl rfl 35 rfl ?_
      refine v_get X (C := RX1) (T := TX1) (N := 8) (ci := 1) (v := _) dX1_readCheese_35 k_X1_readCheese_w1 0 rfl rfl 1 (by decide) k_X1_readCheese_1 rfl rfl 38 rfl ?_
      refine v_iload_n X dX1_readCheese_38 1 rfl rfl 39 rfl ?_
      obtain ⟨o6, ho6, hf⟩ := bnd hf
      refine v_callVi X (ci := 5) (T := TX5) (C := RX5) (As := [.int o2.1]) (rest := []) (ws' := (wX1 ad c9 o5.2.1 o5.2.2.1 o5.2.2.2.1 o5.2.2.2.2.1 o5.2.2.2.2.2.1 o5.2.2.2.2.2.2 p_t_count p_t_cells p_d_time p_d_tolerance p_d_seed p_d_madeTickets p_d_cheesesOfText p_d_R_rows p_d_R_cells p_d_U_rows o6.2.1 p_d_S_rows o6.2.2.1 p_d_T_rows p_d_T_cells o6.2.2.2.1 o6.2.2.2.2)) (c_X5_giveCheese l hG D c9 (fun k => ad ([3, 4, 5, 6, 7, 8, 9, 10, 11, 12, 13].getD k 0)) p_d_time p_d_tolerance p_d_seed p_d_madeTickets p_d_cheesesOfText p_d_R_rows p_d_R_cells p_d_U_rows p_d_U_cells p_d_S_rows p_d_S_cells p_d_T_rows p_d_T_cells p_d_E_rows p_d_E_cells o2.1 ho6) 1 gX1_readCheese_X5_giveCheese rfl rfl rfl ⟨rfl, pd_X5_giveCheese⟩ ⟨Nat.le_of_ble_eq_true rfl, Nat.le_of_ble_eq_true rfl⟩ 3 rfl rfl rfl rfl (Nat.le_of_ble_eq_true rfl) ⟨Nat.zero_le _, Nat.zero_le _⟩ [3, 4, 5, 6, 7, 8, 9, 10, 11, 12, 13] [0, 1, 2] [0, 1, 2, 3, 4, 5, 6, 7, 8, 9, 10, 11, 12, 13] rfl rfl rfl rfl dX1_readCheese_39 42 rfl ?_
      refine v_pop X dX1_readCheese_42 rfl 43 rfl ?_
      cases hf
      exact v_vret X (Nat.zero_le _) (Nat.zero_le _) dX1_readCheese_43
  clear hf
  refine v_if_ne X (tgt := 27) dX1_readCheese_20 rfl 23 rfl hj4 (fun hf => ?_) (fun hf => ?_)
  · refine v_iconst X dX1_readCheese_27 ic_0 28 rfl ?_
    cases hf
    refine v_sub (lv' := [(0, .ref (ad 0)), (1, .int o2.1)]) [1, 0] rfl ?_
    exact Jj4
  · refine v_iconst X dX1_readCheese_23 ic_1 24 rfl ?_
    refine v_goto X (tgt := 28) dX1_readCheese_24 rfl ?_
    cases hf
    refine v_sub (lv' := [(0, .ref (ad 0)), (1, .int o2.1)]) [1, 0] rfl ?_
    exact Jj4
theorem pd_X1_readCheese : yX1_readCheese.cls ≠ "java/lang/invoke/MethodHandle" ∧ yX1_readCheese.cls ≠ "java/lang/invoke/VarHandle" ∧ (parseMethodDescriptor yX1_readCheese.desc).map (fun d => d.parameters.length) = some 0 := by decide +kernel
theorem k_X1_readDrop_w1 : ∀ w ∈ u_ws RX1 TX1 8, w ∈ wsX1_readDrop := in_r _ [79, 80, 81, 82, 83, 84, 85, 86] rfl
theorem k_X1_readDrop_1 : Cond.fieldLink RX1 12 "TicketGate$Parser" "draft" "LTicketGate$State;" ∈ wsX1_readDrop := List.mem_of_getElem? (i := 1) rfl
theorem k_X1_readDrop_w5 : ∀ w ∈ u_ws RX5 TX5 10, w ∈ wsX1_readDrop := in_r _ [87, 88, 89, 90, 91, 92, 93, 94, 95, 96] rfl
theorem pd_X6_removeRow_UX1_readDrop_229 : "TicketGate$Table" ≠ "java/lang/invoke/MethodHandle" ∧ "TicketGate$Table" ≠ "java/lang/invoke/VarHandle" ∧ (parseMethodDescriptor "(I)V").map (fun d => d.parameters.length) = some 1 := by decide +kernel
def f_X1_readDrop (p_start : Int32) (p_end : Int32) (p_kind : Int32) (p_value : Int32) (p_error : Int32) (p_errorAt : Int32) (p_t_count : Int32) (p_t_cells : Nat → Int32) (p_d_T_rows : Int32) (p_d_T_cells : Nat → Int32) : Option (Int32 × Int32 × Int32 × Int32 × Int32 × Int32 × Int32 × (Nat → Int32)) :=
  (f_X1_take p_start p_end p_kind p_value p_error p_t_count p_t_cells).bind fun o1 =>
  (f_X1_knownTicket o1.2.1 o1.2.2.1 o1.2.2.2.1 o1.2.2.2.2 p_error p_errorAt p_t_count p_t_cells p_d_T_rows p_d_T_cells).bind fun o2 =>
  (f_X1_semicolon o2.2.1 o2.2.2.1 o2.2.2.2.1 o2.2.2.2.2.1 o2.2.2.2.2.2.1 o2.2.2.2.2.2.2 p_t_count p_t_cells 1).bind fun o3 =>
  if o3.1 = 0 then (
    some (o3.2.1, o3.2.2.1, o3.2.2.2.1, o3.2.2.2.2.1, o3.2.2.2.2.2.1, o3.2.2.2.2.2.2, p_d_T_rows, p_d_T_cells))
  else (
    (f_X6_removeRow 240 10 p_d_T_rows p_d_T_cells o2.1).bind fun o4 =>
    some (o3.2.1, o3.2.2.1, o3.2.2.2.1, o3.2.2.2.2.1, o3.2.2.2.2.2.1, o3.2.2.2.2.2.2, o4.1, o4.2))
set_option maxRecDepth 100000 in
set_option maxHeartbeats 4000000 in
theorem c_X1_readDrop (l : Launch) {G : (Nat → Prop) → State → Heap → Prop} (hG : vG G) (D : va_G) (c9 : Nat → ClassId) (ad : Nat → Nat) (p_start : Int32) (p_end : Int32) (p_kind : Int32) (p_value : Int32) (p_error : Int32) (p_errorAt : Int32) (p_t_count : Int32) (p_t_cells : Nat → Int32) (p_d_time : Int32) (p_d_tolerance : Int32) (p_d_seed : Int32) (p_d_madeTickets : Int32) (p_d_cheesesOfText : Int32) (p_d_R_rows : Int32) (p_d_R_cells : Nat → Int32) (p_d_U_rows : Int32) (p_d_U_cells : Nat → Int32) (p_d_S_rows : Int32) (p_d_S_cells : Nat → Int32) (p_d_T_rows : Int32) (p_d_T_cells : Nat → Int32) (p_d_E_rows : Int32) (p_d_E_cells : Nat → Int32)  {o : Int32 × Int32 × Int32 × Int32 × Int32 × Int32 × Int32 × (Nat → Int32)} (hf : f_X1_readDrop p_start p_end p_kind p_value p_error p_errorAt p_t_count p_t_cells p_d_T_rows p_d_T_cells = some o) : mV l yX1_readDrop wsX1_readDrop { frames := 4, cells := 0, slots := 0, locals := 107 } G D (tyA c9) [.ref (ad 0)] (wX1 ad c9 p_start p_end p_kind p_value p_error p_errorAt p_t_count p_t_cells p_d_time p_d_tolerance p_d_seed p_d_madeTickets p_d_cheesesOfText p_d_R_rows p_d_R_cells p_d_U_rows p_d_U_cells p_d_S_rows p_d_S_cells p_d_T_rows p_d_T_cells p_d_E_rows p_d_E_cells) [] 0 0 (wX1 ad c9 o.1 o.2.1 o.2.2.1 o.2.2.2.1 o.2.2.2.2.1 o.2.2.2.2.2.1 p_t_count p_t_cells p_d_time p_d_tolerance p_d_seed p_d_madeTickets p_d_cheesesOfText p_d_R_rows p_d_R_cells p_d_U_rows p_d_U_cells p_d_S_rows p_d_S_cells o.2.2.2.2.2.2.1 o.2.2.2.2.2.2.2 p_d_E_rows p_d_E_cells) := by
  refine mV_of hG (cc := cX1_readDrop) (maxL := 2) (by decide) rfl (Nat.le_of_ble_eq_true rfl) ?_
  intro p e s m args below meth c A hnm X
  have X : vX p s m args meth c cX1_readDrop 2 none RX1 wsX1_readDrop D (tyA c9) G A := X
  refine v_eq (lv2 := [(0, .ref (ad 0))]) rfl rfl rfl rfl ?_
  rw [f_X1_readDrop] at hf
  refine v_aload_n X dX1_readDrop_0 0 rfl rfl 1 rfl ?_
  obtain ⟨o1, ho1, hf⟩ := bnd hf
  refine v_callVi X (ci := 1) (T := TX1) (C := RX1) (As := []) (rest := []) (ws' := (wX1 ad c9 o1.2.1 o1.2.2.1 o1.2.2.2.1 o1.2.2.2.2 p_error p_errorAt p_t_count p_t_cells p_d_time p_d_tolerance p_d_seed p_d_madeTickets p_d_cheesesOfText p_d_R_rows p_d_R_cells p_d_U_rows p_d_U_cells p_d_S_rows p_d_S_cells p_d_T_rows p_d_T_cells p_d_E_rows p_d_E_cells)) (c_X1_take l hG D c9 ad p_start p_end p_kind p_value p_error p_errorAt p_t_count p_t_cells p_d_time p_d_tolerance p_d_seed p_d_madeTickets p_d_cheesesOfText p_d_R_rows p_d_R_cells p_d_U_rows p_d_U_cells p_d_S_rows p_d_S_cells p_d_T_rows p_d_T_cells p_d_E_rows p_d_E_cells ho1) 0 gX1_readDrop_X1_take rfl rfl rfl ⟨rfl, pd_X1_take⟩ ⟨Nat.le_of_ble_eq_true rfl, Nat.le_of_ble_eq_true rfl⟩ 0 rfl rfl rfl rfl (Nat.le_of_ble_eq_true rfl) ⟨Nat.zero_le _, Nat.zero_le _⟩ [0, 1, 2, 3, 4, 5, 6, 7, 8, 9, 10, 11, 12, 13] [] [0, 1, 2, 3, 4, 5, 6, 7, 8, 9, 10, 11, 12, 13] rfl rfl rfl rfl dX1_readDrop_1 4 rfl ?_
  refine v_pop X dX1_readDrop_4 rfl 5 rfl ?_
  refine v_aload_n X dX1_readDrop_5 0 rfl rfl 6 rfl ?_
  obtain ⟨o2, ho2, hf⟩ := bnd hf
  refine v_callVi X (ci := 1) (T := TX1) (C := RX1) (As := []) (rest := []) (ws' := (wX1 ad c9 o2.2.1 o2.2.2.1 o2.2.2.2.1 o2.2.2.2.2.1 o2.2.2.2.2.2.1 o2.2.2.2.2.2.2 p_t_count p_t_cells p_d_time p_d_tolerance p_d_seed p_d_madeTickets p_d_cheesesOfText p_d_R_rows p_d_R_cells p_d_U_rows p_d_U_cells p_d_S_rows p_d_S_cells p_d_T_rows p_d_T_cells p_d_E_rows p_d_E_cells)) (c_X1_knownTicket l hG D c9 ad o1.2.1 o1.2.2.1 o1.2.2.2.1 o1.2.2.2.2 p_error p_errorAt p_t_count p_t_cells p_d_time p_d_tolerance p_d_seed p_d_madeTickets p_d_cheesesOfText p_d_R_rows p_d_R_cells p_d_U_rows p_d_U_cells p_d_S_rows p_d_S_cells p_d_T_rows p_d_T_cells p_d_E_rows p_d_E_cells ho2) 0 gX1_readDrop_X1_knownTicket rfl rfl rfl ⟨rfl, pd_X1_knownTicket⟩ ⟨Nat.le_of_ble_eq_true rfl, Nat.le_of_ble_eq_true rfl⟩ 0 rfl rfl rfl rfl (Nat.le_of_ble_eq_true rfl) ⟨Nat.zero_le _, Nat.zero_le _⟩ [0, 1, 2, 3, 4, 5, 6, 7, 8, 9, 10, 11, 12, 13] [] [0, 1, 2, 3, 4, 5, 6, 7, 8, 9, 10, 11, 12, 13] rfl rfl rfl rfl dX1_readDrop_6 9 rfl ?_
  refine v_istore_n X (lv' := [(1, .int o2.1), (0, .ref (ad 0))]) dX1_readDrop_9 rfl (by decide) rfl 10 rfl ?_
  refine v_aload_n X dX1_readDrop_10 1 rfl rfl 11 rfl ?_
  refine v_iconst X dX1_readDrop_11 ic_1 12 rfl ?_
  obtain ⟨o3, ho3, hf⟩ := bnd hf
  refine v_callVi X (ci := 1) (T := TX1) (C := RX1) (As := [.int 1]) (rest := []) (ws' := (wX1 ad c9 o3.2.1 o3.2.2.1 o3.2.2.2.1 o3.2.2.2.2.1 o3.2.2.2.2.2.1 o3.2.2.2.2.2.2 p_t_count p_t_cells p_d_time p_d_tolerance p_d_seed p_d_madeTickets p_d_cheesesOfText p_d_R_rows p_d_R_cells p_d_U_rows p_d_U_cells p_d_S_rows p_d_S_cells p_d_T_rows p_d_T_cells p_d_E_rows p_d_E_cells)) (c_X1_semicolon l hG D c9 ad o2.2.1 o2.2.2.1 o2.2.2.2.1 o2.2.2.2.2.1 o2.2.2.2.2.2.1 o2.2.2.2.2.2.2 p_t_count p_t_cells p_d_time p_d_tolerance p_d_seed p_d_madeTickets p_d_cheesesOfText p_d_R_rows p_d_R_cells p_d_U_rows p_d_U_cells p_d_S_rows p_d_S_cells p_d_T_rows p_d_T_cells p_d_E_rows p_d_E_cells 1 ho3) 1 gX1_readDrop_X1_semicolon rfl rfl rfl ⟨rfl, pd_X1_semicolon⟩ ⟨Nat.le_of_ble_eq_true rfl, Nat.le_of_ble_eq_true rfl⟩ 0 rfl rfl rfl rfl (Nat.le_of_ble_eq_true rfl) ⟨Nat.zero_le _, Nat.zero_le _⟩ [0, 1, 2, 3, 4, 5, 6, 7, 8, 9, 10, 11, 12, 13] [] [0, 1, 2, 3, 4, 5, 6, 7, 8, 9, 10, 11, 12, 13] rfl rfl rfl rfl dX1_readDrop_12 15 rfl ?_
  refine v_if_eq X (tgt := 29) dX1_readDrop_15 rfl 18 rfl hf (fun hf => ?_) (fun hf => ?_)
  · cases hf
    exact v_vret X (Nat.zero_le _) (Nat.zero_le _) dX1_readDrop_29
  · refine v_aload_n X dX1_readDrop_18 1 rfl rfl 19 rfl ?_
    refine v_get X (C := RX1) (T := TX1) (N := 8) (ci := 1) (v := _) dX1_readDrop_19 k_X1_readDrop_w1 0 rfl rfl 1 (by decide) k_X1_readDrop_1 rfl rfl 22 rfl ?_
    refine v_getN X (C := RX5) (T := TX5) (N := 10) (ci := 5) (v := _) dX1_readDrop_22 k_X1_readDrop_w5 3 rfl rfl 3 (by decide) nest_RX1_225 rfl rfl 25 rfl ?_
    refine v_iload_n X dX1_readDrop_25 0 rfl rfl 26 rfl ?_
    obtain ⟨o4, ho4, hf⟩ := bnd hf
    refine v_callUv X (ci := 6) (T := TX7) (C := RX7) (owner := "TicketGate$Table") (As := [.int o2.1]) (rest := []) (ws' := (wX1 ad c9 o3.2.1 o3.2.2.1 o3.2.2.2.1 o3.2.2.2.2.1 o3.2.2.2.2.2.1 o3.2.2.2.2.2.2 p_t_count p_t_cells p_d_time p_d_tolerance p_d_seed p_d_madeTickets p_d_cheesesOfText p_d_R_rows p_d_R_cells p_d_U_rows p_d_U_cells p_d_S_rows p_d_S_cells o4.1 o4.2 p_d_E_rows p_d_E_cells)) (c_X6_removeRow l hG D c9 (fun k => ad ([10, 11].getD k 0)) 240 6 RX7 rfl kt_removeRow_X7 24 10 p_d_T_rows p_d_T_cells o2.1 ho4) 1 gX1_readDrop_X6_removeRow_u229X7 rfl rfl rfl rfl pd_X6_removeRow_UX1_readDrop_229 ⟨Nat.le_of_ble_eq_true rfl, Nat.le_of_ble_eq_true rfl⟩ 10 rfl rfl rfl rfl (Nat.le_of_ble_eq_true rfl) ⟨Nat.zero_le _, Nat.zero_le _⟩ [10, 11] [0, 1, 2, 3, 4, 5, 6, 7, 8, 9, 12, 13] [0, 1, 2, 3, 4, 5, 6, 7, 8, 9, 12, 13, 10, 11] rfl rfl rfl rfl dX1_readDrop_26 29 rfl ?_
    cases hf
    exact v_vret X (Nat.zero_le _) (Nat.zero_le _) dX1_readDrop_29
theorem pd_X1_readDrop : yX1_readDrop.cls ≠ "java/lang/invoke/MethodHandle" ∧ yX1_readDrop.cls ≠ "java/lang/invoke/VarHandle" ∧ (parseMethodDescriptor yX1_readDrop.desc).map (fun d => d.parameters.length) = some 0 := by decide +kernel
theorem k_X1_readSweep_w1 : ∀ w ∈ u_ws RX1 TX1 8, w ∈ wsX1_readSweep := in_r _ [79, 80, 81, 82, 83, 84, 85, 86] rfl
theorem k_X1_readSweep_1 : Cond.fieldLink RX1 12 "TicketGate$Parser" "draft" "LTicketGate$State;" ∈ wsX1_readSweep := List.mem_of_getElem? (i := 1) rfl
theorem k_X1_readSweep_w5 : ∀ w ∈ u_ws RX5 TX5 10, w ∈ wsX1_readSweep := in_r _ [87, 88, 89, 90, 91, 92, 93, 94, 95, 96] rfl
def f_X1_readSweep (p_start : Int32) (p_end : Int32) (p_kind : Int32) (p_value : Int32) (p_error : Int32) (p_errorAt : Int32) (p_t_count : Int32) (p_t_cells : Nat → Int32) (p_d_time : Int32) (p_d_T_rows : Int32) (p_d_T_cells : Nat → Int32) : Option (Int32 × Int32 × Int32 × Int32 × Int32 × Int32 × Int32 × (Nat → Int32)) :=
  (f_X1_take p_start p_end p_kind p_value p_error p_t_count p_t_cells).bind fun o1 =>
  (f_X1_semicolon o1.2.1 o1.2.2.1 o1.2.2.2.1 o1.2.2.2.2 p_error p_errorAt p_t_count p_t_cells 1).bind fun o2 =>
  if o2.1 = 0 then (
    some (o2.2.1, o2.2.2.1, o2.2.2.2.1, o2.2.2.2.2.1, o2.2.2.2.2.2.1, o2.2.2.2.2.2.2, p_d_T_rows, p_d_T_cells))
  else (
    (f_X7_removeDead p_d_T_rows p_d_T_cells p_d_time).bind fun o3 =>
    some (o2.2.1, o2.2.2.1, o2.2.2.2.1, o2.2.2.2.2.1, o2.2.2.2.2.2.1, o2.2.2.2.2.2.2, o3.2.1, o3.2.2))
set_option maxRecDepth 100000 in
set_option maxHeartbeats 4000000 in
theorem c_X1_readSweep (l : Launch) {G : (Nat → Prop) → State → Heap → Prop} (hG : vG G) (D : va_G) (c9 : Nat → ClassId) (ad : Nat → Nat) (p_start : Int32) (p_end : Int32) (p_kind : Int32) (p_value : Int32) (p_error : Int32) (p_errorAt : Int32) (p_t_count : Int32) (p_t_cells : Nat → Int32) (p_d_time : Int32) (p_d_tolerance : Int32) (p_d_seed : Int32) (p_d_madeTickets : Int32) (p_d_cheesesOfText : Int32) (p_d_R_rows : Int32) (p_d_R_cells : Nat → Int32) (p_d_U_rows : Int32) (p_d_U_cells : Nat → Int32) (p_d_S_rows : Int32) (p_d_S_cells : Nat → Int32) (p_d_T_rows : Int32) (p_d_T_cells : Nat → Int32) (p_d_E_rows : Int32) (p_d_E_cells : Nat → Int32)  {o : Int32 × Int32 × Int32 × Int32 × Int32 × Int32 × Int32 × (Nat → Int32)} (hf : f_X1_readSweep p_start p_end p_kind p_value p_error p_errorAt p_t_count p_t_cells p_d_time p_d_T_rows p_d_T_cells = some o) : mV l yX1_readSweep wsX1_readSweep { frames := 4, cells := 0, slots := 0, locals := 107 } G D (tyA c9) [.ref (ad 0)] (wX1 ad c9 p_start p_end p_kind p_value p_error p_errorAt p_t_count p_t_cells p_d_time p_d_tolerance p_d_seed p_d_madeTickets p_d_cheesesOfText p_d_R_rows p_d_R_cells p_d_U_rows p_d_U_cells p_d_S_rows p_d_S_cells p_d_T_rows p_d_T_cells p_d_E_rows p_d_E_cells) [] 0 0 (wX1 ad c9 o.1 o.2.1 o.2.2.1 o.2.2.2.1 o.2.2.2.2.1 o.2.2.2.2.2.1 p_t_count p_t_cells p_d_time p_d_tolerance p_d_seed p_d_madeTickets p_d_cheesesOfText p_d_R_rows p_d_R_cells p_d_U_rows p_d_U_cells p_d_S_rows p_d_S_cells o.2.2.2.2.2.2.1 o.2.2.2.2.2.2.2 p_d_E_rows p_d_E_cells) := by
  refine mV_of hG (cc := cX1_readSweep) (maxL := 1) (by decide) rfl (Nat.le_of_ble_eq_true rfl) ?_
  intro p e s m args below meth c A hnm X
  have X : vX p s m args meth c cX1_readSweep 1 none RX1 wsX1_readSweep D (tyA c9) G A := X
  refine v_eq (lv2 := [(0, .ref (ad 0))]) rfl rfl rfl rfl ?_
  rw [f_X1_readSweep] at hf
  refine v_aload_n X dX1_readSweep_0 0 rfl rfl 1 rfl ?_
  obtain ⟨o1, ho1, hf⟩ := bnd hf
  refine v_callVi X (ci := 1) (T := TX1) (C := RX1) (As := []) (rest := []) (ws' := (wX1 ad c9 o1.2.1 o1.2.2.1 o1.2.2.2.1 o1.2.2.2.2 p_error p_errorAt p_t_count p_t_cells p_d_time p_d_tolerance p_d_seed p_d_madeTickets p_d_cheesesOfText p_d_R_rows p_d_R_cells p_d_U_rows p_d_U_cells p_d_S_rows p_d_S_cells p_d_T_rows p_d_T_cells p_d_E_rows p_d_E_cells)) (c_X1_take l hG D c9 ad p_start p_end p_kind p_value p_error p_errorAt p_t_count p_t_cells p_d_time p_d_tolerance p_d_seed p_d_madeTickets p_d_cheesesOfText p_d_R_rows p_d_R_cells p_d_U_rows p_d_U_cells p_d_S_rows p_d_S_cells p_d_T_rows p_d_T_cells p_d_E_rows p_d_E_cells ho1) 0 gX1_readSweep_X1_take rfl rfl rfl ⟨rfl, pd_X1_take⟩ ⟨Nat.le_of_ble_eq_true rfl, Nat.le_of_ble_eq_true rfl⟩ 0 rfl rfl rfl rfl (Nat.le_of_ble_eq_true rfl) ⟨Nat.zero_le _, Nat.zero_le _⟩ [0, 1, 2, 3, 4, 5, 6, 7, 8, 9, 10, 11, 12, 13] [] [0, 1, 2, 3, 4, 5, 6, 7, 8, 9, 10, 11, 12, 13] rfl rfl rfl rfl dX1_readSweep_1 4 rfl ?_
  refine v_pop X dX1_readSweep_4 rfl 5 rfl ?_
  refine v_aload_n X dX1_readSweep_5 0 rfl rfl 6 rfl ?_
  refine v_iconst X dX1_readSweep_6 ic_1 7 rfl ?_
  obtain ⟨o2, ho2, hf⟩ := bnd hf
  refine v_callVi X (ci := 1) (T := TX1) (C := RX1) (As := [.int 1]) (rest := []) (ws' := (wX1 ad c9 o2.2.1 o2.2.2.1 o2.2.2.2.1 o2.2.2.2.2.1 o2.2.2.2.2.2.1 o2.2.2.2.2.2.2 p_t_count p_t_cells p_d_time p_d_tolerance p_d_seed p_d_madeTickets p_d_cheesesOfText p_d_R_rows p_d_R_cells p_d_U_rows p_d_U_cells p_d_S_rows p_d_S_cells p_d_T_rows p_d_T_cells p_d_E_rows p_d_E_cells)) (c_X1_semicolon l hG D c9 ad o1.2.1 o1.2.2.1 o1.2.2.2.1 o1.2.2.2.2 p_error p_errorAt p_t_count p_t_cells p_d_time p_d_tolerance p_d_seed p_d_madeTickets p_d_cheesesOfText p_d_R_rows p_d_R_cells p_d_U_rows p_d_U_cells p_d_S_rows p_d_S_cells p_d_T_rows p_d_T_cells p_d_E_rows p_d_E_cells 1 ho2) 1 gX1_readSweep_X1_semicolon rfl rfl rfl ⟨rfl, pd_X1_semicolon⟩ ⟨Nat.le_of_ble_eq_true rfl, Nat.le_of_ble_eq_true rfl⟩ 0 rfl rfl rfl rfl (Nat.le_of_ble_eq_true rfl) ⟨Nat.zero_le _, Nat.zero_le _⟩ [0, 1, 2, 3, 4, 5, 6, 7, 8, 9, 10, 11, 12, 13] [] [0, 1, 2, 3, 4, 5, 6, 7, 8, 9, 10, 11, 12, 13] rfl rfl rfl rfl dX1_readSweep_7 10 rfl ?_
  refine v_if_eq X (tgt := 31) dX1_readSweep_10 rfl 13 rfl hf (fun hf => ?_) (fun hf => ?_)
  · cases hf
    exact v_vret X (Nat.zero_le _) (Nat.zero_le _) dX1_readSweep_31
  · refine v_aload_n X dX1_readSweep_13 0 rfl rfl 14 rfl ?_
    refine v_get X (C := RX1) (T := TX1) (N := 8) (ci := 1) (v := _) dX1_readSweep_14 k_X1_readSweep_w1 0 rfl rfl 1 (by decide) k_X1_readSweep_1 rfl rfl 17 rfl ?_
    refine v_getN X (C := RX5) (T := TX5) (N := 10) (ci := 5) (v := _) dX1_readSweep_17 k_X1_readSweep_w5 3 rfl rfl 3 (by decide) nest_RX1_225 rfl rfl 20 rfl ?_
    refine v_aload_n X dX1_readSweep_20 0 rfl rfl 21 rfl ?_
    refine v_get X (C := RX1) (T := TX1) (N := 8) (ci := 1) (v := _) dX1_readSweep_21 k_X1_readSweep_w1 0 rfl rfl 1 (by decide) k_X1_readSweep_1 rfl rfl 24 rfl ?_
    refine v_getN X (C := RX5) (T := TX5) (N := 10) (ci := 5) (v := _) dX1_readSweep_24 k_X1_readSweep_w5 3 rfl rfl 5 (by decide) nest_RX1_235 rfl rfl 27 rfl ?_
    obtain ⟨o3, ho3, hf⟩ := bnd hf
    refine v_callVi X (ci := 6) (T := TX7) (C := RX7) (As := [.int p_d_time]) (rest := []) (ws' := (wX1 ad c9 o2.2.1 o2.2.2.1 o2.2.2.2.1 o2.2.2.2.2.1 o2.2.2.2.2.2.1 o2.2.2.2.2.2.2 p_t_count p_t_cells p_d_time p_d_tolerance p_d_seed p_d_madeTickets p_d_cheesesOfText p_d_R_rows p_d_R_cells p_d_U_rows p_d_U_cells p_d_S_rows p_d_S_cells o3.2.1 o3.2.2 p_d_E_rows p_d_E_cells)) (c_X7_removeDead l hG D c9 (fun k => ad ([10, 11].getD k 0)) p_d_T_rows p_d_T_cells p_d_time ho3) 1 gX1_readSweep_X7_removeDead rfl rfl rfl ⟨rfl, pd_X7_removeDead⟩ ⟨Nat.le_of_ble_eq_true rfl, Nat.le_of_ble_eq_true rfl⟩ 10 rfl rfl rfl rfl (Nat.le_of_ble_eq_true rfl) ⟨Nat.zero_le _, Nat.zero_le _⟩ [10, 11] [0, 1, 2, 3, 4, 5, 6, 7, 8, 9, 12, 13] [0, 1, 2, 3, 4, 5, 6, 7, 8, 9, 12, 13, 10, 11] rfl rfl rfl rfl dX1_readSweep_27 30 rfl ?_
    refine v_pop X dX1_readSweep_30 rfl 31 rfl ?_
    cases hf
    exact v_vret X (Nat.zero_le _) (Nat.zero_le _) dX1_readSweep_31
theorem pd_X1_readSweep : yX1_readSweep.cls ≠ "java/lang/invoke/MethodHandle" ∧ yX1_readSweep.cls ≠ "java/lang/invoke/VarHandle" ∧ (parseMethodDescriptor yX1_readSweep.desc).map (fun d => d.parameters.length) = some 0 := by decide +kernel
