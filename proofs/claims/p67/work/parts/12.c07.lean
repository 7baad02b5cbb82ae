theorem pd_X6_isFull_UX1_readService_178 : "TicketGate$Table" ≠ "java/lang/invoke/MethodHandle" ∧ "TicketGate$Table" ≠ "java/lang/invoke/VarHandle" ∧ (parseMethodDescriptor "()Z").map (fun d => d.parameters.length) = some 0 := by decide +kernel
def f_X1_readService (p_start : Int32) (p_end : Int32) (p_kind : Int32) (p_value : Int32) (p_error : Int32) (p_errorAt : Int32) (p_t_count : Int32) (p_t_cells : Nat → Int32) (p_d_cheesesOfText : Int32) (p_d_R_rows : Int32) (p_d_R_cells : Nat → Int32) (p_d_U_rows : Int32) (p_d_U_cells : Nat → Int32) (p_d_S_rows : Int32) (p_d_S_cells : Nat → Int32) : Option (Int32 × Int32 × Int32 × Int32 × Int32 × Int32 × Int32 × Int32 × (Nat → Int32)) :=
  (f_X6_isFull 18 6 p_d_S_rows).bind fun o1 =>
  Option.bind (if o1 = 0 then (
    some (1))
  else (
    some (0)) : Option (Int32)) fun j2 =>
  (f_X1_require p_start p_error p_errorAt j2 5).bind fun o3 =>
  (f_X1_take p_start p_end p_kind p_value o3.1 p_t_count p_t_cells).bind fun o4 =>
  (f_X1_newName o4.2.1 o4.2.2.1 o4.2.2.2.1 o4.2.2.2.2 o3.1 o3.2 p_t_count p_t_cells p_d_R_rows p_d_R_cells p_d_U_rows p_d_U_cells p_d_S_rows p_d_S_cells).bind fun o5 =>
  (f_X1_knownName_realms o5.2.1 o5.2.2.1 o5.2.2.2.1 o5.2.2.2.2.1 o5.2.2.2.2.2.1 o5.2.2.2.2.2.2 p_t_count p_t_cells p_d_R_rows p_d_R_cells 0).bind fun o6 =>
  (f_X1_number o6.2.1 o6.2.2.1 o6.2.2.2.1 o6.2.2.2.2.1 o6.2.2.2.2.2.1 o6.2.2.2.2.2.2 p_t_count p_t_cells 0 99).bind fun o7 =>
  (f_X1_semicolon o7.2.1 o7.2.2.1 o7.2.2.2.1 o7.2.2.2.2.1 o7.2.2.2.2.2.1 o7.2.2.2.2.2.2 p_t_count p_t_cells 1).bind fun o8 =>
  if o8.1 = 0 then (
    some (o8.2.1, o8.2.2.1, o8.2.2.2.1, o8.2.2.2.2.1, o8.2.2.2.2.2.1, o8.2.2.2.2.2.2, p_d_cheesesOfText, p_d_S_rows, p_d_S_cells))
  else (
    (f_X3_addService p_d_S_rows p_d_S_cells o5.1 o6.1 o7.1).bind fun o9 =>
    some (o8.2.1, o8.2.2.1, o8.2.2.2.1, o8.2.2.2.2.1, o8.2.2.2.2.2.1, o8.2.2.2.2.2.2, (p_d_cheesesOfText + o7.1), o9.1, o9.2))
set_option maxRecDepth 100000 in
set_option maxHeartbeats 4000000 in
theorem c_X1_readService (l : Launch) {G : (Nat → Prop) → State → Heap → Prop} (hG : vG G) (D : va_G) (c9 : Nat → ClassId) (ad : Nat → Nat) (p_start : Int32) (p_end : Int32) (p_kind : Int32) (p_value : Int32) (p_error : Int32) (p_errorAt : Int32) (p_t_count : Int32) (p_t_cells : Nat → Int32) (p_d_time : Int32) (p_d_tolerance : Int32) (p_d_seed : Int32) (p_d_madeTickets : Int32) (p_d_cheesesOfText : Int32) (p_d_R_rows : Int32) (p_d_R_cells : Nat → Int32) (p_d_U_rows : Int32) (p_d_U_cells : Nat → Int32) (p_d_S_rows : Int32) (p_d_S_cells : Nat → Int32) (p_d_T_rows : Int32) (p_d_T_cells : Nat → Int32) (p_d_E_rows : Int32) (p_d_E_cells : Nat → Int32)  {o : Int32 × Int32 × Int32 × Int32 × Int32 × Int32 × Int32 × Int32 × (Nat → Int32)} (hf : f_X1_readService p_start p_end p_kind p_value p_error p_errorAt p_t_count p_t_cells p_d_cheesesOfText p_d_R_rows p_d_R_cells p_d_U_rows p_d_U_cells p_d_S_rows p_d_S_cells = some o) : mV l yX1_readService (wq yX1_readService cX1_readService 4 none) { frames := 4, cells := 0, slots := 0, locals := 109 } G D (tyA c9) [.ref (ad 0)] (wX1 ad c9 p_start p_end p_kind p_value p_error p_errorAt p_t_count p_t_cells p_d_time p_d_tolerance p_d_seed p_d_madeTickets p_d_cheesesOfText p_d_R_rows p_d_R_cells p_d_U_rows p_d_U_cells p_d_S_rows p_d_S_cells p_d_T_rows p_d_T_cells p_d_E_rows p_d_E_cells) [] 0 0 (wX1 ad c9 o.1 o.2.1 o.2.2.1 o.2.2.2.1 o.2.2.2.2.1 o.2.2.2.2.2.1 p_t_count p_t_cells p_d_time p_d_tolerance p_d_seed p_d_madeTickets o.2.2.2.2.2.2.1 p_d_R_rows p_d_R_cells p_d_U_rows p_d_U_cells o.2.2.2.2.2.2.2.1 o.2.2.2.2.2.2.2.2 p_d_T_rows p_d_T_cells p_d_E_rows p_d_E_cells) := by
  refine mV_of hG (cc := cX1_readService) (maxL := 4) (by decide) rfl (Nat.le_of_ble_eq_true rfl) ?_
  intro p e s m args below meth c A hnm X
  have X : vX p s m args meth c cX1_readService 4 none RX1 (wq yX1_readService cX1_readService 4 none) D (tyA c9) G A := X
  refine v_eq (lv2 := [(0, .ref (ad 0))]) rfl rfl rfl rfl ?_
  rw [f_X1_readService] at hf
  refine v_aload_n X dX1_readService_0 0 rfl rfl 1 rfl ?_
  refine v_aload_n X dX1_readService_1 0 rfl rfl 2 rfl ?_
  refine v_get X (C := RX1) (T := TX1) (N := 8) (ci := 3) (v := _) dX1_readService_2 (lay_of layc_X1) 0 rfl rfl 1 (by decide) (mw wc_354) rfl rfl 5 rfl ?_
  refine v_getN X (C := RX5) (T := TX5) (N := 10) (ci := 7) (v := _) dX1_readService_5 (lay_of layc_X5) 3 rfl rfl 2 (by decide) nest_RX1_174 rfl rfl 8 rfl ?_
  obtain ⟨o1, ho1, hf⟩ := bnd hf
  refine v_callUi X (ci := 5) (T := TX3) (C := RX3) (owner := "TicketGate$Table") (As := []) (rest := [.ref (ad 0)]) (ws' := (wX1 ad c9 p_start p_end p_kind p_value p_error p_errorAt p_t_count p_t_cells p_d_time p_d_tolerance p_d_seed p_d_madeTickets p_d_cheesesOfText p_d_R_rows p_d_R_cells p_d_U_rows p_d_U_cells p_d_S_rows p_d_S_cells p_d_T_rows p_d_T_cells p_d_E_rows p_d_E_cells)) (c_X6_isFull l hG D c9 (fun k => ad ([8, 9].getD k 0)) 18 5 RX3 rfl layc_X3 6 3 p_d_S_rows p_d_S_cells ho1) 0 (gU wc_429 wc_430 wc_431 wc_115 wc_34 wc_116) rfl rfl rfl rfl pd_X6_isFull_UX1_readService_178 ⟨Nat.le_of_ble_eq_true rfl, Nat.le_of_ble_eq_true rfl⟩ 8 rfl rfl rfl rfl (Nat.le_of_ble_eq_true rfl) ⟨Nat.zero_le _, Nat.zero_le _⟩ [8, 9] [0, 1, 2, 3, 4, 5, 6, 7, 10, 11, 12, 13] [0, 1, 2, 3, 4, 5, 6, 7, 12, 13, 8, 9, 10, 11] rfl rfl rfl rfl dX1_readService_8 11 rfl ?_
  obtain ⟨j2, hj2, hf⟩ := bnd hf
  have Jj2 : vW p l e { frames := 4, cells := 0, slots := 0, locals := 109 } s m args below meth c 4 D A [] 0 0 (MQ below (eV D (tyA c9) A ((wX1 ad c9 o.1 o.2.1 o.2.2.1 o.2.2.2.1 o.2.2.2.2.1 o.2.2.2.2.2.1 p_t_count p_t_cells p_d_time p_d_tolerance p_d_seed p_d_madeTickets o.2.2.2.2.2.2.1 p_d_R_rows p_d_R_cells p_d_U_rows p_d_U_cells o.2.2.2.2.2.2.2.1 o.2.2.2.2.2.2.2.2 p_d_T_rows p_d_T_cells p_d_E_rows p_d_E_cells) ++ [])) args s 0 0 A) (wX1 ad c9 p_start p_end p_kind p_value p_error p_errorAt p_t_count p_t_cells p_d_time p_d_tolerance p_d_seed p_d_madeTickets p_d_cheesesOfText p_d_R_rows p_d_R_cells p_d_U_rows p_d_U_cells p_d_S_rows p_d_S_cells p_d_T_rows p_d_T_cells p_d_E_rows p_d_E_cells) 19 [(0, .ref (ad 0))] [.int j2, .ref (ad 0)] := by
    refine v_iconst X dX1_readService_19 ic_5 20 rfl ?_
    obtain ⟨o3, ho3, hf⟩ := bnd hf
    refine v_callVv X (ci := 3) (T := TX1) (C := RX1) (As := [.int j2, .int 5]) (rest := []) (ws' := (wX1 ad c9 p_start p_end p_kind p_value o3.1 o3.2 p_t_count p_t_cells p_d_time p_d_tolerance p_d_seed p_d_madeTickets p_d_cheesesOfText p_d_R_rows p_d_R_cells p_d_U_rows p_d_U_cells p_d_S_rows p_d_S_cells p_d_T_rows p_d_T_cells p_d_E_rows p_d_E_cells)) (c_X1_require l hG D c9 ad p_start p_end p_kind p_value p_error p_errorAt p_t_count p_t_cells p_d_time p_d_tolerance p_d_seed p_d_madeTickets p_d_cheesesOfText p_d_R_rows p_d_R_cells p_d_U_rows p_d_U_cells p_d_S_rows p_d_S_cells p_d_T_rows p_d_T_cells p_d_E_rows p_d_E_cells j2 5 ho3) 2 (gV wc_333 wc_334 wc_335 wc_336 wc_337) rfl rfl rfl ⟨rfl, pd_X1_require⟩ ⟨Nat.le_of_ble_eq_true rfl, Nat.le_of_ble_eq_true rfl⟩ 0 rfl rfl rfl rfl (Nat.le_of_ble_eq_true rfl) ⟨Nat.zero_le _, Nat.zero_le _⟩ [0, 1, 2, 3, 4, 5, 6, 7, 8, 9, 10, 11, 12, 13] [] [0, 1, 2, 3, 4, 5, 6, 7, 8, 9, 10, 11, 12, 13] rfl rfl rfl rfl dX1_readService_20 23 rfl ?_
    refine v_aload_n X dX1_readService_23 0 rfl rfl 24 rfl ?_
    obtain ⟨o4, ho4, hf⟩ := bnd hf
    refine v_callVi X (ci := 3) (T := TX1) (C := RX1) (As := []) (rest := []) (ws' := (wX1 ad c9 o4.2.1 o4.2.2.1 o4.2.2.2.1 o4.2.2.2.2 o3.1 o3.2 p_t_count p_t_cells p_d_time p_d_tolerance p_d_seed p_d_madeTickets p_d_cheesesOfText p_d_R_rows p_d_R_cells p_d_U_rows p_d_U_cells p_d_S_rows p_d_S_cells p_d_T_rows p_d_T_cells p_d_E_rows p_d_E_cells)) (c_X1_take l hG D c9 ad p_start p_end p_kind p_value o3.1 o3.2 p_t_count p_t_cells p_d_time p_d_tolerance p_d_seed p_d_madeTickets p_d_cheesesOfText p_d_R_rows p_d_R_cells p_d_U_rows p_d_U_cells p_d_S_rows p_d_S_cells p_d_T_rows p_d_T_cells p_d_E_rows p_d_E_cells ho4) 0 (gV wc_338 wc_339 wc_340 wc_336 wc_341) rfl rfl rfl ⟨rfl, pd_X1_take⟩ ⟨Nat.le_of_ble_eq_true rfl, Nat.le_of_ble_eq_true rfl⟩ 0 rfl rfl rfl rfl (Nat.le_of_ble_eq_true rfl) ⟨Nat.zero_le _, Nat.zero_le _⟩ [0, 1, 2, 3, 4, 5, 6, 7, 8, 9, 10, 11, 12, 13] [] [0, 1, 2, 3, 4, 5, 6, 7, 8, 9, 10, 11, 12, 13] rfl rfl rfl rfl dX1_readService_24 27 rfl ?_
    refine v_pop X dX1_readService_27 rfl 28 rfl ?_
    refine v_aload_n X dX1_readService_28 0 rfl rfl 29 rfl ?_
    obtain ⟨o5, ho5, hf⟩ := bnd hf
    refine v_callVi X (ci := 3) (T := TX1) (C := RX1) (As := []) (rest := []) (ws' := (wX1 ad c9 o5.2.1 o5.2.2.1 o5.2.2.2.1 o5.2.2.2.2.1 o5.2.2.2.2.2.1 o5.2.2.2.2.2.2 p_t_count p_t_cells p_d_time p_d_tolerance p_d_seed p_d_madeTickets p_d_cheesesOfText p_d_R_rows p_d_R_cells p_d_U_rows p_d_U_cells p_d_S_rows p_d_S_cells p_d_T_rows p_d_T_cells p_d_E_rows p_d_E_cells)) (c_X1_newName l hG D c9 ad o4.2.1 o4.2.2.1 o4.2.2.2.1 o4.2.2.2.2 o3.1 o3.2 p_t_count p_t_cells p_d_time p_d_tolerance p_d_seed p_d_madeTickets p_d_cheesesOfText p_d_R_rows p_d_R_cells p_d_U_rows p_d_U_cells p_d_S_rows p_d_S_cells p_d_T_rows p_d_T_cells p_d_E_rows p_d_E_cells ho5) 0 (gV wc_432 wc_433 wc_434 wc_336 wc_435) rfl rfl rfl ⟨rfl, pd_X1_newName⟩ ⟨Nat.le_of_ble_eq_true rfl, Nat.le_of_ble_eq_true rfl⟩ 0 rfl rfl rfl rfl (Nat.le_of_ble_eq_true rfl) ⟨Nat.zero_le _, Nat.zero_le _⟩ [0, 1, 2, 3, 4, 5, 6, 7, 8, 9, 10, 11, 12, 13] [] [0, 1, 2, 3, 4, 5, 6, 7, 8, 9, 10, 11, 12, 13] rfl rfl rfl rfl dX1_readService_29 32 rfl ?_
    refine v_istore_n X (lv' := [(1, .int o5.1), (0, .ref (ad 0))]) dX1_readService_32 rfl (by decide) rfl 33 rfl ?_
    refine v_aload_n X dX1_readService_33 1 rfl rfl 34 rfl ?_
    refine v_aload_n X dX1_readService_34 1 rfl rfl 35 rfl ?_
    refine v_get X (C := RX1) (T := TX1) (N := 8) (ci := 3) (v := _) dX1_readService_35 (lay_of layc_X1) 0 rfl rfl 1 (by decide) (mw wc_354) rfl rfl 38 rfl ?_
    refine v_getN X (C := RX5) (T := TX5) (N := 10) (ci := 7) (v := _) dX1_readService_38 (lay_of layc_X5) 3 rfl rfl 0 (by decide) nest_RX1_127 rfl rfl 41 rfl ?_
    refine v_iconst X dX1_readService_41 ic_0 42 rfl ?_
    obtain ⟨o6, ho6, hf⟩ := bnd hf
    refine v_callVi X (ci := 3) (T := TX1) (C := RX1) (As := [.ref (ad 4), .int 0]) (rest := []) (ws' := (wX1 ad c9 o6.2.1 o6.2.2.1 o6.2.2.2.1 o6.2.2.2.2.1 o6.2.2.2.2.2.1 o6.2.2.2.2.2.2 p_t_count p_t_cells p_d_time p_d_tolerance p_d_seed p_d_madeTickets p_d_cheesesOfText p_d_R_rows p_d_R_cells p_d_U_rows p_d_U_cells p_d_S_rows p_d_S_cells p_d_T_rows p_d_T_cells p_d_E_rows p_d_E_cells)) (c_X1_knownName_realms l hG D c9 ad o5.2.1 o5.2.2.1 o5.2.2.2.1 o5.2.2.2.2.1 o5.2.2.2.2.2.1 o5.2.2.2.2.2.2 p_t_count p_t_cells p_d_time p_d_tolerance p_d_seed p_d_madeTickets p_d_cheesesOfText p_d_R_rows p_d_R_cells p_d_U_rows p_d_U_cells p_d_S_rows p_d_S_cells p_d_T_rows p_d_T_cells p_d_E_rows p_d_E_cells 0 ho6) 2 (gV wc_395 wc_396 wc_397 wc_336 wc_398) rfl rfl rfl ⟨rfl, pd_X1_knownName⟩ ⟨Nat.le_of_ble_eq_true rfl, Nat.le_of_ble_eq_true rfl⟩ 0 rfl rfl rfl rfl (Nat.le_of_ble_eq_true rfl) ⟨Nat.zero_le _, Nat.zero_le _⟩ [0, 1, 2, 3, 4, 5, 6, 7, 8, 9, 10, 11, 12, 13] [] [0, 1, 2, 3, 4, 5, 6, 7, 8, 9, 10, 11, 12, 13] rfl rfl rfl rfl dX1_readService_42 45 rfl ?_
    refine v_istore_n X (lv' := [(2, .int o6.1), (1, .int o5.1), (0, .ref (ad 0))]) dX1_readService_45 rfl (by decide) rfl 46 rfl ?_
    refine v_aload_n X dX1_readService_46 2 rfl rfl 47 rfl ?_
    refine v_iconst X dX1_readService_47 ic_0 48 rfl ?_
    refine v_bipush X dX1_readService_48 bp_99 50 rfl ?_
    obtain ⟨o7, ho7, hf⟩ := bnd hf
    refine v_callVi X (ci := 3) (T := TX1) (C := RX1) (As := [.int 0, .int 99]) (rest := []) (ws' := (wX1 ad c9 o7.2.1 o7.2.2.1 o7.2.2.2.1 o7.2.2.2.2.1 o7.2.2.2.2.2.1 o7.2.2.2.2.2.2 p_t_count p_t_cells p_d_time p_d_tolerance p_d_seed p_d_madeTickets p_d_cheesesOfText p_d_R_rows p_d_R_cells p_d_U_rows p_d_U_cells p_d_S_rows p_d_S_cells p_d_T_rows p_d_T_cells p_d_E_rows p_d_E_cells)) (c_X1_number l hG D c9 ad o6.2.1 o6.2.2.1 o6.2.2.2.1 o6.2.2.2.2.1 o6.2.2.2.2.2.1 o6.2.2.2.2.2.2 p_t_count p_t_cells p_d_time p_d_tolerance p_d_seed p_d_madeTickets p_d_cheesesOfText p_d_R_rows p_d_R_cells p_d_U_rows p_d_U_cells p_d_S_rows p_d_S_cells p_d_T_rows p_d_T_cells p_d_E_rows p_d_E_cells 0 99 ho7) 2 (gV wc_346 wc_347 wc_348 wc_336 wc_349) rfl rfl rfl ⟨rfl, pd_X1_number⟩ ⟨Nat.le_of_ble_eq_true rfl, Nat.le_of_ble_eq_true rfl⟩ 0 rfl rfl rfl rfl (Nat.le_of_ble_eq_true rfl) ⟨Nat.zero_le _, Nat.zero_le _⟩ [0, 1, 2, 3, 4, 5, 6, 7, 8, 9, 10, 11, 12, 13] [] [0, 1, 2, 3, 4, 5, 6, 7, 8, 9, 10, 11, 12, 13] rfl rfl rfl rfl dX1_readService_50 53 rfl ?_
    refine v_istore_n X (lv' := [(3, .int o7.1), (2, .int o6.1), (1, .int o5.1), (0, .ref (ad 0))]) dX1_readService_53 rfl (by decide) rfl 54 rfl ?_
    refine v_aload_n X dX1_readService_54 3 rfl rfl 55 rfl ?_
    refine v_iconst X dX1_readService_55 ic_1 56 rfl ?_
    obtain ⟨o8, ho8, hf⟩ := bnd hf
    refine v_callVi X (ci := 3) (T := TX1) (C := RX1) (As := [.int 1]) (rest := []) (ws' := (wX1 ad c9 o8.2.1 o8.2.2.1 o8.2.2.2.1 o8.2.2.2.2.1 o8.2.2.2.2.2.1 o8.2.2.2.2.2.2 p_t_count p_t_cells p_d_time p_d_tolerance p_d_seed p_d_madeTickets p_d_cheesesOfText p_d_R_rows p_d_R_cells p_d_U_rows p_d_U_cells p_d_S_rows p_d_S_cells p_d_T_rows p_d_T_cells p_d_E_rows p_d_E_cells)) (c_X1_semicolon l hG D c9 ad o7.2.1 o7.2.2.1 o7.2.2.2.1 o7.2.2.2.2.1 o7.2.2.2.2.2.1 o7.2.2.2.2.2.2 p_t_count p_t_cells p_d_time p_d_tolerance p_d_seed p_d_madeTickets p_d_cheesesOfText p_d_R_rows p_d_R_cells p_d_U_rows p_d_U_cells p_d_S_rows p_d_S_cells p_d_T_rows p_d_T_cells p_d_E_rows p_d_E_cells 1 ho8) 1 (gV wc_350 wc_351 wc_352 wc_336 wc_353) rfl rfl rfl ⟨rfl, pd_X1_semicolon⟩ ⟨Nat.le_of_ble_eq_true rfl, Nat.le_of_ble_eq_true rfl⟩ 0 rfl rfl rfl rfl (Nat.le_of_ble_eq_true rfl) ⟨Nat.zero_le _, Nat.zero_le _⟩ [0, 1, 2, 3, 4, 5, 6, 7, 8, 9, 10, 11, 12, 13] [] [0, 1, 2, 3, 4, 5, 6, 7, 8, 9, 10, 11, 12, 13] rfl rfl rfl rfl dX1_readService_56 59 rfl ?_
    refine v_if_eq X (tgt := 88) dX1_readService_59 rfl 62 rfl hf (fun hf => ?_) (fun hf => ?_)
    · obtain rfl := Option.some.inj hf
      exact v_vret X (Nat.zero_le _) (Nat.zero_le _) dX1_readService_88
    · refine v_aload_n X dX1_readService_62 3 rfl rfl 63 rfl ?_
      refine v_get X (C := RX1) (T := TX1) (N := 8) (ci := 3) (v := _) dX1_readService_63 (lay_of layc_X1) 0 rfl rfl 1 (by decide) (mw wc_354) rfl rfl 66 rfl ?_
      refine v_getN X (C := RX5) (T := TX5) (N := 10) (ci := 7) (v := _) dX1_readService_66 (lay_of layc_X5) 3 rfl rfl 2 (by decide) nest_RX1_174 rfl rfl 69 rfl ?_
      refine v_iload_n X dX1_readService_69 2 rfl rfl 70 rfl ?_
      refine v_iload_n X dX1_readService_70 1 rfl rfl 71 rfl ?_
      refine v_iload_n X dX1_readService_71 0 rfl rfl 72 rfl ?_
      obtain ⟨o9, ho9, hf⟩ := bnd hf
      refine v_callVv X (ci := 5) (T := TX3) (C := RX3) (As := [.int o5.1, .int o6.1, .int o7.1]) (rest := []) (ws' := (wX1 ad c9 o8.2.1 o8.2.2.1 o8.2.2.2.1 o8.2.2.2.2.1 o8.2.2.2.2.2.1 o8.2.2.2.2.2.2 p_t_count p_t_cells p_d_time p_d_tolerance p_d_seed p_d_madeTickets p_d_cheesesOfText p_d_R_rows p_d_R_cells p_d_U_rows p_d_U_cells o9.1 o9.2 p_d_T_rows p_d_T_cells p_d_E_rows p_d_E_cells)) (c_X3_addService l hG D c9 (fun k => ad ([8, 9].getD k 0)) p_d_S_rows p_d_S_cells o5.1 o6.1 o7.1 ho9) 3 (gV wc_436 wc_437 wc_438 wc_439 wc_440) rfl rfl rfl ⟨rfl, pd_X3_addService⟩ ⟨Nat.le_of_ble_eq_true rfl, Nat.le_of_ble_eq_true rfl⟩ 8 rfl rfl rfl rfl (Nat.le_of_ble_eq_true rfl) ⟨Nat.zero_le _, Nat.zero_le _⟩ [8, 9] [0, 1, 2, 3, 4, 5, 6, 7, 10, 11, 12, 13] [0, 1, 2, 3, 4, 5, 6, 7, 12, 13, 8, 9, 10, 11] rfl rfl rfl rfl dX1_readService_72 75 rfl ?_
      refine v_aload_n X dX1_readService_75 3 rfl rfl 76 rfl ?_
      refine v_get X (C := RX1) (T := TX1) (N := 8) (ci := 3) (v := _) dX1_readService_76 (lay_of layc_X1) 0 rfl rfl 1 (by decide) (mw wc_354) rfl rfl 79 rfl ?_
      refine v_dup X dX1_readService_79 rfl 80 rfl ?_
      refine v_getN X (C := RX5) (T := TX5) (N := 10) (ci := 7) (v := _) dX1_readService_80 (lay_of layc_X5) 3 rfl rfl 9 (by decide) nest_RX1_185 rfl rfl 83 rfl ?_
      refine v_iload_n X dX1_readService_83 0 rfl rfl 84 rfl ?_
      refine v_iadd X dX1_readService_84 85 rfl ?_
      refine v_putN X (C := RX5) (T := TX5) (N := 10) (ci := 7) (ty := tyX5 9) (ws' := (wX1 ad c9 o8.2.1 o8.2.2.1 o8.2.2.2.1 o8.2.2.2.2.1 o8.2.2.2.2.2.1 o8.2.2.2.2.2.2 p_t_count p_t_cells p_d_time p_d_tolerance p_d_seed p_d_madeTickets (p_d_cheesesOfText + o7.1) p_d_R_rows p_d_R_cells p_d_U_rows p_d_U_cells o9.1 o9.2 p_d_T_rows p_d_T_cells p_d_E_rows p_d_E_cells)) dX1_readService_85 (lay_of layc_X5) 3 rfl rfl 9 (by decide) tyX5 tyX5_ok nmX5 nest_RX1_185 rfl rfl (tyX5_ok 9 (by decide)) rfl rfl (Nat.le_of_ble_eq_true rfl) rfl 88 rfl ?_
      obtain rfl := Option.some.inj hf
      exact v_vret X (Nat.zero_le _) (Nat.zero_le _) dX1_readService_88
  clear hf
  refine v_if_ne X (tgt := 18) dX1_readService_11 rfl 14 rfl hj2 (fun hf => ?_) (fun hf => ?_)
  · refine v_iconst X dX1_readService_18 ic_0 19 rfl ?_
    obtain rfl := Option.some.inj hf
    exact Jj2
  · refine v_iconst X dX1_readService_14 ic_1 15 rfl ?_
    refine v_goto X (tgt := 19) dX1_readService_15 rfl ?_
    obtain rfl := Option.some.inj hf
    exact Jj2
theorem pd_X1_readService : yX1_readService.cls ≠ "java/lang/invoke/MethodHandle" ∧ yX1_readService.cls ≠ "java/lang/invoke/VarHandle" ∧ (parseMethodDescriptor yX1_readService.desc).map (fun d => d.parameters.length) = some 0 := by decide +kernel
def f_X1_clockWord (p_start : Int32) (p_end : Int32) (p_kind : Int32) (p_value : Int32) (p_error : Int32) (p_errorAt : Int32) (p_t_count : Int32) (p_t_cells : Nat → Int32) : Option (Int32 × Int32 × Int32 × Int32 × Int32 × Int32 × Int32) :=
  (f_X1_isWord p_start p_end p_kind p_t_count p_t_cells 19).bind fun o1 =>
  (f_X1_isWord p_start p_end p_kind p_t_count p_t_cells 20).bind fun o2 =>
  Option.bind (if o1 = 0 then (
    if o2 = 0 then (
      (f_X1_isWord p_start p_end p_kind p_t_count p_t_cells 21).bind fun o4 =>
      if o4 = 0 then (
        some (0))
      else (
        some (1)))
    else (
      some (1)))
  else (
    some (1)) : Option (Int32)) fun j3 =>
  (f_X1_require p_start p_error p_errorAt j3 1).bind fun o5 =>
  (f_X1_take p_start p_end p_kind p_value o5.1 p_t_count p_t_cells).bind fun o6 =>
  if o2 = 0 then (
    if o1 = 0 then (
      some ((-1), o6.2.1, o6.2.2.1, o6.2.2.2.1, o6.2.2.2.2, o5.1, o5.2))
    else (
      some (1, o6.2.1, o6.2.2.1, o6.2.2.2.1, o6.2.2.2.2, o5.1, o5.2)))
  else (
    some (0, o6.2.1, o6.2.2.1, o6.2.2.2.1, o6.2.2.2.2, o5.1, o5.2))
set_option maxRecDepth 100000 in
set_option maxHeartbeats 4000000 in
theorem c_X1_clockWord (l : Launch) {G : (Nat → Prop) → State → Heap → Prop} (hG : vG G) (D : va_G) (c9 : Nat → ClassId) (sk sv : Nat → Nat) (hGU : ∀ (A : Nat → Prop) (U : State) (H : Heap), G A U H → vU sk sv A U H) (ad : Nat → Nat) (p_start : Int32) (p_end : Int32) (p_kind : Int32) (p_value : Int32) (p_error : Int32) (p_errorAt : Int32) (p_t_count : Int32) (p_t_cells : Nat → Int32) (p_d_time : Int32) (p_d_tolerance : Int32) (p_d_seed : Int32) (p_d_madeTickets : Int32) (p_d_cheesesOfText : Int32) (p_d_R_rows : Int32) (p_d_R_cells : Nat → Int32) (p_d_U_rows : Int32) (p_d_U_cells : Nat → Int32) (p_d_S_rows : Int32) (p_d_S_cells : Nat → Int32) (p_d_T_rows : Int32) (p_d_T_cells : Nat → Int32) (p_d_E_rows : Int32) (p_d_E_cells : Nat → Int32)  {o : Int32 × Int32 × Int32 × Int32 × Int32 × Int32 × Int32} (hf : f_X1_clockWord p_start p_end p_kind p_value p_error p_errorAt p_t_count p_t_cells = some o) : mI l yX1_clockWord (wq yX1_clockWord cX1_clockWord 3 (some .int)) { frames := 7, cells := 0, slots := 0, locals := 196 } G D (tyA c9) [.ref (ad 0)] (wX1 ad c9 p_start p_end p_kind p_value p_error p_errorAt p_t_count p_t_cells p_d_time p_d_tolerance p_d_seed p_d_madeTickets p_d_cheesesOfText p_d_R_rows p_d_R_cells p_d_U_rows p_d_U_cells p_d_S_rows p_d_S_cells p_d_T_rows p_d_T_cells p_d_E_rows p_d_E_cells) [] 0 0 o.1 (wX1 ad c9 o.2.1 o.2.2.1 o.2.2.2.1 o.2.2.2.2.1 o.2.2.2.2.2.1 o.2.2.2.2.2.2 p_t_count p_t_cells p_d_time p_d_tolerance p_d_seed p_d_madeTickets p_d_cheesesOfText p_d_R_rows p_d_R_cells p_d_U_rows p_d_U_cells p_d_S_rows p_d_S_cells p_d_T_rows p_d_T_cells p_d_E_rows p_d_E_cells) := by
  refine mI_of hG (cc := cX1_clockWord) (maxL := 3) (ty := .int) (by decide) rfl (Nat.le_of_ble_eq_true rfl) ?_
  intro p e s m args below meth c A X
  have X : vX p s m args meth c cX1_clockWord 3 (some .int) RX1 (wq yX1_clockWord cX1_clockWord 3 (some .int)) D (tyA c9) G A := X
  refine v_eq (lv2 := [(0, .ref (ad 0))]) rfl rfl rfl rfl ?_
  rw [f_X1_clockWord] at hf
  refine v_aload_n X dX1_clockWord_0 0 rfl rfl 1 rfl ?_
  refine v_lds X hGU (i := 19) dX1_clockWord_1 js_RX1_251 3 rfl ?_
  obtain ⟨o1, ho1, hf⟩ := bnd hf
  refine v_callVi X (ci := 3) (T := TX1) (C := RX1) (As := [.ref (sk 19)]) (rest := []) (ws' := (wX1 ad c9 p_start p_end p_kind p_value p_error p_errorAt p_t_count p_t_cells p_d_time p_d_tolerance p_d_seed p_d_madeTickets p_d_cheesesOfText p_d_R_rows p_d_R_cells p_d_U_rows p_d_U_cells p_d_S_rows p_d_S_cells p_d_T_rows p_d_T_cells p_d_E_rows p_d_E_cells)) (c_X1_isWord l hG D c9 sk sv hGU ad p_start p_end p_kind p_value p_error p_errorAt p_t_count p_t_cells p_d_time p_d_tolerance p_d_seed p_d_madeTickets p_d_cheesesOfText p_d_R_rows p_d_R_cells p_d_U_rows p_d_U_cells p_d_S_rows p_d_S_cells p_d_T_rows p_d_T_cells p_d_E_rows p_d_E_cells 19 (by decide) ho1) 1 (gV wc_342 wc_343 wc_344 wc_336 wc_345) rfl rfl rfl ⟨rfl, pd_X1_isWord⟩ ⟨Nat.le_of_ble_eq_true rfl, Nat.le_of_ble_eq_true rfl⟩ 0 rfl rfl rfl rfl (Nat.le_of_ble_eq_true rfl) ⟨Nat.zero_le _, Nat.zero_le _⟩ [0, 1, 2, 3, 4, 5, 6, 7, 8, 9, 10, 11, 12, 13] [] [0, 1, 2, 3, 4, 5, 6, 7, 8, 9, 10, 11, 12, 13] rfl rfl rfl rfl dX1_clockWord_3 6 rfl ?_
  refine v_istore_n X (lv' := [(1, .int o1), (0, .ref (ad 0))]) dX1_clockWord_6 rfl (by decide) rfl 7 rfl ?_
  refine v_aload_n X dX1_clockWord_7 1 rfl rfl 8 rfl ?_
  refine v_lds X hGU (i := 20) dX1_clockWord_8 js_RX1_253 10 rfl ?_
  obtain ⟨o2, ho2, hf⟩ := bnd hf
  refine v_callVi X (ci := 3) (T := TX1) (C := RX1) (As := [.ref (sk 20)]) (rest := []) (ws' := (wX1 ad c9 p_start p_end p_kind p_value p_error p_errorAt p_t_count p_t_cells p_d_time p_d_tolerance p_d_seed p_d_madeTickets p_d_cheesesOfText p_d_R_rows p_d_R_cells p_d_U_rows p_d_U_cells p_d_S_rows p_d_S_cells p_d_T_rows p_d_T_cells p_d_E_rows p_d_E_cells)) (c_X1_isWord l hG D c9 sk sv hGU ad p_start p_end p_kind p_value p_error p_errorAt p_t_count p_t_cells p_d_time p_d_tolerance p_d_seed p_d_madeTickets p_d_cheesesOfText p_d_R_rows p_d_R_cells p_d_U_rows p_d_U_cells p_d_S_rows p_d_S_cells p_d_T_rows p_d_T_cells p_d_E_rows p_d_E_cells 20 (by decide) ho2) 1 (gV wc_342 wc_343 wc_344 wc_336 wc_345) rfl rfl rfl ⟨rfl, pd_X1_isWord⟩ ⟨Nat.le_of_ble_eq_true rfl, Nat.le_of_ble_eq_true rfl⟩ 0 rfl rfl rfl rfl (Nat.le_of_ble_eq_true rfl) ⟨Nat.zero_le _, Nat.zero_le _⟩ [0, 1, 2, 3, 4, 5, 6, 7, 8, 9, 10, 11, 12, 13] [] [0, 1, 2, 3, 4, 5, 6, 7, 8, 9, 10, 11, 12, 13] rfl rfl rfl rfl dX1_clockWord_10 13 rfl ?_
  refine v_istore_n X (lv' := [(2, .int o2), (1, .int o1), (0, .ref (ad 0))]) dX1_clockWord_13 rfl (by decide) rfl 14 rfl ?_
  refine v_aload_n X dX1_clockWord_14 2 rfl rfl 15 rfl ?_
  refine v_iload_n X dX1_clockWord_15 1 rfl rfl 16 rfl ?_
  obtain ⟨j3, hj3, hf⟩ := bnd hf
  have Jj3 : vW p l e { frames := 7, cells := 0, slots := 0, locals := 196 } s m args below meth c 3 D A [] 0 0 (MQ below (eI D (tyA c9) A o.1 ((wX1 ad c9 o.2.1 o.2.2.1 o.2.2.2.1 o.2.2.2.2.1 o.2.2.2.2.2.1 o.2.2.2.2.2.2 p_t_count p_t_cells p_d_time p_d_tolerance p_d_seed p_d_madeTickets p_d_cheesesOfText p_d_R_rows p_d_R_cells p_d_U_rows p_d_U_cells p_d_S_rows p_d_S_cells p_d_T_rows p_d_T_cells p_d_E_rows p_d_E_cells) ++ [])) args s 0 0 A) (wX1 ad c9 p_start p_end p_kind p_value p_error p_errorAt p_t_count p_t_cells p_d_time p_d_tolerance p_d_seed p_d_madeTickets p_d_cheesesOfText p_d_R_rows p_d_R_cells p_d_U_rows p_d_U_cells p_d_S_rows p_d_S_cells p_d_T_rows p_d_T_cells p_d_E_rows p_d_E_cells) 37 [(0, .ref (ad 0)), (1, .int o1), (2, .int o2)] [.int j3, .ref (ad 0)] := by
    refine v_iconst X dX1_clockWord_37 ic_1 38 rfl ?_
    obtain ⟨o5, ho5, hf⟩ := bnd hf
    refine v_callVv X (ci := 3) (T := TX1) (C := RX1) (As := [.int j3, .int 1]) (rest := []) (ws' := (wX1 ad c9 p_start p_end p_kind p_value o5.1 o5.2 p_t_count p_t_cells p_d_time p_d_tolerance p_d_seed p_d_madeTickets p_d_cheesesOfText p_d_R_rows p_d_R_cells p_d_U_rows p_d_U_cells p_d_S_rows p_d_S_cells p_d_T_rows p_d_T_cells p_d_E_rows p_d_E_cells)) (c_X1_require l hG D c9 ad p_start p_end p_kind p_value p_error p_errorAt p_t_count p_t_cells p_d_time p_d_tolerance p_d_seed p_d_madeTickets p_d_cheesesOfText p_d_R_rows p_d_R_cells p_d_U_rows p_d_U_cells p_d_S_rows p_d_S_cells p_d_T_rows p_d_T_cells p_d_E_rows p_d_E_cells j3 1 ho5) 2 (gV wc_333 wc_334 wc_335 wc_336 wc_337) rfl rfl rfl ⟨rfl, pd_X1_require⟩ ⟨Nat.le_of_ble_eq_true rfl, Nat.le_of_ble_eq_true rfl⟩ 0 rfl rfl rfl rfl (Nat.le_of_ble_eq_true rfl) ⟨Nat.zero_le _, Nat.zero_le _⟩ [0, 1, 2, 3, 4, 5, 6, 7, 8, 9, 10, 11, 12, 13] [] [0, 1, 2, 3, 4, 5, 6, 7, 8, 9, 10, 11, 12, 13] rfl rfl rfl rfl dX1_clockWord_38 41 rfl ?_
    refine v_aload_n X dX1_clockWord_41 0 rfl rfl 42 rfl ?_
    obtain ⟨o6, ho6, hf⟩ := bnd hf
    refine v_callVi X (ci := 3) (T := TX1) (C := RX1) (As := []) (rest := []) (ws' := (wX1 ad c9 o6.2.1 o6.2.2.1 o6.2.2.2.1 o6.2.2.2.2 o5.1 o5.2 p_t_count p_t_cells p_d_time p_d_tolerance p_d_seed p_d_madeTickets p_d_cheesesOfText p_d_R_rows p_d_R_cells p_d_U_rows p_d_U_cells p_d_S_rows p_d_S_cells p_d_T_rows p_d_T_cells p_d_E_rows p_d_E_cells)) (c_X1_take l hG D c9 ad p_start p_end p_kind p_value o5.1 o5.2 p_t_count p_t_cells p_d_time p_d_tolerance p_d_seed p_d_madeTickets p_d_cheesesOfText p_d_R_rows p_d_R_cells p_d_U_rows p_d_U_cells p_d_S_rows p_d_S_cells p_d_T_rows p_d_T_cells p_d_E_rows p_d_E_cells ho6) 0 (gV wc_338 wc_339 wc_340 wc_336 wc_341) rfl rfl rfl ⟨rfl, pd_X1_take⟩ ⟨Nat.le_of_ble_eq_true rfl, Nat.le_of_ble_eq_true rfl⟩ 0 rfl rfl rfl rfl (Nat.le_of_ble_eq_true rfl) ⟨Nat.zero_le _, Nat.zero_le _⟩ [0, 1, 2, 3, 4, 5, 6, 7, 8, 9, 10, 11, 12, 13] [] [0, 1, 2, 3, 4, 5, 6, 7, 8, 9, 10, 11, 12, 13] rfl rfl rfl rfl dX1_clockWord_42 45 rfl ?_
    refine v_pop X dX1_clockWord_45 rfl 46 rfl ?_
    refine v_iload_n X dX1_clockWord_46 2 rfl rfl 47 rfl ?_
    refine v_if_eq X (tgt := 52) dX1_clockWord_47 rfl 50 rfl hf (fun hf => ?_) (fun hf => ?_)
    · refine v_iload_n X dX1_clockWord_52 1 rfl rfl 53 rfl ?_
      refine v_if_eq X (tgt := 60) dX1_clockWord_53 rfl 56 rfl hf (fun hf => ?_) (fun hf => ?_)
      · refine v_iconst X dX1_clockWord_60 ic_m1 61 rfl ?_
        obtain rfl := Option.some.inj hf
        exact v_iret X (Nat.zero_le _) (Nat.zero_le _) dX1_clockWord_61
      · refine v_iconst X dX1_clockWord_56 ic_1 57 rfl ?_
        refine v_goto X (tgt := 61) dX1_clockWord_57 rfl ?_
        obtain rfl := Option.some.inj hf
        exact v_iret X (Nat.zero_le _) (Nat.zero_le _) dX1_clockWord_61
    · refine v_iconst X dX1_clockWord_50 ic_0 51 rfl ?_
      obtain rfl := Option.some.inj hf
      exact v_iret X (Nat.zero_le _) (Nat.zero_le _) dX1_clockWord_51
  clear hf
  refine v_if_ne X (tgt := 32) dX1_clockWord_16 rfl 19 rfl hj3 (fun hf => ?_) (fun hf => ?_)
  · refine v_iconst X dX1_clockWord_32 ic_1 33 rfl ?_
    refine v_goto X (tgt := 37) dX1_clockWord_33 rfl ?_
    obtain rfl := Option.some.inj hf
    refine v_sub (lv' := [(0, .ref (ad 0)), (1, .int o1), (2, .int o2)]) [2, 1, 0] rfl ?_
    exact Jj3
  · refine v_iload_n X dX1_clockWord_19 0 rfl rfl 20 rfl ?_
    refine v_if_ne X (tgt := 32) dX1_clockWord_20 rfl 23 rfl hf (fun hf => ?_) (fun hf => ?_)
    · refine v_iconst X dX1_clockWord_32 ic_1 33 rfl ?_
      refine v_goto X (tgt := 37) dX1_clockWord_33 rfl ?_
      obtain rfl := Option.some.inj hf
      refine v_sub (lv' := [(0, .ref (ad 0)), (1, .int o1), (2, .int o2)]) [2, 1, 0] rfl ?_
      exact Jj3
    · refine v_aload_n X dX1_clockWord_23 2 rfl rfl 24 rfl ?_
      refine v_lds X hGU (i := 21) dX1_clockWord_24 js_RX1_255 26 rfl ?_
      obtain ⟨o4, ho4, hf⟩ := bnd hf
      refine v_callVi X (ci := 3) (T := TX1) (C := RX1) (As := [.ref (sk 21)]) (rest := [.ref (ad 0)]) (ws' := (wX1 ad c9 p_start p_end p_kind p_value p_error p_errorAt p_t_count p_t_cells p_d_time p_d_tolerance p_d_seed p_d_madeTickets p_d_cheesesOfText p_d_R_rows p_d_R_cells p_d_U_rows p_d_U_cells p_d_S_rows p_d_S_cells p_d_T_rows p_d_T_cells p_d_E_rows p_d_E_cells)) (c_X1_isWord l hG D c9 sk sv hGU ad p_start p_end p_kind p_value p_error p_errorAt p_t_count p_t_cells p_d_time p_d_tolerance p_d_seed p_d_madeTickets p_d_cheesesOfText p_d_R_rows p_d_R_cells p_d_U_rows p_d_U_cells p_d_S_rows p_d_S_cells p_d_T_rows p_d_T_cells p_d_E_rows p_d_E_cells 21 (by decide) ho4) 1 (gV wc_342 wc_343 wc_344 wc_336 wc_345) rfl rfl rfl ⟨rfl, pd_X1_isWord⟩ ⟨Nat.le_of_ble_eq_true rfl, Nat.le_of_ble_eq_true rfl⟩ 0 rfl rfl rfl rfl (Nat.le_of_ble_eq_true rfl) ⟨Nat.zero_le _, Nat.zero_le _⟩ [0, 1, 2, 3, 4, 5, 6, 7, 8, 9, 10, 11, 12, 13] [] [0, 1, 2, 3, 4, 5, 6, 7, 8, 9, 10, 11, 12, 13] rfl rfl rfl rfl dX1_clockWord_26 29 rfl ?_
      refine v_if_eq X (tgt := 36) dX1_clockWord_29 rfl 32 rfl hf (fun hf => ?_) (fun hf => ?_)
      · refine v_iconst X dX1_clockWord_36 ic_0 37 rfl ?_
        obtain rfl := Option.some.inj hf
        refine v_sub (lv' := [(0, .ref (ad 0)), (1, .int o1), (2, .int o2)]) [2, 1, 0] rfl ?_
        exact Jj3
      · refine v_iconst X dX1_clockWord_32 ic_1 33 rfl ?_
        refine v_goto X (tgt := 37) dX1_clockWord_33 rfl ?_
        obtain rfl := Option.some.inj hf
        refine v_sub (lv' := [(0, .ref (ad 0)), (1, .int o1), (2, .int o2)]) [2, 1, 0] rfl ?_
        exact Jj3
theorem pd_X1_clockWord : yX1_clockWord.cls ≠ "java/lang/invoke/MethodHandle" ∧ yX1_clockWord.cls ≠ "java/lang/invoke/VarHandle" ∧ (parseMethodDescriptor yX1_clockWord.desc).map (fun d => d.parameters.length) = some 0 := by decide +kernel
theorem pd_X6_isFull_UX1_readUser_168 : "TicketGate$Table" ≠ "java/lang/invoke/MethodHandle" ∧ "TicketGate$Table" ≠ "java/lang/invoke/VarHandle" ∧ (parseMethodDescriptor "()Z").map (fun d => d.parameters.length) = some 0 := by decide +kernel
def f_X1_readUser (p_start : Int32) (p_end : Int32) (p_kind : Int32) (p_value : Int32) (p_error : Int32) (p_errorAt : Int32) (p_t_count : Int32) (p_t_cells : Nat → Int32) (p_d_R_rows : Int32) (p_d_R_cells : Nat → Int32) (p_d_U_rows : Int32) (p_d_U_cells : Nat → Int32) (p_d_S_rows : Int32) (p_d_S_cells : Nat → Int32) : Option (Int32 × Int32 × Int32 × Int32 × Int32 × Int32 × Int32 × (Nat → Int32)) :=
  (f_X6_isFull 30 6 p_d_U_rows).bind fun o1 =>
  Option.bind (if o1 = 0 then (
    some (1))
  else (
    some (0)) : Option (Int32)) fun j2 =>
  (f_X1_require p_start p_error p_errorAt j2 5).bind fun o3 =>
  (f_X1_take p_start p_end p_kind p_value o3.1 p_t_count p_t_cells).bind fun o4 =>
  (f_X1_newName o4.2.1 o4.2.2.1 o4.2.2.2.1 o4.2.2.2.2 o3.1 o3.2 p_t_count p_t_cells p_d_R_rows p_d_R_cells p_d_U_rows p_d_U_cells p_d_S_rows p_d_S_cells).bind fun o5 =>
  (f_X1_knownName_realms o5.2.1 o5.2.2.1 o5.2.2.2.1 o5.2.2.2.2.1 o5.2.2.2.2.2.1 o5.2.2.2.2.2.2 p_t_count p_t_cells p_d_R_rows p_d_R_cells 0).bind fun o6 =>
  (f_X1_number o6.2.1 o6.2.2.1 o6.2.2.2.1 o6.2.2.2.2.1 o6.2.2.2.2.2.1 o6.2.2.2.2.2.2 p_t_count p_t_cells 0 9999).bind fun o7 =>
  (f_X1_clockWord o7.2.1 o7.2.2.1 o7.2.2.2.1 o7.2.2.2.2.1 o7.2.2.2.2.2.1 o7.2.2.2.2.2.2 p_t_count p_t_cells).bind fun o8 =>
  Option.bind (if o8.1 = 0 then (
    some (0, o8.2.1, o8.2.2.1, o8.2.2.2.1, o8.2.2.2.2.1, o8.2.2.2.2.2.1, o8.2.2.2.2.2.2))
  else (
    (f_X1_number o8.2.1 o8.2.2.1 o8.2.2.2.1 o8.2.2.2.2.1 o8.2.2.2.2.2.1 o8.2.2.2.2.2.2 p_t_count p_t_cells 1 9).bind fun o10 =>
    some ((o8.1 * o10.1), o10.2.1, o10.2.2.1, o10.2.2.2.1, o10.2.2.2.2.1, o10.2.2.2.2.2.1, o10.2.2.2.2.2.2)) : Option (Int32 × Int32 × Int32 × Int32 × Int32 × Int32 × Int32)) fun j9 =>
  (f_X1_semicolon j9.2.1 j9.2.2.1 j9.2.2.2.1 j9.2.2.2.2.1 j9.2.2.2.2.2.1 j9.2.2.2.2.2.2 p_t_count p_t_cells 1).bind fun o11 =>
  if o11.1 = 0 then (
    some (o11.2.1, o11.2.2.1, o11.2.2.2.1, o11.2.2.2.2.1, o11.2.2.2.2.2.1, o11.2.2.2.2.2.2, p_d_U_rows, p_d_U_cells))
  else (
    (f_X8_addUser p_d_U_rows p_d_U_cells o5.1 o6.1 o7.1 j9.1).bind fun o12 =>
    some (o11.2.1, o11.2.2.1, o11.2.2.2.1, o11.2.2.2.2.1, o11.2.2.2.2.2.1, o11.2.2.2.2.2.2, o12.1, o12.2))
set_option maxRecDepth 100000 in
set_option maxHeartbeats 4000000 in
theorem c_X1_readUser (l : Launch) {G : (Nat → Prop) → State → Heap → Prop} (hG : vG G) (D : va_G) (c9 : Nat → ClassId) (sk sv : Nat → Nat) (hGU : ∀ (A : Nat → Prop) (U : State) (H : Heap), G A U H → vU sk sv A U H) (ad : Nat → Nat) (p_start : Int32) (p_end : Int32) (p_kind : Int32) (p_value : Int32) (p_error : Int32) (p_errorAt : Int32) (p_t_count : Int32) (p_t_cells : Nat → Int32) (p_d_time : Int32) (p_d_tolerance : Int32) (p_d_seed : Int32) (p_d_madeTickets : Int32) (p_d_cheesesOfText : Int32) (p_d_R_rows : Int32) (p_d_R_cells : Nat → Int32) (p_d_U_rows : Int32) (p_d_U_cells : Nat → Int32) (p_d_S_rows : Int32) (p_d_S_cells : Nat → Int32) (p_d_T_rows : Int32) (p_d_T_cells : Nat → Int32) (p_d_E_rows : Int32) (p_d_E_cells : Nat → Int32)  {o : Int32 × Int32 × Int32 × Int32 × Int32 × Int32 × Int32 × (Nat → Int32)} (hf : f_X1_readUser p_start p_end p_kind p_value p_error p_errorAt p_t_count p_t_cells p_d_R_rows p_d_R_cells p_d_U_rows p_d_U_cells p_d_S_rows p_d_S_cells = some o) : mV l yX1_readUser (wq yX1_readUser cX1_readUser 6 none) { frames := 8, cells := 0, slots := 0, locals := 218 } G D (tyA c9) [.ref (ad 0)] (wX1 ad c9 p_start p_end p_kind p_value p_error p_errorAt p_t_count p_t_cells p_d_time p_d_tolerance p_d_seed p_d_madeTickets p_d_cheesesOfText p_d_R_rows p_d_R_cells p_d_U_rows p_d_U_cells p_d_S_rows p_d_S_cells p_d_T_rows p_d_T_cells p_d_E_rows p_d_E_cells) [] 0 0 (wX1 ad c9 o.1 o.2.1 o.2.2.1 o.2.2.2.1 o.2.2.2.2.1 o.2.2.2.2.2.1 p_t_count p_t_cells p_d_time p_d_tolerance p_d_seed p_d_madeTickets p_d_cheesesOfText p_d_R_rows p_d_R_cells o.2.2.2.2.2.2.1 o.2.2.2.2.2.2.2 p_d_S_rows p_d_S_cells p_d_T_rows p_d_T_cells p_d_E_rows p_d_E_cells) := by
  refine mV_of hG (cc := cX1_readUser) (maxL := 6) (by decide) rfl (Nat.le_of_ble_eq_true rfl) ?_
  intro p e s m args below meth c A hnm X
  have X : vX p s m args meth c cX1_readUser 6 none RX1 (wq yX1_readUser cX1_readUser 6 none) D (tyA c9) G A := X
  refine v_eq (lv2 := [(0, .ref (ad 0))]) rfl rfl rfl rfl ?_
  rw [f_X1_readUser] at hf
  refine v_aload_n X dX1_readUser_0 0 rfl rfl 1 rfl ?_
  refine v_aload_n X dX1_readUser_1 0 rfl rfl 2 rfl ?_
  refine v_get X (C := RX1) (T := TX1) (N := 8) (ci := 3) (v := _) dX1_readUser_2 (lay_of layc_X1) 0 rfl rfl 1 (by decide) (mw wc_354) rfl rfl 5 rfl ?_
  refine v_getN X (C := RX5) (T := TX5) (N := 10) (ci := 7) (v := _) dX1_readUser_5 (lay_of layc_X5) 3 rfl rfl 1 (by decide) nest_RX1_164 rfl rfl 8 rfl ?_
  obtain ⟨o1, ho1, hf⟩ := bnd hf
  refine v_callUi X (ci := 9) (T := TX8) (C := RX8) (owner := "TicketGate$Table") (As := []) (rest := [.ref (ad 0)]) (ws' := (wX1 ad c9 p_start p_end p_kind p_value p_error p_errorAt p_t_count p_t_cells p_d_time p_d_tolerance p_d_seed p_d_madeTickets p_d_cheesesOfText p_d_R_rows p_d_R_cells p_d_U_rows p_d_U_cells p_d_S_rows p_d_S_cells p_d_T_rows p_d_T_cells p_d_E_rows p_d_E_cells)) (c_X6_isFull l hG D c9 (fun k => ad ([6, 7].getD k 0)) 30 9 RX8 rfl layc_X8 6 5 p_d_U_rows p_d_U_cells ho1) 0 (gU wc_441 wc_442 wc_443 wc_115 wc_34 wc_116) rfl rfl rfl rfl pd_X6_isFull_UX1_readUser_168 ⟨Nat.le_of_ble_eq_true rfl, Nat.le_of_ble_eq_true rfl⟩ 6 rfl rfl rfl rfl (Nat.le_of_ble_eq_true rfl) ⟨Nat.zero_le _, Nat.zero_le _⟩ [6, 7] [0, 1, 2, 3, 4, 5, 8, 9, 10, 11, 12, 13] [0, 1, 2, 3, 4, 5, 12, 13, 6, 7, 8, 9, 10, 11] rfl rfl rfl rfl dX1_readUser_8 11 rfl ?_
  obtain ⟨j2, hj2, hf⟩ := bnd hf
  have Jj2 : vW p l e { frames := 8, cells := 0, slots := 0, locals := 218 } s m args below meth c 6 D A [] 0 0 (MQ below (eV D (tyA c9) A ((wX1 ad c9 o.1 o.2.1 o.2.2.1 o.2.2.2.1 o.2.2.2.2.1 o.2.2.2.2.2.1 p_t_count p_t_cells p_d_time p_d_tolerance p_d_seed p_d_madeTickets p_d_cheesesOfText p_d_R_rows p_d_R_cells o.2.2.2.2.2.2.1 o.2.2.2.2.2.2.2 p_d_S_rows p_d_S_cells p_d_T_rows p_d_T_cells p_d_E_rows p_d_E_cells) ++ [])) args s 0 0 A) (wX1 ad c9 p_start p_end p_kind p_value p_error p_errorAt p_t_count p_t_cells p_d_time p_d_tolerance p_d_seed p_d_madeTickets p_d_cheesesOfText p_d_R_rows p_d_R_cells p_d_U_rows p_d_U_cells p_d_S_rows p_d_S_cells p_d_T_rows p_d_T_cells p_d_E_rows p_d_E_cells) 19 [(0, .ref (ad 0))] [.int j2, .ref (ad 0)] := by
    refine v_iconst X dX1_readUser_19 ic_5 20 rfl ?_
    obtain ⟨o3, ho3, hf⟩ := bnd hf
    refine v_callVv X (ci := 3) (T := TX1) (C := RX1) (As := [.int j2, .int 5]) (rest := []) (ws' := (wX1 ad c9 p_start p_end p_kind p_value o3.1 o3.2 p_t_count p_t_cells p_d_time p_d_tolerance p_d_seed p_d_madeTickets p_d_cheesesOfText p_d_R_rows p_d_R_cells p_d_U_rows p_d_U_cells p_d_S_rows p_d_S_cells p_d_T_rows p_d_T_cells p_d_E_rows p_d_E_cells)) (c_X1_require l hG D c9 ad p_start p_end p_kind p_value p_error p_errorAt p_t_count p_t_cells p_d_time p_d_tolerance p_d_seed p_d_madeTickets p_d_cheesesOfText p_d_R_rows p_d_R_cells p_d_U_rows p_d_U_cells p_d_S_rows p_d_S_cells p_d_T_rows p_d_T_cells p_d_E_rows p_d_E_cells j2 5 ho3) 2 (gV wc_333 wc_334 wc_335 wc_336 wc_337) rfl rfl rfl ⟨rfl, pd_X1_require⟩ ⟨Nat.le_of_ble_eq_true rfl, Nat.le_of_ble_eq_true rfl⟩ 0 rfl rfl rfl rfl (Nat.le_of_ble_eq_true rfl) ⟨Nat.zero_le _, Nat.zero_le _⟩ [0, 1, 2, 3, 4, 5, 6, 7, 8, 9, 10, 11, 12, 13] [] [0, 1, 2, 3, 4, 5, 6, 7, 8, 9, 10, 11, 12, 13] rfl rfl rfl rfl dX1_readUser_20 23 rfl ?_
    refine v_aload_n X dX1_readUser_23 0 rfl rfl 24 rfl ?_
    obtain ⟨o4, ho4, hf⟩ := bnd hf
    refine v_callVi X (ci := 3) (T := TX1) (C := RX1) (As := []) (rest := []) (ws' := (wX1 ad c9 o4.2.1 o4.2.2.1 o4.2.2.2.1 o4.2.2.2.2 o3.1 o3.2 p_t_count p_t_cells p_d_time p_d_tolerance p_d_seed p_d_madeTickets p_d_cheesesOfText p_d_R_rows p_d_R_cells p_d_U_rows p_d_U_cells p_d_S_rows p_d_S_cells p_d_T_rows p_d_T_cells p_d_E_rows p_d_E_cells)) (c_X1_take l hG D c9 ad p_start p_end p_kind p_value o3.1 o3.2 p_t_count p_t_cells p_d_time p_d_tolerance p_d_seed p_d_madeTickets p_d_cheesesOfText p_d_R_rows p_d_R_cells p_d_U_rows p_d_U_cells p_d_S_rows p_d_S_cells p_d_T_rows p_d_T_cells p_d_E_rows p_d_E_cells ho4) 0 (gV wc_338 wc_339 wc_340 wc_336 wc_341) rfl rfl rfl ⟨rfl, pd_X1_take⟩ ⟨Nat.le_of_ble_eq_true rfl, Nat.le_of_ble_eq_true rfl⟩ 0 rfl rfl rfl rfl (Nat.le_of_ble_eq_true rfl) ⟨Nat.zero_le _, Nat.zero_le _⟩ [0, 1, 2, 3, 4, 5, 6, 7, 8, 9, 10, 11, 12, 13] [] [0, 1, 2, 3, 4, 5, 6, 7, 8, 9, 10, 11, 12, 13] rfl rfl rfl rfl dX1_readUser_24 27 rfl ?_
    refine v_pop X dX1_readUser_27 rfl 28 rfl ?_
    refine v_aload_n X dX1_readUser_28 0 rfl rfl 29 rfl ?_
    obtain ⟨o5, ho5, hf⟩ := bnd hf
    refine v_callVi X (ci := 3) (T := TX1) (C := RX1) (As := []) (rest := []) (ws' := (wX1 ad c9 o5.2.1 o5.2.2.1 o5.2.2.2.1 o5.2.2.2.2.1 o5.2.2.2.2.2.1 o5.2.2.2.2.2.2 p_t_count p_t_cells p_d_time p_d_tolerance p_d_seed p_d_madeTickets p_d_cheesesOfText p_d_R_rows p_d_R_cells p_d_U_rows p_d_U_cells p_d_S_rows p_d_S_cells p_d_T_rows p_d_T_cells p_d_E_rows p_d_E_cells)) (c_X1_newName l hG D c9 ad o4.2.1 o4.2.2.1 o4.2.2.2.1 o4.2.2.2.2 o3.1 o3.2 p_t_count p_t_cells p_d_time p_d_tolerance p_d_seed p_d_madeTickets p_d_cheesesOfText p_d_R_rows p_d_R_cells p_d_U_rows p_d_U_cells p_d_S_rows p_d_S_cells p_d_T_rows p_d_T_cells p_d_E_rows p_d_E_cells ho5) 0 (gV wc_432 wc_433 wc_434 wc_336 wc_435) rfl rfl rfl ⟨rfl, pd_X1_newName⟩ ⟨Nat.le_of_ble_eq_true rfl, Nat.le_of_ble_eq_true rfl⟩ 0 rfl rfl rfl rfl (Nat.le_of_ble_eq_true rfl) ⟨Nat.zero_le _, Nat.zero_le _⟩ [0, 1, 2, 3, 4, 5, 6, 7, 8, 9, 10, 11, 12, 13] [] [0, 1, 2, 3, 4, 5, 6, 7, 8, 9, 10, 11, 12, 13] rfl rfl rfl rfl dX1_readUser_29 32 rfl ?_
    refine v_istore_n X (lv' := [(1, .int o5.1), (0, .ref (ad 0))]) dX1_readUser_32 rfl (by decide) rfl 33 rfl ?_
    refine v_aload_n X dX1_readUser_33 1 rfl rfl 34 rfl ?_
    refine v_aload_n X dX1_readUser_34 1 rfl rfl 35 rfl ?_
    refine v_get X (C := RX1) (T := TX1) (N := 8) (ci := 3) (v := _) dX1_readUser_35 (lay_of layc_X1) 0 rfl rfl 1 (by decide) (mw wc_354) rfl rfl 38 rfl ?_
    refine v_getN X (C := RX5) (T := TX5) (N := 10) (ci := 7) (v := _) dX1_readUser_38 (lay_of layc_X5) 3 rfl rfl 0 (by decide) nest_RX1_127 rfl rfl 41 rfl ?_
    refine v_iconst X dX1_readUser_41 ic_0 42 rfl ?_
    obtain ⟨o6, ho6, hf⟩ := bnd hf
    refine v_callVi X (ci := 3) (T := TX1) (C := RX1) (As := [.ref (ad 4), .int 0]) (rest := []) (ws' := (wX1 ad c9 o6.2.1 o6.2.2.1 o6.2.2.2.1 o6.2.2.2.2.1 o6.2.2.2.2.2.1 o6.2.2.2.2.2.2 p_t_count p_t_cells p_d_time p_d_tolerance p_d_seed p_d_madeTickets p_d_cheesesOfText p_d_R_rows p_d_R_cells p_d_U_rows p_d_U_cells p_d_S_rows p_d_S_cells p_d_T_rows p_d_T_cells p_d_E_rows p_d_E_cells)) (c_X1_knownName_realms l hG D c9 ad o5.2.1 o5.2.2.1 o5.2.2.2.1 o5.2.2.2.2.1 o5.2.2.2.2.2.1 o5.2.2.2.2.2.2 p_t_count p_t_cells p_d_time p_d_tolerance p_d_seed p_d_madeTickets p_d_cheesesOfText p_d_R_rows p_d_R_cells p_d_U_rows p_d_U_cells p_d_S_rows p_d_S_cells p_d_T_rows p_d_T_cells p_d_E_rows p_d_E_cells 0 ho6) 2 (gV wc_395 wc_396 wc_397 wc_336 wc_398) rfl rfl rfl ⟨rfl, pd_X1_knownName⟩ ⟨Nat.le_of_ble_eq_true rfl, Nat.le_of_ble_eq_true rfl⟩ 0 rfl rfl rfl rfl (Nat.le_of_ble_eq_true rfl) ⟨Nat.zero_le _, Nat.zero_le _⟩ [0, 1, 2, 3, 4, 5, 6, 7, 8, 9, 10, 11, 12, 13] [] [0, 1, 2, 3, 4, 5, 6, 7, 8, 9, 10, 11, 12, 13] rfl rfl rfl rfl dX1_readUser_42 45 rfl ?_
    refine v_istore_n X (lv' := [(2, .int o6.1), (1, .int o5.1), (0, .ref (ad 0))]) dX1_readUser_45 rfl (by decide) rfl 46 rfl ?_
    refine v_aload_n X dX1_readUser_46 2 rfl rfl 47 rfl ?_
    refine v_iconst X dX1_readUser_47 ic_0 48 rfl ?_
    refine v_sipush X dX1_readUser_48 sp_9999 51 rfl ?_
    obtain ⟨o7, ho7, hf⟩ := bnd hf
    refine v_callVi X (ci := 3) (T := TX1) (C := RX1) (As := [.int 0, .int 9999]) (rest := []) (ws' := (wX1 ad c9 o7.2.1 o7.2.2.1 o7.2.2.2.1 o7.2.2.2.2.1 o7.2.2.2.2.2.1 o7.2.2.2.2.2.2 p_t_count p_t_cells p_d_time p_d_tolerance p_d_seed p_d_madeTickets p_d_cheesesOfText p_d_R_rows p_d_R_cells p_d_U_rows p_d_U_cells p_d_S_rows p_d_S_cells p_d_T_rows p_d_T_cells p_d_E_rows p_d_E_cells)) (c_X1_number l hG D c9 ad o6.2.1 o6.2.2.1 o6.2.2.2.1 o6.2.2.2.2.1 o6.2.2.2.2.2.1 o6.2.2.2.2.2.2 p_t_count p_t_cells p_d_time p_d_tolerance p_d_seed p_d_madeTickets p_d_cheesesOfText p_d_R_rows p_d_R_cells p_d_U_rows p_d_U_cells p_d_S_rows p_d_S_cells p_d_T_rows p_d_T_cells p_d_E_rows p_d_E_cells 0 9999 ho7) 2 (gV wc_346 wc_347 wc_348 wc_336 wc_349) rfl rfl rfl ⟨rfl, pd_X1_number⟩ ⟨Nat.le_of_ble_eq_true rfl, Nat.le_of_ble_eq_true rfl⟩ 0 rfl rfl rfl rfl (Nat.le_of_ble_eq_true rfl) ⟨Nat.zero_le _, Nat.zero_le _⟩ [0, 1, 2, 3, 4, 5, 6, 7, 8, 9, 10, 11, 12, 13] [] [0, 1, 2, 3, 4, 5, 6, 7, 8, 9, 10, 11, 12, 13] rfl rfl rfl rfl dX1_readUser_51 54 rfl ?_
    refine v_istore_n X (lv' := [(3, .int o7.1), (2, .int o6.1), (1, .int o5.1), (0, .ref (ad 0))]) dX1_readUser_54 rfl (by decide) rfl 55 rfl ?_
    refine v_aload_n X dX1_readUser_55 3 rfl rfl 56 rfl ?_
    obtain ⟨o8, ho8, hf⟩ := bnd hf
    refine v_callVi X (ci := 3) (T := TX1) (C := RX1) (As := []) (rest := []) (ws' := (wX1 ad c9 o8.2.1 o8.2.2.1 o8.2.2.2.1 o8.2.2.2.2.1 o8.2.2.2.2.2.1 o8.2.2.2.2.2.2 p_t_count p_t_cells p_d_time p_d_tolerance p_d_seed p_d_madeTickets p_d_cheesesOfText p_d_R_rows p_d_R_cells p_d_U_rows p_d_U_cells p_d_S_rows p_d_S_cells p_d_T_rows p_d_T_cells p_d_E_rows p_d_E_cells)) (c_X1_clockWord l hG D c9 sk sv hGU ad o7.2.1 o7.2.2.1 o7.2.2.2.1 o7.2.2.2.2.1 o7.2.2.2.2.2.1 o7.2.2.2.2.2.2 p_t_count p_t_cells p_d_time p_d_tolerance p_d_seed p_d_madeTickets p_d_cheesesOfText p_d_R_rows p_d_R_cells p_d_U_rows p_d_U_cells p_d_S_rows p_d_S_cells p_d_T_rows p_d_T_cells p_d_E_rows p_d_E_cells ho8) 0 (gV wc_444 wc_445 wc_446 wc_336 wc_447) rfl rfl rfl ⟨rfl, pd_X1_clockWord⟩ ⟨Nat.le_of_ble_eq_true rfl, Nat.le_of_ble_eq_true rfl⟩ 0 rfl rfl rfl rfl (Nat.le_of_ble_eq_true rfl) ⟨Nat.zero_le _, Nat.zero_le _⟩ [0, 1, 2, 3, 4, 5, 6, 7, 8, 9, 10, 11, 12, 13] [] [0, 1, 2, 3, 4, 5, 6, 7, 8, 9, 10, 11, 12, 13] rfl rfl rfl rfl dX1_readUser_56 59 rfl ?_
    refine v_istore X (lv' := [(4, .int o8.1), (3, .int o7.1), (2, .int o6.1), (1, .int o5.1), (0, .ref (ad 0))]) dX1_readUser_59 (by decide) rfl 61 rfl ?_
    refine v_iload X dX1_readUser_61 0 rfl 63 rfl ?_
    obtain ⟨j9, hj9, hf⟩ := bnd hf
    have Jj9 : vW p l e { frames := 8, cells := 0, slots := 0, locals := 218 } s m args below meth c 6 D A [] 0 0 (MQ below (eV D (tyA c9) A ((wX1 ad c9 o.1 o.2.1 o.2.2.1 o.2.2.2.1 o.2.2.2.2.1 o.2.2.2.2.2.1 p_t_count p_t_cells p_d_time p_d_tolerance p_d_seed p_d_madeTickets p_d_cheesesOfText p_d_R_rows p_d_R_cells o.2.2.2.2.2.2.1 o.2.2.2.2.2.2.2 p_d_S_rows p_d_S_cells p_d_T_rows p_d_T_cells p_d_E_rows p_d_E_cells) ++ [])) args s 0 0 A) (wX1 ad c9 j9.2.1 j9.2.2.1 j9.2.2.2.1 j9.2.2.2.2.1 j9.2.2.2.2.2.1 j9.2.2.2.2.2.2 p_t_count p_t_cells p_d_time p_d_tolerance p_d_seed p_d_madeTickets p_d_cheesesOfText p_d_R_rows p_d_R_cells p_d_U_rows p_d_U_cells p_d_S_rows p_d_S_cells p_d_T_rows p_d_T_cells p_d_E_rows p_d_E_cells) 80 [(0, .ref (ad 0)), (1, .int o5.1), (2, .int o6.1), (3, .int o7.1)] [.int j9.1] := by
      refine v_istore X (lv' := [(5, .int j9.1), (0, .ref (ad 0)), (1, .int o5.1), (2, .int o6.1), (3, .int o7.1)]) dX1_readUser_80 (by decide) rfl 82 rfl ?_
      refine v_aload_n X dX1_readUser_82 1 rfl rfl 83 rfl ?_
      refine v_iconst X dX1_readUser_83 ic_1 84 rfl ?_
      obtain ⟨o11, ho11, hf⟩ := bnd hf
      refine v_callVi X (ci := 3) (T := TX1) (C := RX1) (As := [.int 1]) (rest := []) (ws' := (wX1 ad c9 o11.2.1 o11.2.2.1 o11.2.2.2.1 o11.2.2.2.2.1 o11.2.2.2.2.2.1 o11.2.2.2.2.2.2 p_t_count p_t_cells p_d_time p_d_tolerance p_d_seed p_d_madeTickets p_d_cheesesOfText p_d_R_rows p_d_R_cells p_d_U_rows p_d_U_cells p_d_S_rows p_d_S_cells p_d_T_rows p_d_T_cells p_d_E_rows p_d_E_cells)) (c_X1_semicolon l hG D c9 ad j9.2.1 j9.2.2.1 j9.2.2.2.1 j9.2.2.2.2.1 j9.2.2.2.2.2.1 j9.2.2.2.2.2.2 p_t_count p_t_cells p_d_time p_d_tolerance p_d_seed p_d_madeTickets p_d_cheesesOfText p_d_R_rows p_d_R_cells p_d_U_rows p_d_U_cells p_d_S_rows p_d_S_cells p_d_T_rows p_d_T_cells p_d_E_rows p_d_E_cells 1 ho11) 1 (gV wc_350 wc_351 wc_352 wc_336 wc_353) rfl rfl rfl ⟨rfl, pd_X1_semicolon⟩ ⟨Nat.le_of_ble_eq_true rfl, Nat.le_of_ble_eq_true rfl⟩ 0 rfl rfl rfl rfl (Nat.le_of_ble_eq_true rfl) ⟨Nat.zero_le _, Nat.zero_le _⟩ [0, 1, 2, 3, 4, 5, 6, 7, 8, 9, 10, 11, 12, 13] [] [0, 1, 2, 3, 4, 5, 6, 7, 8, 9, 10, 11, 12, 13] rfl rfl rfl rfl dX1_readUser_84 87 rfl ?_
      refine v_if_eq X (tgt := 105) dX1_readUser_87 rfl 90 rfl hf (fun hf => ?_) (fun hf => ?_)
      · obtain rfl := Option.some.inj hf
        exact v_vret X (Nat.zero_le _) (Nat.zero_le _) dX1_readUser_105
      · refine v_aload_n X dX1_readUser_90 1 rfl rfl 91 rfl ?_
        refine v_get X (C := RX1) (T := TX1) (N := 8) (ci := 3) (v := _) dX1_readUser_91 (lay_of layc_X1) 0 rfl rfl 1 (by decide) (mw wc_354) rfl rfl 94 rfl ?_
        refine v_getN X (C := RX5) (T := TX5) (N := 10) (ci := 7) (v := _) dX1_readUser_94 (lay_of layc_X5) 3 rfl rfl 1 (by decide) nest_RX1_164 rfl rfl 97 rfl ?_
        refine v_iload_n X dX1_readUser_97 2 rfl rfl 98 rfl ?_
        refine v_iload_n X dX1_readUser_98 3 rfl rfl 99 rfl ?_
        refine v_iload_n X dX1_readUser_99 4 rfl rfl 100 rfl ?_
        refine v_iload X dX1_readUser_100 0 rfl 102 rfl ?_
        obtain ⟨o12, ho12, hf⟩ := bnd hf
        refine v_callVv X (ci := 9) (T := TX8) (C := RX8) (As := [.int o5.1, .int o6.1, .int o7.1, .int j9.1]) (rest := []) (ws' := (wX1 ad c9 o11.2.1 o11.2.2.1 o11.2.2.2.1 o11.2.2.2.2.1 o11.2.2.2.2.2.1 o11.2.2.2.2.2.2 p_t_count p_t_cells p_d_time p_d_tolerance p_d_seed p_d_madeTickets p_d_cheesesOfText p_d_R_rows p_d_R_cells o12.1 o12.2 p_d_S_rows p_d_S_cells p_d_T_rows p_d_T_cells p_d_E_rows p_d_E_cells)) (c_X8_addUser l hG D c9 (fun k => ad ([6, 7].getD k 0)) p_d_U_rows p_d_U_cells o5.1 o6.1 o7.1 j9.1 ho12) 4 (gV wc_448 wc_449 wc_450 wc_451 wc_452) rfl rfl rfl ⟨rfl, pd_X8_addUser⟩ ⟨Nat.le_of_ble_eq_true rfl, Nat.le_of_ble_eq_true rfl⟩ 6 rfl rfl rfl rfl (Nat.le_of_ble_eq_true rfl) ⟨Nat.zero_le _, Nat.zero_le _⟩ [6, 7] [0, 1, 2, 3, 4, 5, 8, 9, 10, 11, 12, 13] [0, 1, 2, 3, 4, 5, 12, 13, 6, 7, 8, 9, 10, 11] rfl rfl rfl rfl dX1_readUser_102 105 rfl ?_
        obtain rfl := Option.some.inj hf
        exact v_vret X (Nat.zero_le _) (Nat.zero_le _) dX1_readUser_105
    clear hf
    refine v_if_ne X (tgt := 70) dX1_readUser_63 rfl 66 rfl hj9 (fun hf => ?_) (fun hf => ?_)
    · refine v_iload X dX1_readUser_70 0 rfl 72 rfl ?_
      refine v_aload_n X dX1_readUser_72 4 rfl rfl 73 rfl ?_
      refine v_iconst X dX1_readUser_73 ic_1 74 rfl ?_
      refine v_bipush X dX1_readUser_74 bp_9 76 rfl ?_
      obtain ⟨o10, ho10, hf⟩ := bnd hf
      refine v_callVi X (ci := 3) (T := TX1) (C := RX1) (As := [.int 1, .int 9]) (rest := [.int o8.1]) (ws' := (wX1 ad c9 o10.2.1 o10.2.2.1 o10.2.2.2.1 o10.2.2.2.2.1 o10.2.2.2.2.2.1 o10.2.2.2.2.2.2 p_t_count p_t_cells p_d_time p_d_tolerance p_d_seed p_d_madeTickets p_d_cheesesOfText p_d_R_rows p_d_R_cells p_d_U_rows p_d_U_cells p_d_S_rows p_d_S_cells p_d_T_rows p_d_T_cells p_d_E_rows p_d_E_cells)) (c_X1_number l hG D c9 ad o8.2.1 o8.2.2.1 o8.2.2.2.1 o8.2.2.2.2.1 o8.2.2.2.2.2.1 o8.2.2.2.2.2.2 p_t_count p_t_cells p_d_time p_d_tolerance p_d_seed p_d_madeTickets p_d_cheesesOfText p_d_R_rows p_d_R_cells p_d_U_rows p_d_U_cells p_d_S_rows p_d_S_cells p_d_T_rows p_d_T_cells p_d_E_rows p_d_E_cells 1 9 ho10) 2 (gV wc_346 wc_347 wc_348 wc_336 wc_349) rfl rfl rfl ⟨rfl, pd_X1_number⟩ ⟨Nat.le_of_ble_eq_true rfl, Nat.le_of_ble_eq_true rfl⟩ 0 rfl rfl rfl rfl (Nat.le_of_ble_eq_true rfl) ⟨Nat.zero_le _, Nat.zero_le _⟩ [0, 1, 2, 3, 4, 5, 6, 7, 8, 9, 10, 11, 12, 13] [] [0, 1, 2, 3, 4, 5, 6, 7, 8, 9, 10, 11, 12, 13] rfl rfl rfl rfl dX1_readUser_76 79 rfl ?_
      refine v_imul X dX1_readUser_79 80 rfl ?_
      obtain rfl := Option.some.inj hf
      refine v_sub (lv' := [(0, .ref (ad 0)), (1, .int o5.1), (2, .int o6.1), (3, .int o7.1)]) [4, 3, 2, 1] rfl ?_
      exact Jj9
    · refine v_iconst X dX1_readUser_66 ic_0 67 rfl ?_
      refine v_goto X (tgt := 80) dX1_readUser_67 rfl ?_
      obtain rfl := Option.some.inj hf
      refine v_sub (lv' := [(0, .ref (ad 0)), (1, .int o5.1), (2, .int o6.1), (3, .int o7.1)]) [4, 3, 2, 1] rfl ?_
      exact Jj9
  clear hf
  refine v_if_ne X (tgt := 18) dX1_readUser_11 rfl 14 rfl hj2 (fun hf => ?_) (fun hf => ?_)
  · refine v_iconst X dX1_readUser_18 ic_0 19 rfl ?_
    obtain rfl := Option.some.inj hf
    exact Jj2
  · refine v_iconst X dX1_readUser_14 ic_1 15 rfl ?_
    refine v_goto X (tgt := 19) dX1_readUser_15 rfl ?_
    obtain rfl := Option.some.inj hf
    exact Jj2
theorem pd_X1_readUser : yX1_readUser.cls ≠ "java/lang/invoke/MethodHandle" ∧ yX1_readUser.cls ≠ "java/lang/invoke/VarHandle" ∧ (parseMethodDescriptor yX1_readUser.desc).map (fun d => d.parameters.length) = some 0 := by decide +kernel
theorem pd_X6_rowWith_UX1_readTrust_154 : "TicketGate$Table" ≠ "java/lang/invoke/MethodHandle" ∧ "TicketGate$Table" ≠ "java/lang/invoke/VarHandle" ∧ (parseMethodDescriptor "(II)I").map (fun d => d.parameters.length) = some 2 := by decide +kernel
def f_X1_readTrust (p_start : Int32) (p_end : Int32) (p_kind : Int32) (p_value : Int32) (p_error : Int32) (p_errorAt : Int32) (p_t_count : Int32) (p_t_cells : Nat → Int32) (p_d_R_rows : Int32) (p_d_R_cells : Nat → Int32) : Option (Int32 × Int32 × Int32 × Int32 × Int32 × Int32 × (Nat → Int32)) :=
  (f_X1_take p_start p_end p_kind p_value p_error p_t_count p_t_cells).bind fun o1 =>
  (f_X1_knownName_realms o1.2.1 o1.2.2.1 o1.2.2.2.1 o1.2.2.2.2 p_error p_errorAt p_t_count p_t_cells p_d_R_rows p_d_R_cells 0).bind fun o2 =>
  (f_X6_rowWith 25 5 p_d_R_rows p_d_R_cells 0 o2.2.2.2.2.1).bind fun o3 =>
  Option.bind (if o2.2.2.2.1 = 1 then (
    some (1))
  else (
    some (0)) : Option (Int32)) fun j4 =>
  (f_X1_require o2.2.1 o2.2.2.2.2.2.1 o2.2.2.2.2.2.2 j4 1).bind fun o5 =>
  Option.bind (if o3 = o2.1 then (
    some (0))
  else (
    some (1)) : Option (Int32)) fun j6 =>
  (f_X1_require o2.2.1 o5.1 o5.2 j6 3).bind fun o7 =>
  Option.bind (if o3 = (-1) then (
    some (0))
  else (
    some (1)) : Option (Int32)) fun j8 =>
  (f_X1_require o2.2.1 o7.1 o7.2 j8 4).bind fun o9 =>
  (f_X1_take o2.2.1 o2.2.2.1 o2.2.2.2.1 o2.2.2.2.2.1 o9.1 p_t_count p_t_cells).bind fun o10 =>
  (f_X2_hasTrust p_d_R_rows p_d_R_cells o2.1 o3).bind fun o11 =>
  Option.bind (if o11 = 0 then (
    some (1))
  else (
    some (0)) : Option (Int32)) fun j12 =>
  (f_X1_semicolon o10.2.1 o10.2.2.1 o10.2.2.2.1 o10.2.2.2.2 o9.1 o9.2 p_t_count p_t_cells j12).bind fun o13 =>
  if o13.1 = 0 then (
    some (o13.2.1, o13.2.2.1, o13.2.2.2.1, o13.2.2.2.2.1, o13.2.2.2.2.2.1, o13.2.2.2.2.2.2, p_d_R_cells))
  else (
    (f_X2_addTrust p_d_R_rows p_d_R_cells o2.1 o3).bind fun o14 =>
    some (o13.2.1, o13.2.2.1, o13.2.2.2.1, o13.2.2.2.2.1, o13.2.2.2.2.2.1, o13.2.2.2.2.2.2, o14))
set_option maxRecDepth 100000 in
set_option maxHeartbeats 4000000 in
theorem c_X1_readTrust (l : Launch) {G : (Nat → Prop) → State → Heap → Prop} (hG : vG G) (D : va_G) (c9 : Nat → ClassId) (ad : Nat → Nat) (p_start : Int32) (p_end : Int32) (p_kind : Int32) (p_value : Int32) (p_error : Int32) (p_errorAt : Int32) (p_t_count : Int32) (p_t_cells : Nat → Int32) (p_d_time : Int32) (p_d_tolerance : Int32) (p_d_seed : Int32) (p_d_madeTickets : Int32) (p_d_cheesesOfText : Int32) (p_d_R_rows : Int32) (p_d_R_cells : Nat → Int32) (p_d_U_rows : Int32) (p_d_U_cells : Nat → Int32) (p_d_S_rows : Int32) (p_d_S_cells : Nat → Int32) (p_d_T_rows : Int32) (p_d_T_cells : Nat → Int32) (p_d_E_rows : Int32) (p_d_E_cells : Nat → Int32)  {o : Int32 × Int32 × Int32 × Int32 × Int32 × Int32 × (Nat → Int32)} (hf : f_X1_readTrust p_start p_end p_kind p_value p_error p_errorAt p_t_count p_t_cells p_d_R_rows p_d_R_cells = some o) : mV l yX1_readTrust (wq yX1_readTrust cX1_readTrust 3 none) { frames := 4, cells := 0, slots := 0, locals := 109 } G D (tyA c9) [.ref (ad 0)] (wX1 ad c9 p_start p_end p_kind p_value p_error p_errorAt p_t_count p_t_cells p_d_time p_d_tolerance p_d_seed p_d_madeTickets p_d_cheesesOfText p_d_R_rows p_d_R_cells p_d_U_rows p_d_U_cells p_d_S_rows p_d_S_cells p_d_T_rows p_d_T_cells p_d_E_rows p_d_E_cells) [] 0 0 (wX1 ad c9 o.1 o.2.1 o.2.2.1 o.2.2.2.1 o.2.2.2.2.1 o.2.2.2.2.2.1 p_t_count p_t_cells p_d_time p_d_tolerance p_d_seed p_d_madeTickets p_d_cheesesOfText p_d_R_rows o.2.2.2.2.2.2 p_d_U_rows p_d_U_cells p_d_S_rows p_d_S_cells p_d_T_rows p_d_T_cells p_d_E_rows p_d_E_cells) := by
  refine mV_of hG (cc := cX1_readTrust) (maxL := 3) (by decide) rfl (Nat.le_of_ble_eq_true rfl) ?_
  intro p e s m args below meth c A hnm X
  have X : vX p s m args meth c cX1_readTrust 3 none RX1 (wq yX1_readTrust cX1_readTrust 3 none) D (tyA c9) G A := X
  refine v_eq (lv2 := [(0, .ref (ad 0))]) rfl rfl rfl rfl ?_
  rw [f_X1_readTrust] at hf
  refine v_aload_n X dX1_readTrust_0 0 rfl rfl 1 rfl ?_
  obtain ⟨o1, ho1, hf⟩ := bnd hf
  refine v_callVi X (ci := 3) (T := TX1) (C := RX1) (As := []) (rest := []) (ws' := (wX1 ad c9 o1.2.1 o1.2.2.1 o1.2.2.2.1 o1.2.2.2.2 p_error p_errorAt p_t_count p_t_cells p_d_time p_d_tolerance p_d_seed p_d_madeTickets p_d_cheesesOfText p_d_R_rows p_d_R_cells p_d_U_rows p_d_U_cells p_d_S_rows p_d_S_cells p_d_T_rows p_d_T_cells p_d_E_rows p_d_E_cells)) (c_X1_take l hG D c9 ad p_start p_end p_kind p_value p_error p_errorAt p_t_count p_t_cells p_d_time p_d_tolerance p_d_seed p_d_madeTickets p_d_cheesesOfText p_d_R_rows p_d_R_cells p_d_U_rows p_d_U_cells p_d_S_rows p_d_S_cells p_d_T_rows p_d_T_cells p_d_E_rows p_d_E_cells ho1) 0 (gV wc_338 wc_339 wc_340 wc_336 wc_341) rfl rfl rfl ⟨rfl, pd_X1_take⟩ ⟨Nat.le_of_ble_eq_true rfl, Nat.le_of_ble_eq_true rfl⟩ 0 rfl rfl rfl rfl (Nat.le_of_ble_eq_true rfl) ⟨Nat.zero_le _, Nat.zero_le _⟩ [0, 1, 2, 3, 4, 5, 6, 7, 8, 9, 10, 11, 12, 13] [] [0, 1, 2, 3, 4, 5, 6, 7, 8, 9, 10, 11, 12, 13] rfl rfl rfl rfl dX1_readTrust_1 4 rfl ?_
  refine v_pop X dX1_readTrust_4 rfl 5 rfl ?_
  refine v_aload_n X dX1_readTrust_5 0 rfl rfl 6 rfl ?_
  refine v_aload_n X dX1_readTrust_6 0 rfl rfl 7 rfl ?_
  refine v_get X (C := RX1) (T := TX1) (N := 8) (ci := 3) (v := _) dX1_readTrust_7 (lay_of layc_X1) 0 rfl rfl 1 (by decide) (mw wc_354) rfl rfl 10 rfl ?_
  refine v_getN X (C := RX5) (T := TX5) (N := 10) (ci := 7) (v := _) dX1_readTrust_10 (lay_of layc_X5) 3 rfl rfl 0 (by decide) nest_RX1_127 rfl rfl 13 rfl ?_
  refine v_iconst X dX1_readTrust_13 ic_0 14 rfl ?_
  obtain ⟨o2, ho2, hf⟩ := bnd hf
  refine v_callVi X (ci := 3) (T := TX1) (C := RX1) (As := [.ref (ad 4), .int 0]) (rest := []) (ws' := (wX1 ad c9 o2.2.1 o2.2.2.1 o2.2.2.2.1 o2.2.2.2.2.1 o2.2.2.2.2.2.1 o2.2.2.2.2.2.2 p_t_count p_t_cells p_d_time p_d_tolerance p_d_seed p_d_madeTickets p_d_cheesesOfText p_d_R_rows p_d_R_cells p_d_U_rows p_d_U_cells p_d_S_rows p_d_S_cells p_d_T_rows p_d_T_cells p_d_E_rows p_d_E_cells)) (c_X1_knownName_realms l hG D c9 ad o1.2.1 o1.2.2.1 o1.2.2.2.1 o1.2.2.2.2 p_error p_errorAt p_t_count p_t_cells p_d_time p_d_tolerance p_d_seed p_d_madeTickets p_d_cheesesOfText p_d_R_rows p_d_R_cells p_d_U_rows p_d_U_cells p_d_S_rows p_d_S_cells p_d_T_rows p_d_T_cells p_d_E_rows p_d_E_cells 0 ho2) 2 (gV wc_395 wc_396 wc_397 wc_336 wc_398) rfl rfl rfl ⟨rfl, pd_X1_knownName⟩ ⟨Nat.le_of_ble_eq_true rfl, Nat.le_of_ble_eq_true rfl⟩ 0 rfl rfl rfl rfl (Nat.le_of_ble_eq_true rfl) ⟨Nat.zero_le _, Nat.zero_le _⟩ [0, 1, 2, 3, 4, 5, 6, 7, 8, 9, 10, 11, 12, 13] [] [0, 1, 2, 3, 4, 5, 6, 7, 8, 9, 10, 11, 12, 13] rfl rfl rfl rfl dX1_readTrust_14 17 rfl ?_
  refine v_istore_n X (lv' := [(1, .int o2.1), (0, .ref (ad 0))]) dX1_readTrust_17 rfl (by decide) rfl 18 rfl ?_
  refine v_aload_n X dX1_readTrust_18 1 rfl rfl 19 rfl ?_
  refine v_get X (C := RX1) (T := TX1) (N := 8) (ci := 3) (v := _) dX1_readTrust_19 (lay_of layc_X1) 0 rfl rfl 1 (by decide) (mw wc_354) rfl rfl 22 rfl ?_
  refine v_getN X (C := RX5) (T := TX5) (N := 10) (ci := 7) (v := _) dX1_readTrust_22 (lay_of layc_X5) 3 rfl rfl 0 (by decide) nest_RX1_127 rfl rfl 25 rfl ?_
  refine v_iconst X dX1_readTrust_25 ic_0 26 rfl ?_
  refine v_aload_n X dX1_readTrust_26 1 rfl rfl 27 rfl ?_
  refine v_get X (C := RX1) (T := TX1) (N := 8) (ci := 3) (v := _) dX1_readTrust_27 (lay_of layc_X1) 0 rfl rfl 5 (by decide) (mw wc_305) rfl rfl 30 rfl ?_
  obtain ⟨o3, ho3, hf⟩ := bnd hf
  refine v_callUi X (ci := 4) (T := TX2) (C := RX2) (owner := "TicketGate$Table") (As := [.int 0, .int o2.2.2.2.2.1]) (rest := []) (ws' := (wX1 ad c9 o2.2.1 o2.2.2.1 o2.2.2.2.1 o2.2.2.2.2.1 o2.2.2.2.2.2.1 o2.2.2.2.2.2.2 p_t_count p_t_cells p_d_time p_d_tolerance p_d_seed p_d_madeTickets p_d_cheesesOfText p_d_R_rows p_d_R_cells p_d_U_rows p_d_U_cells p_d_S_rows p_d_S_cells p_d_T_rows p_d_T_cells p_d_E_rows p_d_E_cells)) (c_X6_rowWith l hG D c9 (fun k => ad ([4, 5].getD k 0)) 25 4 RX2 rfl layc_X2 wc_208 5 5 p_d_R_rows p_d_R_cells 0 o2.2.2.2.2.1 ho3) 2 (gU wc_453 wc_210 wc_211 wc_212 wc_34 wc_213) rfl rfl rfl rfl pd_X6_rowWith_UX1_readTrust_154 ⟨Nat.le_of_ble_eq_true rfl, Nat.le_of_ble_eq_true rfl⟩ 4 rfl rfl rfl rfl (Nat.le_of_ble_eq_true rfl) ⟨Nat.zero_le _, Nat.zero_le _⟩ [4, 5] [0, 1, 2, 3, 6, 7, 8, 9, 10, 11, 12, 13] [0, 1, 2, 3, 12, 13, 4, 5, 6, 7, 8, 9, 10, 11] rfl rfl rfl rfl dX1_readTrust_30 33 rfl ?_
  refine v_istore_n X (lv' := [(2, .int o3), (1, .int o2.1), (0, .ref (ad 0))]) dX1_readTrust_33 rfl (by decide) rfl 34 rfl ?_
  refine v_aload_n X dX1_readTrust_34 2 rfl rfl 35 rfl ?_
  refine v_aload_n X dX1_readTrust_35 2 rfl rfl 36 rfl ?_
  refine v_get X (C := RX1) (T := TX1) (N := 8) (ci := 3) (v := _) dX1_readTrust_36 (lay_of layc_X1) 0 rfl rfl 4 (by decide) (mw wc_315) rfl rfl 39 rfl ?_
  refine v_iconst X dX1_readTrust_39 ic_1 40 rfl ?_
  obtain ⟨j4, hj4, hf⟩ := bnd hf
  have Jj4 : vW p l e { frames := 4, cells := 0, slots := 0, locals := 109 } s m args below meth c 3 D A [] 0 0 (MQ below (eV D (tyA c9) A ((wX1 ad c9 o.1 o.2.1 o.2.2.1 o.2.2.2.1 o.2.2.2.2.1 o.2.2.2.2.2.1 p_t_count p_t_cells p_d_time p_d_tolerance p_d_seed p_d_madeTickets p_d_cheesesOfText p_d_R_rows o.2.2.2.2.2.2 p_d_U_rows p_d_U_cells p_d_S_rows p_d_S_cells p_d_T_rows p_d_T_cells p_d_E_rows p_d_E_cells) ++ [])) args s 0 0 A) (wX1 ad c9 o2.2.1 o2.2.2.1 o2.2.2.2.1 o2.2.2.2.2.1 o2.2.2.2.2.2.1 o2.2.2.2.2.2.2 p_t_count p_t_cells p_d_time p_d_tolerance p_d_seed p_d_madeTickets p_d_cheesesOfText p_d_R_rows p_d_R_cells p_d_U_rows p_d_U_cells p_d_S_rows p_d_S_cells p_d_T_rows p_d_T_cells p_d_E_rows p_d_E_cells) 48 [(0, .ref (ad 0)), (1, .int o2.1), (2, .int o3)] [.int j4, .ref (ad 0)] := by
    refine v_iconst X dX1_readTrust_48 ic_1 49 rfl ?_
    obtain ⟨o5, ho5, hf⟩ := bnd hf
    refine v_callVv X (ci := 3) (T := TX1) (C := RX1) (As := [.int j4, .int 1]) (rest := []) (ws' := (wX1 ad c9 o2.2.1 o2.2.2.1 o2.2.2.2.1 o2.2.2.2.2.1 o5.1 o5.2 p_t_count p_t_cells p_d_time p_d_tolerance p_d_seed p_d_madeTickets p_d_cheesesOfText p_d_R_rows p_d_R_cells p_d_U_rows p_d_U_cells p_d_S_rows p_d_S_cells p_d_T_rows p_d_T_cells p_d_E_rows p_d_E_cells)) (c_X1_require l hG D c9 ad o2.2.1 o2.2.2.1 o2.2.2.2.1 o2.2.2.2.2.1 o2.2.2.2.2.2.1 o2.2.2.2.2.2.2 p_t_count p_t_cells p_d_time p_d_tolerance p_d_seed p_d_madeTickets p_d_cheesesOfText p_d_R_rows p_d_R_cells p_d_U_rows p_d_U_cells p_d_S_rows p_d_S_cells p_d_T_rows p_d_T_cells p_d_E_rows p_d_E_cells j4 1 ho5) 2 (gV wc_333 wc_334 wc_335 wc_336 wc_337) rfl rfl rfl ⟨rfl, pd_X1_require⟩ ⟨Nat.le_of_ble_eq_true rfl, Nat.le_of_ble_eq_true rfl⟩ 0 rfl rfl rfl rfl (Nat.le_of_ble_eq_true rfl) ⟨Nat.zero_le _, Nat.zero_le _⟩ [0, 1, 2, 3, 4, 5, 6, 7, 8, 9, 10, 11, 12, 13] [] [0, 1, 2, 3, 4, 5, 6, 7, 8, 9, 10, 11, 12, 13] rfl rfl rfl rfl dX1_readTrust_49 52 rfl ?_
    refine v_aload_n X dX1_readTrust_52 0 rfl rfl 53 rfl ?_
    refine v_iload_n X dX1_readTrust_53 2 rfl rfl 54 rfl ?_
    refine v_iload_n X dX1_readTrust_54 1 rfl rfl 55 rfl ?_
    obtain ⟨j6, hj6, hf⟩ := bnd hf
    have Jj6 : vW p l e { frames := 4, cells := 0, slots := 0, locals := 109 } s m args below meth c 3 D A [] 0 0 (MQ below (eV D (tyA c9) A ((wX1 ad c9 o.1 o.2.1 o.2.2.1 o.2.2.2.1 o.2.2.2.2.1 o.2.2.2.2.2.1 p_t_count p_t_cells p_d_time p_d_tolerance p_d_seed p_d_madeTickets p_d_cheesesOfText p_d_R_rows o.2.2.2.2.2.2 p_d_U_rows p_d_U_cells p_d_S_rows p_d_S_cells p_d_T_rows p_d_T_cells p_d_E_rows p_d_E_cells) ++ [])) args s 0 0 A) (wX1 ad c9 o2.2.1 o2.2.2.1 o2.2.2.2.1 o2.2.2.2.2.1 o5.1 o5.2 p_t_count p_t_cells p_d_time p_d_tolerance p_d_seed p_d_madeTickets p_d_cheesesOfText p_d_R_rows p_d_R_cells p_d_U_rows p_d_U_cells p_d_S_rows p_d_S_cells p_d_T_rows p_d_T_cells p_d_E_rows p_d_E_cells) 63 [(0, .ref (ad 0)), (1, .int o2.1), (2, .int o3)] [.int j6, .ref (ad 0)] := by
      refine v_iconst X dX1_readTrust_63 ic_3 64 rfl ?_
      obtain ⟨o7, ho7, hf⟩ := bnd hf
      refine v_callVv X (ci := 3) (T := TX1) (C := RX1) (As := [.int j6, .int 3]) (rest := []) (ws' := (wX1 ad c9 o2.2.1 o2.2.2.1 o2.2.2.2.1 o2.2.2.2.2.1 o7.1 o7.2 p_t_count p_t_cells p_d_time p_d_tolerance p_d_seed p_d_madeTickets p_d_cheesesOfText p_d_R_rows p_d_R_cells p_d_U_rows p_d_U_cells p_d_S_rows p_d_S_cells p_d_T_rows p_d_T_cells p_d_E_rows p_d_E_cells)) (c_X1_require l hG D c9 ad o2.2.1 o2.2.2.1 o2.2.2.2.1 o2.2.2.2.2.1 o5.1 o5.2 p_t_count p_t_cells p_d_time p_d_tolerance p_d_seed p_d_madeTickets p_d_cheesesOfText p_d_R_rows p_d_R_cells p_d_U_rows p_d_U_cells p_d_S_rows p_d_S_cells p_d_T_rows p_d_T_cells p_d_E_rows p_d_E_cells j6 3 ho7) 2 (gV wc_333 wc_334 wc_335 wc_336 wc_337) rfl rfl rfl ⟨rfl, pd_X1_require⟩ ⟨Nat.le_of_ble_eq_true rfl, Nat.le_of_ble_eq_true rfl⟩ 0 rfl rfl rfl rfl (Nat.le_of_ble_eq_true rfl) ⟨Nat.zero_le _, Nat.zero_le _⟩ [0, 1, 2, 3, 4, 5, 6, 7, 8, 9, 10, 11, 12, 13] [] [0, 1, 2, 3, 4, 5, 6, 7, 8, 9, 10, 11, 12, 13] rfl rfl rfl rfl dX1_readTrust_64 67 rfl ?_
      refine v_aload_n X dX1_readTrust_67 0 rfl rfl 68 rfl ?_
      refine v_iload_n X dX1_readTrust_68 2 rfl rfl 69 rfl ?_
      refine v_iconst X dX1_readTrust_69 ic_m1 70 rfl ?_
      obtain ⟨j8, hj8, hf⟩ := bnd hf
      have Jj8 : vW p l e { frames := 4, cells := 0, slots := 0, locals := 109 } s m args below meth c 3 D A [] 0 0 (MQ below (eV D (tyA c9) A ((wX1 ad c9 o.1 o.2.1 o.2.2.1 o.2.2.2.1 o.2.2.2.2.1 o.2.2.2.2.2.1 p_t_count p_t_cells p_d_time p_d_tolerance p_d_seed p_d_madeTickets p_d_cheesesOfText p_d_R_rows o.2.2.2.2.2.2 p_d_U_rows p_d_U_cells p_d_S_rows p_d_S_cells p_d_T_rows p_d_T_cells p_d_E_rows p_d_E_cells) ++ [])) args s 0 0 A) (wX1 ad c9 o2.2.1 o2.2.2.1 o2.2.2.2.1 o2.2.2.2.2.1 o7.1 o7.2 p_t_count p_t_cells p_d_time p_d_tolerance p_d_seed p_d_madeTickets p_d_cheesesOfText p_d_R_rows p_d_R_cells p_d_U_rows p_d_U_cells p_d_S_rows p_d_S_cells p_d_T_rows p_d_T_cells p_d_E_rows p_d_E_cells) 78 [(0, .ref (ad 0)), (1, .int o2.1), (2, .int o3)] [.int j8, .ref (ad 0)] := by
        refine v_iconst X dX1_readTrust_78 ic_4 79 rfl ?_
        obtain ⟨o9, ho9, hf⟩ := bnd hf
        refine v_callVv X (ci := 3) (T := TX1) (C := RX1) (As := [.int j8, .int 4]) (rest := []) (ws' := (wX1 ad c9 o2.2.1 o2.2.2.1 o2.2.2.2.1 o2.2.2.2.2.1 o9.1 o9.2 p_t_count p_t_cells p_d_time p_d_tolerance p_d_seed p_d_madeTickets p_d_cheesesOfText p_d_R_rows p_d_R_cells p_d_U_rows p_d_U_cells p_d_S_rows p_d_S_cells p_d_T_rows p_d_T_cells p_d_E_rows p_d_E_cells)) (c_X1_require l hG D c9 ad o2.2.1 o2.2.2.1 o2.2.2.2.1 o2.2.2.2.2.1 o7.1 o7.2 p_t_count p_t_cells p_d_time p_d_tolerance p_d_seed p_d_madeTickets p_d_cheesesOfText p_d_R_rows p_d_R_cells p_d_U_rows p_d_U_cells p_d_S_rows p_d_S_cells p_d_T_rows p_d_T_cells p_d_E_rows p_d_E_cells j8 4 ho9) 2 (gV wc_333 wc_334 wc_335 wc_336 wc_337) rfl rfl rfl ⟨rfl, pd_X1_require⟩ ⟨Nat.le_of_ble_eq_true rfl, Nat.le_of_ble_eq_true rfl⟩ 0 rfl rfl rfl rfl (Nat.le_of_ble_eq_true rfl) ⟨Nat.zero_le _, Nat.zero_le _⟩ [0, 1, 2, 3, 4, 5, 6, 7, 8, 9, 10, 11, 12, 13] [] [0, 1, 2, 3, 4, 5, 6, 7, 8, 9, 10, 11, 12, 13] rfl rfl rfl rfl dX1_readTrust_79 82 rfl ?_
        refine v_aload_n X dX1_readTrust_82 0 rfl rfl 83 rfl ?_
        obtain ⟨o10, ho10, hf⟩ := bnd hf
        refine v_callVi X (ci := 3) (T := TX1) (C := RX1) (As := []) (rest := []) (ws' := (wX1 ad c9 o10.2.1 o10.2.2.1 o10.2.2.2.1 o10.2.2.2.2 o9.1 o9.2 p_t_count p_t_cells p_d_time p_d_tolerance p_d_seed p_d_madeTickets p_d_cheesesOfText p_d_R_rows p_d_R_cells p_d_U_rows p_d_U_cells p_d_S_rows p_d_S_cells p_d_T_rows p_d_T_cells p_d_E_rows p_d_E_cells)) (c_X1_take l hG D c9 ad o2.2.1 o2.2.2.1 o2.2.2.2.1 o2.2.2.2.2.1 o9.1 o9.2 p_t_count p_t_cells p_d_time p_d_tolerance p_d_seed p_d_madeTickets p_d_cheesesOfText p_d_R_rows p_d_R_cells p_d_U_rows p_d_U_cells p_d_S_rows p_d_S_cells p_d_T_rows p_d_T_cells p_d_E_rows p_d_E_cells ho10) 0 (gV wc_338 wc_339 wc_340 wc_336 wc_341) rfl rfl rfl ⟨rfl, pd_X1_take⟩ ⟨Nat.le_of_ble_eq_true rfl, Nat.le_of_ble_eq_true rfl⟩ 0 rfl rfl rfl rfl (Nat.le_of_ble_eq_true rfl) ⟨Nat.zero_le _, Nat.zero_le _⟩ [0, 1, 2, 3, 4, 5, 6, 7, 8, 9, 10, 11, 12, 13] [] [0, 1, 2, 3, 4, 5, 6, 7, 8, 9, 10, 11, 12, 13] rfl rfl rfl rfl dX1_readTrust_83 86 rfl ?_
        refine v_pop X dX1_readTrust_86 rfl 87 rfl ?_
        refine v_aload_n X dX1_readTrust_87 0 rfl rfl 88 rfl ?_
        refine v_aload_n X dX1_readTrust_88 0 rfl rfl 89 rfl ?_
        refine v_get X (C := RX1) (T := TX1) (N := 8) (ci := 3) (v := _) dX1_readTrust_89 (lay_of layc_X1) 0 rfl rfl 1 (by decide) (mw wc_354) rfl rfl 92 rfl ?_
        refine v_getN X (C := RX5) (T := TX5) (N := 10) (ci := 7) (v := _) dX1_readTrust_92 (lay_of layc_X5) 3 rfl rfl 0 (by decide) nest_RX1_127 rfl rfl 95 rfl ?_
        refine v_iload_n X dX1_readTrust_95 1 rfl rfl 96 rfl ?_
        refine v_iload_n X dX1_readTrust_96 2 rfl rfl 97 rfl ?_
        obtain ⟨o11, ho11, hf⟩ := bnd hf
        refine v_callVi X (ci := 4) (T := TX2) (C := RX2) (As := [.int o2.1, .int o3]) (rest := [.ref (ad 0)]) (ws' := (wX1 ad c9 o10.2.1 o10.2.2.1 o10.2.2.2.1 o10.2.2.2.2 o9.1 o9.2 p_t_count p_t_cells p_d_time p_d_tolerance p_d_seed p_d_madeTickets p_d_cheesesOfText p_d_R_rows p_d_R_cells p_d_U_rows p_d_U_cells p_d_S_rows p_d_S_cells p_d_T_rows p_d_T_cells p_d_E_rows p_d_E_cells)) (c_X2_hasTrust l hG D c9 (fun k => ad ([4, 5].getD k 0)) p_d_R_rows p_d_R_cells o2.1 o3 ho11) 2 (gV wc_454 wc_141 wc_142 wc_66 wc_143) rfl rfl rfl ⟨rfl, pd_X2_hasTrust⟩ ⟨Nat.le_of_ble_eq_true rfl, Nat.le_of_ble_eq_true rfl⟩ 4 rfl rfl rfl rfl (Nat.le_of_ble_eq_true rfl) ⟨Nat.zero_le _, Nat.zero_le _⟩ [4, 5] [0, 1, 2, 3, 6, 7, 8, 9, 10, 11, 12, 13] [0, 1, 2, 3, 12, 13, 4, 5, 6, 7, 8, 9, 10, 11] rfl rfl rfl rfl dX1_readTrust_97 100 rfl ?_
        obtain ⟨j12, hj12, hf⟩ := bnd hf
        have Jj12 : vW p l e { frames := 4, cells := 0, slots := 0, locals := 109 } s m args below meth c 3 D A [] 0 0 (MQ below (eV D (tyA c9) A ((wX1 ad c9 o.1 o.2.1 o.2.2.1 o.2.2.2.1 o.2.2.2.2.1 o.2.2.2.2.2.1 p_t_count p_t_cells p_d_time p_d_tolerance p_d_seed p_d_madeTickets p_d_cheesesOfText p_d_R_rows o.2.2.2.2.2.2 p_d_U_rows p_d_U_cells p_d_S_rows p_d_S_cells p_d_T_rows p_d_T_cells p_d_E_rows p_d_E_cells) ++ [])) args s 0 0 A) (wX1 ad c9 o10.2.1 o10.2.2.1 o10.2.2.2.1 o10.2.2.2.2 o9.1 o9.2 p_t_count p_t_cells p_d_time p_d_tolerance p_d_seed p_d_madeTickets p_d_cheesesOfText p_d_R_rows p_d_R_cells p_d_U_rows p_d_U_cells p_d_S_rows p_d_S_cells p_d_T_rows p_d_T_cells p_d_E_rows p_d_E_cells) 108 [(0, .ref (ad 0)), (1, .int o2.1), (2, .int o3)] [.int j12, .ref (ad 0)] := by
          obtain ⟨o13, ho13, hf⟩ := bnd hf
          refine v_callVi X (ci := 3) (T := TX1) (C := RX1) (As := [.int j12]) (rest := []) (ws' := (wX1 ad c9 o13.2.1 o13.2.2.1 o13.2.2.2.1 o13.2.2.2.2.1 o13.2.2.2.2.2.1 o13.2.2.2.2.2.2 p_t_count p_t_cells p_d_time p_d_tolerance p_d_seed p_d_madeTickets p_d_cheesesOfText p_d_R_rows p_d_R_cells p_d_U_rows p_d_U_cells p_d_S_rows p_d_S_cells p_d_T_rows p_d_T_cells p_d_E_rows p_d_E_cells)) (c_X1_semicolon l hG D c9 ad o10.2.1 o10.2.2.1 o10.2.2.2.1 o10.2.2.2.2 o9.1 o9.2 p_t_count p_t_cells p_d_time p_d_tolerance p_d_seed p_d_madeTickets p_d_cheesesOfText p_d_R_rows p_d_R_cells p_d_U_rows p_d_U_cells p_d_S_rows p_d_S_cells p_d_T_rows p_d_T_cells p_d_E_rows p_d_E_cells j12 ho13) 1 (gV wc_350 wc_351 wc_352 wc_336 wc_353) rfl rfl rfl ⟨rfl, pd_X1_semicolon⟩ ⟨Nat.le_of_ble_eq_true rfl, Nat.le_of_ble_eq_true rfl⟩ 0 rfl rfl rfl rfl (Nat.le_of_ble_eq_true rfl) ⟨Nat.zero_le _, Nat.zero_le _⟩ [0, 1, 2, 3, 4, 5, 6, 7, 8, 9, 10, 11, 12, 13] [] [0, 1, 2, 3, 4, 5, 6, 7, 8, 9, 10, 11, 12, 13] rfl rfl rfl rfl dX1_readTrust_108 111 rfl ?_
          refine v_if_eq X (tgt := 126) dX1_readTrust_111 rfl 114 rfl hf (fun hf => ?_) (fun hf => ?_)
          · obtain rfl := Option.some.inj hf
            exact v_vret X (Nat.zero_le _) (Nat.zero_le _) dX1_readTrust_126
          · refine v_aload_n X dX1_readTrust_114 0 rfl rfl 115 rfl ?_
            refine v_get X (C := RX1) (T := TX1) (N := 8) (ci := 3) (v := _) dX1_readTrust_115 (lay_of layc_X1) 0 rfl rfl 1 (by decide) (mw wc_354) rfl rfl 118 rfl ?_
            refine v_getN X (C := RX5) (T := TX5) (N := 10) (ci := 7) (v := _) dX1_readTrust_118 (lay_of layc_X5) 3 rfl rfl 0 (by decide) nest_RX1_127 rfl rfl 121 rfl ?_
            refine v_iload_n X dX1_readTrust_121 1 rfl rfl 122 rfl ?_
            refine v_iload_n X dX1_readTrust_122 2 rfl rfl 123 rfl ?_
            obtain ⟨o14, ho14, hf⟩ := bnd hf
            refine v_callVv X (ci := 4) (T := TX2) (C := RX2) (As := [.int o2.1, .int o3]) (rest := []) (ws' := (wX1 ad c9 o13.2.1 o13.2.2.1 o13.2.2.2.1 o13.2.2.2.2.1 o13.2.2.2.2.2.1 o13.2.2.2.2.2.2 p_t_count p_t_cells p_d_time p_d_tolerance p_d_seed p_d_madeTickets p_d_cheesesOfText p_d_R_rows o14 p_d_U_rows p_d_U_cells p_d_S_rows p_d_S_cells p_d_T_rows p_d_T_cells p_d_E_rows p_d_E_cells)) (c_X2_addTrust l hG D c9 (fun k => ad ([4, 5].getD k 0)) p_d_R_rows p_d_R_cells o2.1 o3 ho14) 2 (gV wc_455 wc_456 wc_457 wc_66 wc_458) rfl rfl rfl ⟨rfl, pd_X2_addTrust⟩ ⟨Nat.le_of_ble_eq_true rfl, Nat.le_of_ble_eq_true rfl⟩ 4 rfl rfl rfl rfl (Nat.le_of_ble_eq_true rfl) ⟨Nat.zero_le _, Nat.zero_le _⟩ [4, 5] [0, 1, 2, 3, 6, 7, 8, 9, 10, 11, 12, 13] [0, 1, 2, 3, 12, 13, 4, 5, 6, 7, 8, 9, 10, 11] rfl rfl rfl rfl dX1_readTrust_123 126 rfl ?_
            obtain rfl := Option.some.inj hf
            exact v_vret X (Nat.zero_le _) (Nat.zero_le _) dX1_readTrust_126
        clear hf
        refine v_if_ne X (tgt := 107) dX1_readTrust_100 rfl 103 rfl hj12 (fun hf => ?_) (fun hf => ?_)
        · refine v_iconst X dX1_readTrust_107 ic_0 108 rfl ?_
          obtain rfl := Option.some.inj hf
          exact Jj12
        · refine v_iconst X dX1_readTrust_103 ic_1 104 rfl ?_
          refine v_goto X (tgt := 108) dX1_readTrust_104 rfl ?_
          obtain rfl := Option.some.inj hf
          exact Jj12
      clear hf
      refine v_icmp_eq X (tgt := 77) dX1_readTrust_70 rfl 73 rfl hj8 (fun hf => ?_) (fun hf => ?_)
      · refine v_iconst X dX1_readTrust_77 ic_0 78 rfl ?_
        obtain rfl := Option.some.inj hf
        exact Jj8
      · refine v_iconst X dX1_readTrust_73 ic_1 74 rfl ?_
        refine v_goto X (tgt := 78) dX1_readTrust_74 rfl ?_
        obtain rfl := Option.some.inj hf
        exact Jj8
    clear hf
    refine v_icmp_eq X (tgt := 62) dX1_readTrust_55 rfl 58 rfl hj6 (fun hf => ?_) (fun hf => ?_)
    · refine v_iconst X dX1_readTrust_62 ic_0 63 rfl ?_
      obtain rfl := Option.some.inj hf
      exact Jj6
    · refine v_iconst X dX1_readTrust_58 ic_1 59 rfl ?_
      refine v_goto X (tgt := 63) dX1_readTrust_59 rfl ?_
      obtain rfl := Option.some.inj hf
      exact Jj6
  clear hf
  refine v_icmp_ne X (tgt := 47) dX1_readTrust_40 rfl 43 rfl hj4 (fun hf => ?_) (fun hf => ?_)
  · refine v_iconst X dX1_readTrust_47 ic_0 48 rfl ?_
    obtain rfl := Option.some.inj hf
    refine v_sub (lv' := [(0, .ref (ad 0)), (1, .int o2.1), (2, .int o3)]) [2, 1, 0] rfl ?_
    exact Jj4
  · refine v_iconst X dX1_readTrust_43 ic_1 44 rfl ?_
    refine v_goto X (tgt := 48) dX1_readTrust_44 rfl ?_
    obtain rfl := Option.some.inj hf
    refine v_sub (lv' := [(0, .ref (ad 0)), (1, .int o2.1), (2, .int o3)]) [2, 1, 0] rfl ?_
    exact Jj4
theorem pd_X1_readTrust : yX1_readTrust.cls ≠ "java/lang/invoke/MethodHandle" ∧ yX1_readTrust.cls ≠ "java/lang/invoke/VarHandle" ∧ (parseMethodDescriptor yX1_readTrust.desc).map (fun d => d.parameters.length) = some 0 := by decide +kernel
theorem pd_X6_isFull_UX1_readRealm_131 : "TicketGate$Table" ≠ "java/lang/invoke/MethodHandle" ∧ "TicketGate$Table" ≠ "java/lang/invoke/VarHandle" ∧ (parseMethodDescriptor "()Z").map (fun d => d.parameters.length) = some 0 := by decide +kernel
def f_X1_readRealm (p_start : Int32) (p_end : Int32) (p_kind : Int32) (p_value : Int32) (p_error : Int32) (p_errorAt : Int32) (p_t_count : Int32) (p_t_cells : Nat → Int32) (p_d_R_rows : Int32) (p_d_R_cells : Nat → Int32) (p_d_U_rows : Int32) (p_d_U_cells : Nat → Int32) (p_d_S_rows : Int32) (p_d_S_cells : Nat → Int32) : Option (Int32 × Int32 × Int32 × Int32 × Int32 × Int32 × Int32 × (Nat → Int32)) :=
  (f_X6_isFull 25 5 p_d_R_rows).bind fun o1 =>
  Option.bind (if o1 = 0 then (
    some (1))
  else (
    some (0)) : Option (Int32)) fun j2 =>
  (f_X1_require p_start p_error p_errorAt j2 5).bind fun o3 =>
  (f_X1_take p_start p_end p_kind p_value o3.1 p_t_count p_t_cells).bind fun o4 =>
  (f_X1_newName o4.2.1 o4.2.2.1 o4.2.2.2.1 o4.2.2.2.2 o3.1 o3.2 p_t_count p_t_cells p_d_R_rows p_d_R_cells p_d_U_rows p_d_U_cells p_d_S_rows p_d_S_cells).bind fun o5 =>
  (f_X1_number o5.2.1 o5.2.2.1 o5.2.2.2.1 o5.2.2.2.2.1 o5.2.2.2.2.2.1 o5.2.2.2.2.2.2 p_t_count p_t_cells 1 999).bind fun o6 =>
  (f_X1_number o6.2.1 o6.2.2.1 o6.2.2.2.1 o6.2.2.2.2.1 o6.2.2.2.2.2.1 o6.2.2.2.2.2.2 p_t_count p_t_cells 0 9999).bind fun o7 =>
  (f_X1_clockWord o7.2.1 o7.2.2.1 o7.2.2.2.1 o7.2.2.2.2.1 o7.2.2.2.2.2.1 o7.2.2.2.2.2.2 p_t_count p_t_cells).bind fun o8 =>
  Option.bind (if o8.1 = 0 then (
    some (0, o8.2.1, o8.2.2.1, o8.2.2.2.1, o8.2.2.2.2.1, o8.2.2.2.2.2.1, o8.2.2.2.2.2.2))
  else (
    (f_X1_number o8.2.1 o8.2.2.1 o8.2.2.2.1 o8.2.2.2.2.1 o8.2.2.2.2.2.1 o8.2.2.2.2.2.2 p_t_count p_t_cells 1 9).bind fun o10 =>
    some ((o8.1 * o10.1), o10.2.1, o10.2.2.1, o10.2.2.2.1, o10.2.2.2.2.1, o10.2.2.2.2.2.1, o10.2.2.2.2.2.2)) : Option (Int32 × Int32 × Int32 × Int32 × Int32 × Int32 × Int32)) fun j9 =>
  (f_X1_semicolon j9.2.1 j9.2.2.1 j9.2.2.2.1 j9.2.2.2.2.1 j9.2.2.2.2.2.1 j9.2.2.2.2.2.2 p_t_count p_t_cells 1).bind fun o11 =>
  if o11.1 = 0 then (
    some (o11.2.1, o11.2.2.1, o11.2.2.2.1, o11.2.2.2.2.1, o11.2.2.2.2.2.1, o11.2.2.2.2.2.2, p_d_R_rows, p_d_R_cells))
  else (
    (f_X2_addRealm p_d_R_rows p_d_R_cells o5.1 o6.1 o7.1 j9.1).bind fun o12 =>
    some (o11.2.1, o11.2.2.1, o11.2.2.2.1, o11.2.2.2.2.1, o11.2.2.2.2.2.1, o11.2.2.2.2.2.2, o12.1, o12.2))
set_option maxRecDepth 100000 in
set_option maxHeartbeats 4000000 in
theorem c_X1_readRealm (l : Launch) {G : (Nat → Prop) → State → Heap → Prop} (hG : vG G) (D : va_G) (c9 : Nat → ClassId) (sk sv : Nat → Nat) (hGU : ∀ (A : Nat → Prop) (U : State) (H : Heap), G A U H → vU sk sv A U H) (ad : Nat → Nat) (p_start : Int32) (p_end : Int32) (p_kind : Int32) (p_value : Int32) (p_error : Int32) (p_errorAt : Int32) (p_t_count : Int32) (p_t_cells : Nat → Int32) (p_d_time : Int32) (p_d_tolerance : Int32) (p_d_seed : Int32) (p_d_madeTickets : Int32) (p_d_cheesesOfText : Int32) (p_d_R_rows : Int32) (p_d_R_cells : Nat → Int32) (p_d_U_rows : Int32) (p_d_U_cells : Nat → Int32) (p_d_S_rows : Int32) (p_d_S_cells : Nat → Int32) (p_d_T_rows : Int32) (p_d_T_cells : Nat → Int32) (p_d_E_rows : Int32) (p_d_E_cells : Nat → Int32)  {o : Int32 × Int32 × Int32 × Int32 × Int32 × Int32 × Int32 × (Nat → Int32)} (hf : f_X1_readRealm p_start p_end p_kind p_value p_error p_errorAt p_t_count p_t_cells p_d_R_rows p_d_R_cells p_d_U_rows p_d_U_cells p_d_S_rows p_d_S_cells = some o) : mV l yX1_readRealm (wq yX1_readRealm cX1_readRealm 6 none) { frames := 8, cells := 0, slots := 0, locals := 218 } G D (tyA c9) [.ref (ad 0)] (wX1 ad c9 p_start p_end p_kind p_value p_error p_errorAt p_t_count p_t_cells p_d_time p_d_tolerance p_d_seed p_d_madeTickets p_d_cheesesOfText p_d_R_rows p_d_R_cells p_d_U_rows p_d_U_cells p_d_S_rows p_d_S_cells p_d_T_rows p_d_T_cells p_d_E_rows p_d_E_cells) [] 0 0 (wX1 ad c9 o.1 o.2.1 o.2.2.1 o.2.2.2.1 o.2.2.2.2.1 o.2.2.2.2.2.1 p_t_count p_t_cells p_d_time p_d_tolerance p_d_seed p_d_madeTickets p_d_cheesesOfText o.2.2.2.2.2.2.1 o.2.2.2.2.2.2.2 p_d_U_rows p_d_U_cells p_d_S_rows p_d_S_cells p_d_T_rows p_d_T_cells p_d_E_rows p_d_E_cells) := by
  refine mV_of hG (cc := cX1_readRealm) (maxL := 6) (by decide) rfl (Nat.le_of_ble_eq_true rfl) ?_
  intro p e s m args below meth c A hnm X
  have X : vX p s m args meth c cX1_readRealm 6 none RX1 (wq yX1_readRealm cX1_readRealm 6 none) D (tyA c9) G A := X
  refine v_eq (lv2 := [(0, .ref (ad 0))]) rfl rfl rfl rfl ?_
  rw [f_X1_readRealm] at hf
  refine v_aload_n X dX1_readRealm_0 0 rfl rfl 1 rfl ?_
  refine v_aload_n X dX1_readRealm_1 0 rfl rfl 2 rfl ?_
  refine v_get X (C := RX1) (T := TX1) (N := 8) (ci := 3) (v := _) dX1_readRealm_2 (lay_of layc_X1) 0 rfl rfl 1 (by decide) (mw wc_354) rfl rfl 5 rfl ?_
  refine v_getN X (C := RX5) (T := TX5) (N := 10) (ci := 7) (v := _) dX1_readRealm_5 (lay_of layc_X5) 3 rfl rfl 0 (by decide) nest_RX1_127 rfl rfl 8 rfl ?_
  obtain ⟨o1, ho1, hf⟩ := bnd hf
  refine v_callUi X (ci := 4) (T := TX2) (C := RX2) (owner := "TicketGate$Table") (As := []) (rest := [.ref (ad 0)]) (ws' := (wX1 ad c9 p_start p_end p_kind p_value p_error p_errorAt p_t_count p_t_cells p_d_time p_d_tolerance p_d_seed p_d_madeTickets p_d_cheesesOfText p_d_R_rows p_d_R_cells p_d_U_rows p_d_U_cells p_d_S_rows p_d_S_cells p_d_T_rows p_d_T_cells p_d_E_rows p_d_E_cells)) (c_X6_isFull l hG D c9 (fun k => ad ([4, 5].getD k 0)) 25 4 RX2 rfl layc_X2 5 5 p_d_R_rows p_d_R_cells ho1) 0 (gU wc_459 wc_460 wc_461 wc_115 wc_34 wc_116) rfl rfl rfl rfl pd_X6_isFull_UX1_readRealm_131 ⟨Nat.le_of_ble_eq_true rfl, Nat.le_of_ble_eq_true rfl⟩ 4 rfl rfl rfl rfl (Nat.le_of_ble_eq_true rfl) ⟨Nat.zero_le _, Nat.zero_le _⟩ [4, 5] [0, 1, 2, 3, 6, 7, 8, 9, 10, 11, 12, 13] [0, 1, 2, 3, 12, 13, 4, 5, 6, 7, 8, 9, 10, 11] rfl rfl rfl rfl dX1_readRealm_8 11 rfl ?_
  obtain ⟨j2, hj2, hf⟩ := bnd hf
  have Jj2 : vW p l e { frames := 8, cells := 0, slots := 0, locals := 218 } s m args below meth c 6 D A [] 0 0 (MQ below (eV D (tyA c9) A ((wX1 ad c9 o.1 o.2.1 o.2.2.1 o.2.2.2.1 o.2.2.2.2.1 o.2.2.2.2.2.1 p_t_count p_t_cells p_d_time p_d_tolerance p_d_seed p_d_madeTickets p_d_cheesesOfText o.2.2.2.2.2.2.1 o.2.2.2.2.2.2.2 p_d_U_rows p_d_U_cells p_d_S_rows p_d_S_cells p_d_T_rows p_d_T_cells p_d_E_rows p_d_E_cells) ++ [])) args s 0 0 A) (wX1 ad c9 p_start p_end p_kind p_value p_error p_errorAt p_t_count p_t_cells p_d_time p_d_tolerance p_d_seed p_d_madeTickets p_d_cheesesOfText p_d_R_rows p_d_R_cells p_d_U_rows p_d_U_cells p_d_S_rows p_d_S_cells p_d_T_rows p_d_T_cells p_d_E_rows p_d_E_cells) 19 [(0, .ref (ad 0))] [.int j2, .ref (ad 0)] := by
    refine v_iconst X dX1_readRealm_19 ic_5 20 rfl ?_
    obtain ⟨o3, ho3, hf⟩ := bnd hf
    refine v_callVv X (ci := 3) (T := TX1) (C := RX1) (As := [.int j2, .int 5]) (rest := []) (ws' := (wX1 ad c9 p_start p_end p_kind p_value o3.1 o3.2 p_t_count p_t_cells p_d_time p_d_tolerance p_d_seed p_d_madeTickets p_d_cheesesOfText p_d_R_rows p_d_R_cells p_d_U_rows p_d_U_cells p_d_S_rows p_d_S_cells p_d_T_rows p_d_T_cells p_d_E_rows p_d_E_cells)) (c_X1_require l hG D c9 ad p_start p_end p_kind p_value p_error p_errorAt p_t_count p_t_cells p_d_time p_d_tolerance p_d_seed p_d_madeTickets p_d_cheesesOfText p_d_R_rows p_d_R_cells p_d_U_rows p_d_U_cells p_d_S_rows p_d_S_cells p_d_T_rows p_d_T_cells p_d_E_rows p_d_E_cells j2 5 ho3) 2 (gV wc_333 wc_334 wc_335 wc_336 wc_337) rfl rfl rfl ⟨rfl, pd_X1_require⟩ ⟨Nat.le_of_ble_eq_true rfl, Nat.le_of_ble_eq_true rfl⟩ 0 rfl rfl rfl rfl (Nat.le_of_ble_eq_true rfl) ⟨Nat.zero_le _, Nat.zero_le _⟩ [0, 1, 2, 3, 4, 5, 6, 7, 8, 9, 10, 11, 12, 13] [] [0, 1, 2, 3, 4, 5, 6, 7, 8, 9, 10, 11, 12, 13] rfl rfl rfl rfl dX1_readRealm_20 23 rfl ?_
    refine v_aload_n X dX1_readRealm_23 0 rfl rfl 24 rfl ?_
    obtain ⟨o4, ho4, hf⟩ := bnd hf
    refine v_callVi X (ci := 3) (T := TX1) (C := RX1) (As := []) (rest := []) (ws' := (wX1 ad c9 o4.2.1 o4.2.2.1 o4.2.2.2.1 o4.2.2.2.2 o3.1 o3.2 p_t_count p_t_cells p_d_time p_d_tolerance p_d_seed p_d_madeTickets p_d_cheesesOfText p_d_R_rows p_d_R_cells p_d_U_rows p_d_U_cells p_d_S_rows p_d_S_cells p_d_T_rows p_d_T_cells p_d_E_rows p_d_E_cells)) (c_X1_take l hG D c9 ad p_start p_end p_kind p_value o3.1 o3.2 p_t_count p_t_cells p_d_time p_d_tolerance p_d_seed p_d_madeTickets p_d_cheesesOfText p_d_R_rows p_d_R_cells p_d_U_rows p_d_U_cells p_d_S_rows p_d_S_cells p_d_T_rows p_d_T_cells p_d_E_rows p_d_E_cells ho4) 0 (gV wc_338 wc_339 wc_340 wc_336 wc_341) rfl rfl rfl ⟨rfl, pd_X1_take⟩ ⟨Nat.le_of_ble_eq_true rfl, Nat.le_of_ble_eq_true rfl⟩ 0 rfl rfl rfl rfl (Nat.le_of_ble_eq_true rfl) ⟨Nat.zero_le _, Nat.zero_le _⟩ [0, 1, 2, 3, 4, 5, 6, 7, 8, 9, 10, 11, 12, 13] [] [0, 1, 2, 3, 4, 5, 6, 7, 8, 9, 10, 11, 12, 13] rfl rfl rfl rfl dX1_readRealm_24 27 rfl ?_
    refine v_pop X dX1_readRealm_27 rfl 28 rfl ?_
    refine v_aload_n X dX1_readRealm_28 0 rfl rfl 29 rfl ?_
    obtain ⟨o5, ho5, hf⟩ := bnd hf
    refine v_callVi X (ci := 3) (T := TX1) (C := RX1) (As := []) (rest := []) (ws' := (wX1 ad c9 o5.2.1 o5.2.2.1 o5.2.2.2.1 o5.2.2.2.2.1 o5.2.2.2.2.2.1 o5.2.2.2.2.2.2 p_t_count p_t_cells p_d_time p_d_tolerance p_d_seed p_d_madeTickets p_d_cheesesOfText p_d_R_rows p_d_R_cells p_d_U_rows p_d_U_cells p_d_S_rows p_d_S_cells p_d_T_rows p_d_T_cells p_d_E_rows p_d_E_cells)) (c_X1_newName l hG D c9 ad o4.2.1 o4.2.2.1 o4.2.2.2.1 o4.2.2.2.2 o3.1 o3.2 p_t_count p_t_cells p_d_time p_d_tolerance p_d_seed p_d_madeTickets p_d_cheesesOfText p_d_R_rows p_d_R_cells p_d_U_rows p_d_U_cells p_d_S_rows p_d_S_cells p_d_T_rows p_d_T_cells p_d_E_rows p_d_E_cells ho5) 0 (gV wc_432 wc_433 wc_434 wc_336 wc_435) rfl rfl rfl ⟨rfl, pd_X1_newName⟩ ⟨Nat.le_of_ble_eq_true rfl, Nat.le_of_ble_eq_true rfl⟩ 0 rfl rfl rfl rfl (Nat.le_of_ble_eq_true rfl) ⟨Nat.zero_le _, Nat.zero_le _⟩ [0, 1, 2, 3, 4, 5, 6, 7, 8, 9, 10, 11, 12, 13] [] [0, 1, 2, 3, 4, 5, 6, 7, 8, 9, 10, 11, 12, 13] rfl rfl rfl rfl dX1_readRealm_29 32 rfl ?_
    refine v_istore_n X (lv' := [(1, .int o5.1), (0, .ref (ad 0))]) dX1_readRealm_32 rfl (by decide) rfl 33 rfl ?_
    refine v_aload_n X dX1_readRealm_33 1 rfl rfl 34 rfl ?_
    refine v_iconst X dX1_readRealm_34 ic_1 35 rfl ?_
    refine v_sipush X dX1_readRealm_35 sp_999 38 rfl ?_
    obtain ⟨o6, ho6, hf⟩ := bnd hf
    refine v_callVi X (ci := 3) (T := TX1) (C := RX1) (As := [.int 1, .int 999]) (rest := []) (ws' := (wX1 ad c9 o6.2.1 o6.2.2.1 o6.2.2.2.1 o6.2.2.2.2.1 o6.2.2.2.2.2.1 o6.2.2.2.2.2.2 p_t_count p_t_cells p_d_time p_d_tolerance p_d_seed p_d_madeTickets p_d_cheesesOfText p_d_R_rows p_d_R_cells p_d_U_rows p_d_U_cells p_d_S_rows p_d_S_cells p_d_T_rows p_d_T_cells p_d_E_rows p_d_E_cells)) (c_X1_number l hG D c9 ad o5.2.1 o5.2.2.1 o5.2.2.2.1 o5.2.2.2.2.1 o5.2.2.2.2.2.1 o5.2.2.2.2.2.2 p_t_count p_t_cells p_d_time p_d_tolerance p_d_seed p_d_madeTickets p_d_cheesesOfText p_d_R_rows p_d_R_cells p_d_U_rows p_d_U_cells p_d_S_rows p_d_S_cells p_d_T_rows p_d_T_cells p_d_E_rows p_d_E_cells 1 999 ho6) 2 (gV wc_346 wc_347 wc_348 wc_336 wc_349) rfl rfl rfl ⟨rfl, pd_X1_number⟩ ⟨Nat.le_of_ble_eq_true rfl, Nat.le_of_ble_eq_true rfl⟩ 0 rfl rfl rfl rfl (Nat.le_of_ble_eq_true rfl) ⟨Nat.zero_le _, Nat.zero_le _⟩ [0, 1, 2, 3, 4, 5, 6, 7, 8, 9, 10, 11, 12, 13] [] [0, 1, 2, 3, 4, 5, 6, 7, 8, 9, 10, 11, 12, 13] rfl rfl rfl rfl dX1_readRealm_38 41 rfl ?_
    refine v_istore_n X (lv' := [(2, .int o6.1), (1, .int o5.1), (0, .ref (ad 0))]) dX1_readRealm_41 rfl (by decide) rfl 42 rfl ?_
    refine v_aload_n X dX1_readRealm_42 2 rfl rfl 43 rfl ?_
    refine v_iconst X dX1_readRealm_43 ic_0 44 rfl ?_
    refine v_sipush X dX1_readRealm_44 sp_9999 47 rfl ?_
    obtain ⟨o7, ho7, hf⟩ := bnd hf
    refine v_callVi X (ci := 3) (T := TX1) (C := RX1) (As := [.int 0, .int 9999]) (rest := []) (ws' := (wX1 ad c9 o7.2.1 o7.2.2.1 o7.2.2.2.1 o7.2.2.2.2.1 o7.2.2.2.2.2.1 o7.2.2.2.2.2.2 p_t_count p_t_cells p_d_time p_d_tolerance p_d_seed p_d_madeTickets p_d_cheesesOfText p_d_R_rows p_d_R_cells p_d_U_rows p_d_U_cells p_d_S_rows p_d_S_cells p_d_T_rows p_d_T_cells p_d_E_rows p_d_E_cells)) (c_X1_number l hG D c9 ad o6.2.1 o6.2.2.1 o6.2.2.2.1 o6.2.2.2.2.1 o6.2.2.2.2.2.1 o6.2.2.2.2.2.2 p_t_count p_t_cells p_d_time p_d_tolerance p_d_seed p_d_madeTickets p_d_cheesesOfText p_d_R_rows p_d_R_cells p_d_U_rows p_d_U_cells p_d_S_rows p_d_S_cells p_d_T_rows p_d_T_cells p_d_E_rows p_d_E_cells 0 9999 ho7) 2 (gV wc_346 wc_347 wc_348 wc_336 wc_349) rfl rfl rfl ⟨rfl, pd_X1_number⟩ ⟨Nat.le_of_ble_eq_true rfl, Nat.le_of_ble_eq_true rfl⟩ 0 rfl rfl rfl rfl (Nat.le_of_ble_eq_true rfl) ⟨Nat.zero_le _, Nat.zero_le _⟩ [0, 1, 2, 3, 4, 5, 6, 7, 8, 9, 10, 11, 12, 13] [] [0, 1, 2, 3, 4, 5, 6, 7, 8, 9, 10, 11, 12, 13] rfl rfl rfl rfl dX1_readRealm_47 50 rfl ?_
    refine v_istore_n X (lv' := [(3, .int o7.1), (2, .int o6.1), (1, .int o5.1), (0, .ref (ad 0))]) dX1_readRealm_50 rfl (by decide) rfl 51 rfl ?_
    refine v_aload_n X dX1_readRealm_51 3 rfl rfl 52 rfl ?_
    obtain ⟨o8, ho8, hf⟩ := bnd hf
    refine v_callVi X (ci := 3) (T := TX1) (C := RX1) (As := []) (rest := []) (ws' := (wX1 ad c9 o8.2.1 o8.2.2.1 o8.2.2.2.1 o8.2.2.2.2.1 o8.2.2.2.2.2.1 o8.2.2.2.2.2.2 p_t_count p_t_cells p_d_time p_d_tolerance p_d_seed p_d_madeTickets p_d_cheesesOfText p_d_R_rows p_d_R_cells p_d_U_rows p_d_U_cells p_d_S_rows p_d_S_cells p_d_T_rows p_d_T_cells p_d_E_rows p_d_E_cells)) (c_X1_clockWord l hG D c9 sk sv hGU ad o7.2.1 o7.2.2.1 o7.2.2.2.1 o7.2.2.2.2.1 o7.2.2.2.2.2.1 o7.2.2.2.2.2.2 p_t_count p_t_cells p_d_time p_d_tolerance p_d_seed p_d_madeTickets p_d_cheesesOfText p_d_R_rows p_d_R_cells p_d_U_rows p_d_U_cells p_d_S_rows p_d_S_cells p_d_T_rows p_d_T_cells p_d_E_rows p_d_E_cells ho8) 0 (gV wc_444 wc_445 wc_446 wc_336 wc_447) rfl rfl rfl ⟨rfl, pd_X1_clockWord⟩ ⟨Nat.le_of_ble_eq_true rfl, Nat.le_of_ble_eq_true rfl⟩ 0 rfl rfl rfl rfl (Nat.le_of_ble_eq_true rfl) ⟨Nat.zero_le _, Nat.zero_le _⟩ [0, 1, 2, 3, 4, 5, 6, 7, 8, 9, 10, 11, 12, 13] [] [0, 1, 2, 3, 4, 5, 6, 7, 8, 9, 10, 11, 12, 13] rfl rfl rfl rfl dX1_readRealm_52 55 rfl ?_
    refine v_istore X (lv' := [(4, .int o8.1), (3, .int o7.1), (2, .int o6.1), (1, .int o5.1), (0, .ref (ad 0))]) dX1_readRealm_55 (by decide) rfl 57 rfl ?_
    refine v_iload X dX1_readRealm_57 0 rfl 59 rfl ?_
    obtain ⟨j9, hj9, hf⟩ := bnd hf
    have Jj9 : vW p l e { frames := 8, cells := 0, slots := 0, locals := 218 } s m args below meth c 6 D A [] 0 0 (MQ below (eV D (tyA c9) A ((wX1 ad c9 o.1 o.2.1 o.2.2.1 o.2.2.2.1 o.2.2.2.2.1 o.2.2.2.2.2.1 p_t_count p_t_cells p_d_time p_d_tolerance p_d_seed p_d_madeTickets p_d_cheesesOfText o.2.2.2.2.2.2.1 o.2.2.2.2.2.2.2 p_d_U_rows p_d_U_cells p_d_S_rows p_d_S_cells p_d_T_rows p_d_T_cells p_d_E_rows p_d_E_cells) ++ [])) args s 0 0 A) (wX1 ad c9 j9.2.1 j9.2.2.1 j9.2.2.2.1 j9.2.2.2.2.1 j9.2.2.2.2.2.1 j9.2.2.2.2.2.2 p_t_count p_t_cells p_d_time p_d_tolerance p_d_seed p_d_madeTickets p_d_cheesesOfText p_d_R_rows p_d_R_cells p_d_U_rows p_d_U_cells p_d_S_rows p_d_S_cells p_d_T_rows p_d_T_cells p_d_E_rows p_d_E_cells) 76 [(0, .ref (ad 0)), (1, .int o5.1), (2, .int o6.1), (3, .int o7.1)] [.int j9.1] := by
      refine v_istore X (lv' := [(5, .int j9.1), (0, .ref (ad 0)), (1, .int o5.1), (2, .int o6.1), (3, .int o7.1)]) dX1_readRealm_76 (by decide) rfl 78 rfl ?_
      refine v_aload_n X dX1_readRealm_78 1 rfl rfl 79 rfl ?_
      refine v_iconst X dX1_readRealm_79 ic_1 80 rfl ?_
      obtain ⟨o11, ho11, hf⟩ := bnd hf
      refine v_callVi X (ci := 3) (T := TX1) (C := RX1) (As := [.int 1]) (rest := []) (ws' := (wX1 ad c9 o11.2.1 o11.2.2.1 o11.2.2.2.1 o11.2.2.2.2.1 o11.2.2.2.2.2.1 o11.2.2.2.2.2.2 p_t_count p_t_cells p_d_time p_d_tolerance p_d_seed p_d_madeTickets p_d_cheesesOfText p_d_R_rows p_d_R_cells p_d_U_rows p_d_U_cells p_d_S_rows p_d_S_cells p_d_T_rows p_d_T_cells p_d_E_rows p_d_E_cells)) (c_X1_semicolon l hG D c9 ad j9.2.1 j9.2.2.1 j9.2.2.2.1 j9.2.2.2.2.1 j9.2.2.2.2.2.1 j9.2.2.2.2.2.2 p_t_count p_t_cells p_d_time p_d_tolerance p_d_seed p_d_madeTickets p_d_cheesesOfText p_d_R_rows p_d_R_cells p_d_U_rows p_d_U_cells p_d_S_rows p_d_S_cells p_d_T_rows p_d_T_cells p_d_E_rows p_d_E_cells 1 ho11) 1 (gV wc_350 wc_351 wc_352 wc_336 wc_353) rfl rfl rfl ⟨rfl, pd_X1_semicolon⟩ ⟨Nat.le_of_ble_eq_true rfl, Nat.le_of_ble_eq_true rfl⟩ 0 rfl rfl rfl rfl (Nat.le_of_ble_eq_true rfl) ⟨Nat.zero_le _, Nat.zero_le _⟩ [0, 1, 2, 3, 4, 5, 6, 7, 8, 9, 10, 11, 12, 13] [] [0, 1, 2, 3, 4, 5, 6, 7, 8, 9, 10, 11, 12, 13] rfl rfl rfl rfl dX1_readRealm_80 83 rfl ?_
      refine v_if_eq X (tgt := 101) dX1_readRealm_83 rfl 86 rfl hf (fun hf => ?_) (fun hf => ?_)
      · obtain rfl := Option.some.inj hf
        exact v_vret X (Nat.zero_le _) (Nat.zero_le _) dX1_readRealm_101
      · refine v_aload_n X dX1_readRealm_86 1 rfl rfl 87 rfl ?_
        refine v_get X (C := RX1) (T := TX1) (N := 8) (ci := 3) (v := _) dX1_readRealm_87 (lay_of layc_X1) 0 rfl rfl 1 (by decide) (mw wc_354) rfl rfl 90 rfl ?_
        refine v_getN X (C := RX5) (T := TX5) (N := 10) (ci := 7) (v := _) dX1_readRealm_90 (lay_of layc_X5) 3 rfl rfl 0 (by decide) nest_RX1_127 rfl rfl 93 rfl ?_
        refine v_iload_n X dX1_readRealm_93 2 rfl rfl 94 rfl ?_
        refine v_iload_n X dX1_readRealm_94 3 rfl rfl 95 rfl ?_
        refine v_iload_n X dX1_readRealm_95 4 rfl rfl 96 rfl ?_
        refine v_iload X dX1_readRealm_96 0 rfl 98 rfl ?_
        obtain ⟨o12, ho12, hf⟩ := bnd hf
        refine v_callVv X (ci := 4) (T := TX2) (C := RX2) (As := [.int o5.1, .int o6.1, .int o7.1, .int j9.1]) (rest := []) (ws' := (wX1 ad c9 o11.2.1 o11.2.2.1 o11.2.2.2.1 o11.2.2.2.2.1 o11.2.2.2.2.2.1 o11.2.2.2.2.2.2 p_t_count p_t_cells p_d_time p_d_tolerance p_d_seed p_d_madeTickets p_d_cheesesOfText o12.1 o12.2 p_d_U_rows p_d_U_cells p_d_S_rows p_d_S_cells p_d_T_rows p_d_T_cells p_d_E_rows p_d_E_cells)) (c_X2_addRealm l hG D c9 (fun k => ad ([4, 5].getD k 0)) p_d_R_rows p_d_R_cells o5.1 o6.1 o7.1 j9.1 ho12) 4 (gV wc_462 wc_463 wc_464 wc_66 wc_465) rfl rfl rfl ⟨rfl, pd_X2_addRealm⟩ ⟨Nat.le_of_ble_eq_true rfl, Nat.le_of_ble_eq_true rfl⟩ 4 rfl rfl rfl rfl (Nat.le_of_ble_eq_true rfl) ⟨Nat.zero_le _, Nat.zero_le _⟩ [4, 5] [0, 1, 2, 3, 6, 7, 8, 9, 10, 11, 12, 13] [0, 1, 2, 3, 12, 13, 4, 5, 6, 7, 8, 9, 10, 11] rfl rfl rfl rfl dX1_readRealm_98 101 rfl ?_
        obtain rfl := Option.some.inj hf
        exact v_vret X (Nat.zero_le _) (Nat.zero_le _) dX1_readRealm_101
    clear hf
    refine v_if_ne X (tgt := 66) dX1_readRealm_59 rfl 62 rfl hj9 (fun hf => ?_) (fun hf => ?_)
    · refine v_iload X dX1_readRealm_66 0 rfl 68 rfl ?_
      refine v_aload_n X dX1_readRealm_68 4 rfl rfl 69 rfl ?_
      refine v_iconst X dX1_readRealm_69 ic_1 70 rfl ?_
      refine v_bipush X dX1_readRealm_70 bp_9 72 rfl ?_
      obtain ⟨o10, ho10, hf⟩ := bnd hf
      refine v_callVi X (ci := 3) (T := TX1) (C := RX1) (As := [.int 1, .int 9]) (rest := [.int o8.1]) (ws' := (wX1 ad c9 o10.2.1 o10.2.2.1 o10.2.2.2.1 o10.2.2.2.2.1 o10.2.2.2.2.2.1 o10.2.2.2.2.2.2 p_t_count p_t_cells p_d_time p_d_tolerance p_d_seed p_d_madeTickets p_d_cheesesOfText p_d_R_rows p_d_R_cells p_d_U_rows p_d_U_cells p_d_S_rows p_d_S_cells p_d_T_rows p_d_T_cells p_d_E_rows p_d_E_cells)) (c_X1_number l hG D c9 ad o8.2.1 o8.2.2.1 o8.2.2.2.1 o8.2.2.2.2.1 o8.2.2.2.2.2.1 o8.2.2.2.2.2.2 p_t_count p_t_cells p_d_time p_d_tolerance p_d_seed p_d_madeTickets p_d_cheesesOfText p_d_R_rows p_d_R_cells p_d_U_rows p_d_U_cells p_d_S_rows p_d_S_cells p_d_T_rows p_d_T_cells p_d_E_rows p_d_E_cells 1 9 ho10) 2 (gV wc_346 wc_347 wc_348 wc_336 wc_349) rfl rfl rfl ⟨rfl, pd_X1_number⟩ ⟨Nat.le_of_ble_eq_true rfl, Nat.le_of_ble_eq_true rfl⟩ 0 rfl rfl rfl rfl (Nat.le_of_ble_eq_true rfl) ⟨Nat.zero_le _, Nat.zero_le _⟩ [0, 1, 2, 3, 4, 5, 6, 7, 8, 9, 10, 11, 12, 13] [] [0, 1, 2, 3, 4, 5, 6, 7, 8, 9, 10, 11, 12, 13] rfl rfl rfl rfl dX1_readRealm_72 75 rfl ?_
      refine v_imul X dX1_readRealm_75 76 rfl ?_
      obtain rfl := Option.some.inj hf
      refine v_sub (lv' := [(0, .ref (ad 0)), (1, .int o5.1), (2, .int o6.1), (3, .int o7.1)]) [4, 3, 2, 1] rfl ?_
      exact Jj9
    · refine v_iconst X dX1_readRealm_62 ic_0 63 rfl ?_
      refine v_goto X (tgt := 76) dX1_readRealm_63 rfl ?_
      obtain rfl := Option.some.inj hf
      refine v_sub (lv' := [(0, .ref (ad 0)), (1, .int o5.1), (2, .int o6.1), (3, .int o7.1)]) [4, 3, 2, 1] rfl ?_
      exact Jj9
  clear hf
  refine v_if_ne X (tgt := 18) dX1_readRealm_11 rfl 14 rfl hj2 (fun hf => ?_) (fun hf => ?_)
  · refine v_iconst X dX1_readRealm_18 ic_0 19 rfl ?_
    obtain rfl := Option.some.inj hf
    exact Jj2
  · refine v_iconst X dX1_readRealm_14 ic_1 15 rfl ?_
    refine v_goto X (tgt := 19) dX1_readRealm_15 rfl ?_
    obtain rfl := Option.some.inj hf
    exact Jj2
theorem pd_X1_readRealm : yX1_readRealm.cls ≠ "java/lang/invoke/MethodHandle" ∧ yX1_readRealm.cls ≠ "java/lang/invoke/VarHandle" ∧ (parseMethodDescriptor yX1_readRealm.desc).map (fun d => d.parameters.length) = some 0 := by decide +kernel
