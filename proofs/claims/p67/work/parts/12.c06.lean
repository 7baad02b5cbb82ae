def f_X1_readCheese (p_start : Int32) (p_end : Int32) (p_kind : Int32) (p_value : Int32) (p_error : Int32) (p_errorAt : Int32) (p_t_count : Int32) (p_t_cells : Nat → Int32) (p_d_time : Int32) (p_d_tolerance : Int32) (p_d_R_rows : Int32) (p_d_R_cells : Nat → Int32) (p_d_U_rows : Int32) (p_d_U_cells : Nat → Int32) (p_d_S_rows : Int32) (p_d_S_cells : Nat → Int32) (p_d_T_rows : Int32) (p_d_T_cells : Nat → Int32) (p_d_E_rows : Int32) (p_d_E_cells : Nat → Int32) : Option (Int32 × Int32 × Int32 × Int32 × Int32 × Int32 × (Nat → Int32) × (Nat → Int32) × Int32 × (Nat → Int32)) :=
  (f_X1_take p_start p_end p_kind p_value p_error p_t_count p_t_cells).bind fun o1 =>
  (f_X1_knownTicket o1.2.1 o1.2.2.1 o1.2.2.2.1 o1.2.2.2.2 p_error p_errorAt p_t_count p_t_cells p_d_T_rows p_d_T_cells).bind fun o2 =>
  (f_X5_whyNoCheese p_d_time p_d_tolerance p_d_R_rows p_d_R_cells p_d_U_rows p_d_U_cells p_d_S_rows p_d_S_cells p_d_T_rows p_d_T_cells p_d_E_rows p_d_E_cells o2.1 0).bind fun o3 =>
  Option.bind (if o3 = 0 then (
    some (1))
  else (
    some (0)) : Option (Int32)) fun j4 =>
  (f_X1_semicolon o2.2.1 o2.2.2.1 o2.2.2.2.1 o2.2.2.2.2.1 o2.2.2.2.2.2.1 o2.2.2.2.2.2.2 p_t_count p_t_cells j4).bind fun o5 =>
  if o5.1 = 0 then (
    some (o5.2.1, o5.2.2.1, o5.2.2.2.1, o5.2.2.2.2.1, o5.2.2.2.2.2.1, o5.2.2.2.2.2.2, p_d_U_cells, p_d_S_cells, p_d_E_rows, p_d_E_cells))
  else (
    (f_X5_giveCheese p_d_time p_d_U_rows p_d_U_cells p_d_S_rows p_d_S_cells p_d_T_rows p_d_T_cells p_d_E_rows p_d_E_cells o2.1).bind fun o6 =>
    some (o5.2.1, o5.2.2.1, o5.2.2.2.1, o5.2.2.2.2.1, o5.2.2.2.2.2.1, o5.2.2.2.2.2.2, o6.2.1, o6.2.2.1, o6.2.2.2.1, o6.2.2.2.2))
set_option maxRecDepth 100000 in
set_option maxHeartbeats 4000000 in
theorem c_X1_readCheese (l : Launch) {G : (Nat → Prop) → State → Heap → Prop} (hG : vG G) (D : va_G) (c9 : Nat → ClassId) (ad : Nat → Nat) (p_start : Int32) (p_end : Int32) (p_kind : Int32) (p_value : Int32) (p_error : Int32) (p_errorAt : Int32) (p_t_count : Int32) (p_t_cells : Nat → Int32) (p_d_time : Int32) (p_d_tolerance : Int32) (p_d_seed : Int32) (p_d_madeTickets : Int32) (p_d_cheesesOfText : Int32) (p_d_R_rows : Int32) (p_d_R_cells : Nat → Int32) (p_d_U_rows : Int32) (p_d_U_cells : Nat → Int32) (p_d_S_rows : Int32) (p_d_S_cells : Nat → Int32) (p_d_T_rows : Int32) (p_d_T_cells : Nat → Int32) (p_d_E_rows : Int32) (p_d_E_cells : Nat → Int32)  {o : Int32 × Int32 × Int32 × Int32 × Int32 × Int32 × (Nat → Int32) × (Nat → Int32) × Int32 × (Nat → Int32)} (hf : f_X1_readCheese p_start p_end p_kind p_value p_error p_errorAt p_t_count p_t_cells p_d_time p_d_tolerance p_d_R_rows p_d_R_cells p_d_U_rows p_d_U_cells p_d_S_rows p_d_S_cells p_d_T_rows p_d_T_cells p_d_E_rows p_d_E_cells = some o) : mV l yX1_readCheese (wq yX1_readCheese cX1_readCheese 2 none) { frames := 4, cells := 0, slots := 0, locals := 109 } G D (tyA c9) [.ref (ad 0)] (wX1 ad c9 p_start p_end p_kind p_value p_error p_errorAt p_t_count p_t_cells p_d_time p_d_tolerance p_d_seed p_d_madeTickets p_d_cheesesOfText p_d_R_rows p_d_R_cells p_d_U_rows p_d_U_cells p_d_S_rows p_d_S_cells p_d_T_rows p_d_T_cells p_d_E_rows p_d_E_cells) [] 0 0 (wX1 ad c9 o.1 o.2.1 o.2.2.1 o.2.2.2.1 o.2.2.2.2.1 o.2.2.2.2.2.1 p_t_count p_t_cells p_d_time p_d_tolerance p_d_seed p_d_madeTickets p_d_cheesesOfText p_d_R_rows p_d_R_cells p_d_U_rows o.2.2.2.2.2.2.1 p_d_S_rows o.2.2.2.2.2.2.2.1 p_d_T_rows p_d_T_cells o.2.2.2.2.2.2.2.2.1 o.2.2.2.2.2.2.2.2.2) := by
  refine mV_of hG (cc := cX1_readCheese) (maxL := 2) (by decide) rfl (Nat.le_of_ble_eq_true rfl) ?_
  intro p e s m args below meth c A hnm X
  have X : vX p s m args meth c cX1_readCheese 2 none RX1 (wq yX1_readCheese cX1_readCheese 2 none) D (tyA c9) G A := X
  refine v_eq (lv2 := [(0, .ref (ad 0))]) rfl rfl rfl rfl ?_
  rw [f_X1_readCheese] at hf
  refine v_aload_n X dX1_readCheese_0 0 rfl rfl 1 rfl ?_
  obtain ⟨o1, ho1, hf⟩ := bnd hf
  refine v_callVi X (ci := 3) (T := TX1) (C := RX1) (As := []) (rest := []) (ws' := (wX1 ad c9 o1.2.1 o1.2.2.1 o1.2.2.2.1 o1.2.2.2.2 p_error p_errorAt p_t_count p_t_cells p_d_time p_d_tolerance p_d_seed p_d_madeTickets p_d_cheesesOfText p_d_R_rows p_d_R_cells p_d_U_rows p_d_U_cells p_d_S_rows p_d_S_cells p_d_T_rows p_d_T_cells p_d_E_rows p_d_E_cells)) (c_X1_take l hG D c9 ad p_start p_end p_kind p_value p_error p_errorAt p_t_count p_t_cells p_d_time p_d_tolerance p_d_seed p_d_madeTickets p_d_cheesesOfText p_d_R_rows p_d_R_cells p_d_U_rows p_d_U_cells p_d_S_rows p_d_S_cells p_d_T_rows p_d_T_cells p_d_E_rows p_d_E_cells ho1) 0 (gV wc_338 wc_339 wc_340 wc_336 wc_341) rfl rfl rfl ⟨rfl, pd_X1_take⟩ ⟨Nat.le_of_ble_eq_true rfl, Nat.le_of_ble_eq_true rfl⟩ 0 rfl rfl rfl rfl (Nat.le_of_ble_eq_true rfl) ⟨Nat.zero_le _, Nat.zero_le _⟩ [0, 1, 2, 3, 4, 5, 6, 7, 8, 9, 10, 11, 12, 13] [] [0, 1, 2, 3, 4, 5, 6, 7, 8, 9, 10, 11, 12, 13] rfl rfl rfl rfl dX1_readCheese_1 4 rfl ?_
  refine v_pop X dX1_readCheese_4 rfl 5 rfl ?_
  refine v_aload_n X dX1_readCheese_5 0 rfl rfl 6 rfl ?_
  obtain ⟨o2, ho2, hf⟩ := bnd hf
  refine v_callVi X (ci := 3) (T := TX1) (C := RX1) (As := []) (rest := []) (ws' := (wX1 ad c9 o2.2.1 o2.2.2.1 o2.2.2.2.1 o2.2.2.2.2.1 o2.2.2.2.2.2.1 o2.2.2.2.2.2.2 p_t_count p_t_cells p_d_time p_d_tolerance p_d_seed p_d_madeTickets p_d_cheesesOfText p_d_R_rows p_d_R_cells p_d_U_rows p_d_U_cells p_d_S_rows p_d_S_cells p_d_T_rows p_d_T_cells p_d_E_rows p_d_E_cells)) (c_X1_knownTicket l hG D c9 ad o1.2.1 o1.2.2.1 o1.2.2.2.1 o1.2.2.2.2 p_error p_errorAt p_t_count p_t_cells p_d_time p_d_tolerance p_d_seed p_d_madeTickets p_d_cheesesOfText p_d_R_rows p_d_R_cells p_d_U_rows p_d_U_cells p_d_S_rows p_d_S_cells p_d_T_rows p_d_T_cells p_d_E_rows p_d_E_cells ho2) 0 (gV wc_371 wc_372 wc_373 wc_336 wc_374) rfl rfl rfl ⟨rfl, pd_X1_knownTicket⟩ ⟨Nat.le_of_ble_eq_true rfl, Nat.le_of_ble_eq_true rfl⟩ 0 rfl rfl rfl rfl (Nat.le_of_ble_eq_true rfl) ⟨Nat.zero_le _, Nat.zero_le _⟩ [0, 1, 2, 3, 4, 5, 6, 7, 8, 9, 10, 11, 12, 13] [] [0, 1, 2, 3, 4, 5, 6, 7, 8, 9, 10, 11, 12, 13] rfl rfl rfl rfl dX1_readCheese_6 9 rfl ?_
  refine v_istore_n X (lv' := [(1, .int o2.1), (0, .ref (ad 0))]) dX1_readCheese_9 rfl (by decide) rfl 10 rfl ?_
  refine v_aload_n X dX1_readCheese_10 1 rfl rfl 11 rfl ?_
  refine v_aload_n X dX1_readCheese_11 1 rfl rfl 12 rfl ?_
  refine v_get X (C := RX1) (T := TX1) (N := 8) (ci := 3) (v := _) dX1_readCheese_12 (lay_of layc_X1) 0 rfl rfl 1 (by decide) (mw wc_354) rfl rfl 15 rfl ?_
  refine v_iload_n X dX1_readCheese_15 0 rfl rfl 16 rfl ?_
  refine v_iconst X dX1_readCheese_16 ic_0 17 rfl ?_
  obtain ⟨o3, ho3, hf⟩ := bnd hf
  refine v_callVi X (ci := 7) (T := TX5) (C := RX5) (As := [.int o2.1, .int 0]) (rest := [.ref (ad 0)]) (ws' := (wX1 ad c9 o2.2.1 o2.2.2.1 o2.2.2.2.1 o2.2.2.2.2.1 o2.2.2.2.2.2.1 o2.2.2.2.2.2.2 p_t_count p_t_cells p_d_time p_d_tolerance p_d_seed p_d_madeTickets p_d_cheesesOfText p_d_R_rows p_d_R_cells p_d_U_rows p_d_U_cells p_d_S_rows p_d_S_cells p_d_T_rows p_d_T_cells p_d_E_rows p_d_E_cells)) (c_X5_whyNoCheese l hG D c9 (fun k => ad ([3, 4, 5, 6, 7, 8, 9, 10, 11, 12, 13].getD k 0)) p_d_time p_d_tolerance p_d_seed p_d_madeTickets p_d_cheesesOfText p_d_R_rows p_d_R_cells p_d_U_rows p_d_U_cells p_d_S_rows p_d_S_cells p_d_T_rows p_d_T_cells p_d_E_rows p_d_E_cells o2.1 0 ho3) 2 (gV wc_376 wc_377 wc_378 wc_233 wc_379) rfl rfl rfl ⟨rfl, pd_X5_whyNoCheese⟩ ⟨Nat.le_of_ble_eq_true rfl, Nat.le_of_ble_eq_true rfl⟩ 3 rfl rfl rfl rfl (Nat.le_of_ble_eq_true rfl) ⟨Nat.zero_le _, Nat.zero_le _⟩ [3, 4, 5, 6, 7, 8, 9, 10, 11, 12, 13] [0, 1, 2] [0, 1, 2, 3, 4, 5, 6, 7, 8, 9, 10, 11, 12, 13] rfl rfl rfl rfl dX1_readCheese_17 20 rfl ?_
  obtain ⟨j4, hj4, hf⟩ := bnd hf
  have Jj4 : vW p l e { frames := 4, cells := 0, slots := 0, locals := 109 } s m args below meth c 2 D A [] 0 0 (MQ below (eV D (tyA c9) A ((wX1 ad c9 o.1 o.2.1 o.2.2.1 o.2.2.2.1 o.2.2.2.2.1 o.2.2.2.2.2.1 p_t_count p_t_cells p_d_time p_d_tolerance p_d_seed p_d_madeTickets p_d_cheesesOfText p_d_R_rows p_d_R_cells p_d_U_rows o.2.2.2.2.2.2.1 p_d_S_rows o.2.2.2.2.2.2.2.1 p_d_T_rows p_d_T_cells o.2.2.2.2.2.2.2.2.1 o.2.2.2.2.2.2.2.2.2) ++ [])) args s 0 0 A) (wX1 ad c9 o2.2.1 o2.2.2.1 o2.2.2.2.1 o2.2.2.2.2.1 o2.2.2.2.2.2.1 o2.2.2.2.2.2.2 p_t_count p_t_cells p_d_time p_d_tolerance p_d_seed p_d_madeTickets p_d_cheesesOfText p_d_R_rows p_d_R_cells p_d_U_rows p_d_U_cells p_d_S_rows p_d_S_cells p_d_T_rows p_d_T_cells p_d_E_rows p_d_E_cells) 28 [(0, .ref (ad 0)), (1, .int o2.1)] [.int j4, .ref (ad 0)] := by
    obtain ⟨o5, ho5, hf⟩ := bnd hf
    refine v_callVi X (ci := 3) (T := TX1) (C := RX1) (As := [.int j4]) (rest := []) (ws' := (wX1 ad c9 o5.2.1 o5.2.2.1 o5.2.2.2.1 o5.2.2.2.2.1 o5.2.2.2.2.2.1 o5.2.2.2.2.2.2 p_t_count p_t_cells p_d_time p_d_tolerance p_d_seed p_d_madeTickets p_d_cheesesOfText p_d_R_rows p_d_R_cells p_d_U_rows p_d_U_cells p_d_S_rows p_d_S_cells p_d_T_rows p_d_T_cells p_d_E_rows p_d_E_cells)) (c_X1_semicolon l hG D c9 ad o2.2.1 o2.2.2.1 o2.2.2.2.1 o2.2.2.2.2.1 o2.2.2.2.2.2.1 o2.2.2.2.2.2.2 p_t_count p_t_cells p_d_time p_d_tolerance p_d_seed p_d_madeTickets p_d_cheesesOfText p_d_R_rows p_d_R_cells p_d_U_rows p_d_U_cells p_d_S_rows p_d_S_cells p_d_T_rows p_d_T_cells p_d_E_rows p_d_E_cells j4 ho5) 1 (gV wc_350 wc_351 wc_352 wc_336 wc_353) rfl rfl rfl ⟨rfl, pd_X1_semicolon⟩ ⟨Nat.le_of_ble_eq_true rfl, Nat.le_of_ble_eq_true rfl⟩ 0 rfl rfl rfl rfl (Nat.le_of_ble_eq_true rfl) ⟨Nat.zero_le _, Nat.zero_le _⟩ [0, 1, 2, 3, 4, 5, 6, 7, 8, 9, 10, 11, 12, 13] [] [0, 1, 2, 3, 4, 5, 6, 7, 8, 9, 10, 11, 12, 13] rfl rfl rfl rfl dX1_readCheese_28 31 rfl ?_
    refine v_if_eq X (tgt := 43) dX1_readCheese_31 rfl 34 rfl hf (fun hf => ?_) (fun hf => ?_)
    · obtain rfl := Option.some.inj hf
      exact v_vret X (Nat.zero_le _) (Nat.zero_le _) dX1_readCheese_43
    · refine v_aload_n X dX1_readCheese_34 0 rfl rfl 35 rfl ?_
      refine v_get X (C := RX1) (T := TX1) (N := 8) (ci := 3) (v := _) dX1_readCheese_35 (lay_of layc_X1) 0 rfl rfl 1 (by decide) (mw wc_354) rfl rfl 38 rfl ?_
      refine v_iload_n X dX1_readCheese_38 1 rfl rfl 39 rfl ?_
      obtain ⟨o6, ho6, hf⟩ := bnd hf
      refine v_callVi X (ci := 7) (T := TX5) (C := RX5) (As := [.int o2.1]) (rest := []) (ws' := (wX1 ad c9 o5.2.1 o5.2.2.1 o5.2.2.2.1 o5.2.2.2.2.1 o5.2.2.2.2.2.1 o5.2.2.2.2.2.2 p_t_count p_t_cells p_d_time p_d_tolerance p_d_seed p_d_madeTickets p_d_cheesesOfText p_d_R_rows p_d_R_cells p_d_U_rows o6.2.1 p_d_S_rows o6.2.2.1 p_d_T_rows p_d_T_cells o6.2.2.2.1 o6.2.2.2.2)) (c_X5_giveCheese l hG D c9 (fun k => ad ([3, 4, 5, 6, 7, 8, 9, 10, 11, 12, 13].getD k 0)) p_d_time p_d_tolerance p_d_seed p_d_madeTickets p_d_cheesesOfText p_d_R_rows p_d_R_cells p_d_U_rows p_d_U_cells p_d_S_rows p_d_S_cells p_d_T_rows p_d_T_cells p_d_E_rows p_d_E_cells o2.1 ho6) 1 (gV wc_380 wc_381 wc_382 wc_233 wc_383) rfl rfl rfl ⟨rfl, pd_X5_giveCheese⟩ ⟨Nat.le_of_ble_eq_true rfl, Nat.le_of_ble_eq_true rfl⟩ 3 rfl rfl rfl rfl (Nat.le_of_ble_eq_true rfl) ⟨Nat.zero_le _, Nat.zero_le _⟩ [3, 4, 5, 6, 7, 8, 9, 10, 11, 12, 13] [0, 1, 2] [0, 1, 2, 3, 4, 5, 6, 7, 8, 9, 10, 11, 12, 13] rfl rfl rfl rfl dX1_readCheese_39 42 rfl ?_
      refine v_pop X dX1_readCheese_42 rfl 43 rfl ?_
      obtain rfl := Option.some.inj hf
      exact v_vret X (Nat.zero_le _) (Nat.zero_le _) dX1_readCheese_43
  clear hf
  refine v_if_ne X (tgt := 27) dX1_readCheese_20 rfl 23 rfl hj4 (fun hf => ?_) (fun hf => ?_)
  · refine v_iconst X dX1_readCheese_27 ic_0 28 rfl ?_
    obtain rfl := Option.some.inj hf
    refine v_sub (lv' := [(0, .ref (ad 0)), (1, .int o2.1)]) [1, 0] rfl ?_
    exact Jj4
  · refine v_iconst X dX1_readCheese_23 ic_1 24 rfl ?_
    refine v_goto X (tgt := 28) dX1_readCheese_24 rfl ?_
    obtain rfl := Option.some.inj hf
    refine v_sub (lv' := [(0, .ref (ad 0)), (1, .int o2.1)]) [1, 0] rfl ?_
    exact Jj4
theorem pd_X1_readCheese : yX1_readCheese.cls ≠ "java/lang/invoke/MethodHandle" ∧ yX1_readCheese.cls ≠ "java/lang/invoke/VarHandle" ∧ (parseMethodDescriptor yX1_readCheese.desc).map (fun d => d.parameters.length) = some 0 := by decide +kernel
def f_X1_readRenew (p_start : Int32) (p_end : Int32) (p_kind : Int32) (p_value : Int32) (p_error : Int32) (p_errorAt : Int32) (p_t_count : Int32) (p_t_cells : Nat → Int32) (p_d_time : Int32) (p_d_seed : Int32) (p_d_R_rows : Int32) (p_d_R_cells : Nat → Int32) (p_d_T_rows : Int32) (p_d_T_cells : Nat → Int32) : Option (Int32 × Int32 × Int32 × Int32 × Int32 × Int32 × Int32 × (Nat → Int32)) :=
  (f_X1_take p_start p_end p_kind p_value p_error p_t_count p_t_cells).bind fun o1 =>
  (f_X1_knownTicket o1.2.1 o1.2.2.1 o1.2.2.2.1 o1.2.2.2.2 p_error p_errorAt p_t_count p_t_cells p_d_T_rows p_d_T_cells).bind fun o2 =>
  (f_X5_whyNoRenewal p_d_time p_d_R_rows p_d_R_cells p_d_T_rows p_d_T_cells o2.1).bind fun o3 =>
  Option.bind (if o3 = 0 then (
    some (1))
  else (
    some (0)) : Option (Int32)) fun j4 =>
  (f_X1_semicolon o2.2.1 o2.2.2.1 o2.2.2.2.1 o2.2.2.2.2.1 o2.2.2.2.2.2.1 o2.2.2.2.2.2.2 p_t_count p_t_cells j4).bind fun o5 =>
  if o5.1 = 0 then (
    some (o5.2.1, o5.2.2.1, o5.2.2.2.1, o5.2.2.2.2.1, o5.2.2.2.2.2.1, o5.2.2.2.2.2.2, p_d_seed, p_d_T_cells))
  else (
    (f_X5_makeRenewal p_d_time p_d_seed p_d_R_rows p_d_R_cells p_d_T_rows p_d_T_cells o2.1).bind fun o6 =>
    some (o5.2.1, o5.2.2.1, o5.2.2.2.1, o5.2.2.2.2.1, o5.2.2.2.2.2.1, o5.2.2.2.2.2.2, o6.2.1, o6.2.2))
set_option maxRecDepth 100000 in
set_option maxHeartbeats 4000000 in
theorem c_X1_readRenew (l : Launch) {G : (Nat → Prop) → State → Heap → Prop} (hG : vG G) (D : va_G) (c9 : Nat → ClassId) (ad : Nat → Nat) (p_start : Int32) (p_end : Int32) (p_kind : Int32) (p_value : Int32) (p_error : Int32) (p_errorAt : Int32) (p_t_count : Int32) (p_t_cells : Nat → Int32) (p_d_time : Int32) (p_d_tolerance : Int32) (p_d_seed : Int32) (p_d_madeTickets : Int32) (p_d_cheesesOfText : Int32) (p_d_R_rows : Int32) (p_d_R_cells : Nat → Int32) (p_d_U_rows : Int32) (p_d_U_cells : Nat → Int32) (p_d_S_rows : Int32) (p_d_S_cells : Nat → Int32) (p_d_T_rows : Int32) (p_d_T_cells : Nat → Int32) (p_d_E_rows : Int32) (p_d_E_cells : Nat → Int32)  {o : Int32 × Int32 × Int32 × Int32 × Int32 × Int32 × Int32 × (Nat → Int32)} (hf : f_X1_readRenew p_start p_end p_kind p_value p_error p_errorAt p_t_count p_t_cells p_d_time p_d_seed p_d_R_rows p_d_R_cells p_d_T_rows p_d_T_cells = some o) : mV l yX1_readRenew (wq yX1_readRenew cX1_readRenew 2 none) { frames := 4, cells := 0, slots := 0, locals := 107 } G D (tyA c9) [.ref (ad 0)] (wX1 ad c9 p_start p_end p_kind p_value p_error p_errorAt p_t_count p_t_cells p_d_time p_d_tolerance p_d_seed p_d_madeTickets p_d_cheesesOfText p_d_R_rows p_d_R_cells p_d_U_rows p_d_U_cells p_d_S_rows p_d_S_cells p_d_T_rows p_d_T_cells p_d_E_rows p_d_E_cells) [] 0 0 (wX1 ad c9 o.1 o.2.1 o.2.2.1 o.2.2.2.1 o.2.2.2.2.1 o.2.2.2.2.2.1 p_t_count p_t_cells p_d_time p_d_tolerance o.2.2.2.2.2.2.1 p_d_madeTickets p_d_cheesesOfText p_d_R_rows p_d_R_cells p_d_U_rows p_d_U_cells p_d_S_rows p_d_S_cells p_d_T_rows o.2.2.2.2.2.2.2 p_d_E_rows p_d_E_cells) := by
  refine mV_of hG (cc := cX1_readRenew) (maxL := 2) (by decide) rfl (Nat.le_of_ble_eq_true rfl) ?_
  intro p e s m args below meth c A hnm X
  have X : vX p s m args meth c cX1_readRenew 2 none RX1 (wq yX1_readRenew cX1_readRenew 2 none) D (tyA c9) G A := X
  refine v_eq (lv2 := [(0, .ref (ad 0))]) rfl rfl rfl rfl ?_
  rw [f_X1_readRenew] at hf
  refine v_aload_n X dX1_readRenew_0 0 rfl rfl 1 rfl ?_
  obtain ⟨o1, ho1, hf⟩ := bnd hf
  refine v_callVi X (ci := 3) (T := TX1) (C := RX1) (As := []) (rest := []) (ws' := (wX1 ad c9 o1.2.1 o1.2.2.1 o1.2.2.2.1 o1.2.2.2.2 p_error p_errorAt p_t_count p_t_cells p_d_time p_d_tolerance p_d_seed p_d_madeTickets p_d_cheesesOfText p_d_R_rows p_d_R_cells p_d_U_rows p_d_U_cells p_d_S_rows p_d_S_cells p_d_T_rows p_d_T_cells p_d_E_rows p_d_E_cells)) (c_X1_take l hG D c9 ad p_start p_end p_kind p_value p_error p_errorAt p_t_count p_t_cells p_d_time p_d_tolerance p_d_seed p_d_madeTickets p_d_cheesesOfText p_d_R_rows p_d_R_cells p_d_U_rows p_d_U_cells p_d_S_rows p_d_S_cells p_d_T_rows p_d_T_cells p_d_E_rows p_d_E_cells ho1) 0 (gV wc_338 wc_339 wc_340 wc_336 wc_341) rfl rfl rfl ⟨rfl, pd_X1_take⟩ ⟨Nat.le_of_ble_eq_true rfl, Nat.le_of_ble_eq_true rfl⟩ 0 rfl rfl rfl rfl (Nat.le_of_ble_eq_true rfl) ⟨Nat.zero_le _, Nat.zero_le _⟩ [0, 1, 2, 3, 4, 5, 6, 7, 8, 9, 10, 11, 12, 13] [] [0, 1, 2, 3, 4, 5, 6, 7, 8, 9, 10, 11, 12, 13] rfl rfl rfl rfl dX1_readRenew_1 4 rfl ?_
  refine v_pop X dX1_readRenew_4 rfl 5 rfl ?_
  refine v_aload_n X dX1_readRenew_5 0 rfl rfl 6 rfl ?_
  obtain ⟨o2, ho2, hf⟩ := bnd hf
  refine v_callVi X (ci := 3) (T := TX1) (C := RX1) (As := []) (rest := []) (ws' := (wX1 ad c9 o2.2.1 o2.2.2.1 o2.2.2.2.1 o2.2.2.2.2.1 o2.2.2.2.2.2.1 o2.2.2.2.2.2.2 p_t_count p_t_cells p_d_time p_d_tolerance p_d_seed p_d_madeTickets p_d_cheesesOfText p_d_R_rows p_d_R_cells p_d_U_rows p_d_U_cells p_d_S_rows p_d_S_cells p_d_T_rows p_d_T_cells p_d_E_rows p_d_E_cells)) (c_X1_knownTicket l hG D c9 ad o1.2.1 o1.2.2.1 o1.2.2.2.1 o1.2.2.2.2 p_error p_errorAt p_t_count p_t_cells p_d_time p_d_tolerance p_d_seed p_d_madeTickets p_d_cheesesOfText p_d_R_rows p_d_R_cells p_d_U_rows p_d_U_cells p_d_S_rows p_d_S_cells p_d_T_rows p_d_T_cells p_d_E_rows p_d_E_cells ho2) 0 (gV wc_371 wc_372 wc_373 wc_336 wc_374) rfl rfl rfl ⟨rfl, pd_X1_knownTicket⟩ ⟨Nat.le_of_ble_eq_true rfl, Nat.le_of_ble_eq_true rfl⟩ 0 rfl rfl rfl rfl (Nat.le_of_ble_eq_true rfl) ⟨Nat.zero_le _, Nat.zero_le _⟩ [0, 1, 2, 3, 4, 5, 6, 7, 8, 9, 10, 11, 12, 13] [] [0, 1, 2, 3, 4, 5, 6, 7, 8, 9, 10, 11, 12, 13] rfl rfl rfl rfl dX1_readRenew_6 9 rfl ?_
  refine v_istore_n X (lv' := [(1, .int o2.1), (0, .ref (ad 0))]) dX1_readRenew_9 rfl (by decide) rfl 10 rfl ?_
  refine v_aload_n X dX1_readRenew_10 1 rfl rfl 11 rfl ?_
  refine v_aload_n X dX1_readRenew_11 1 rfl rfl 12 rfl ?_
  refine v_get X (C := RX1) (T := TX1) (N := 8) (ci := 3) (v := _) dX1_readRenew_12 (lay_of layc_X1) 0 rfl rfl 1 (by decide) (mw wc_354) rfl rfl 15 rfl ?_
  refine v_iload_n X dX1_readRenew_15 0 rfl rfl 16 rfl ?_
  obtain ⟨o3, ho3, hf⟩ := bnd hf
  refine v_callVi X (ci := 7) (T := TX5) (C := RX5) (As := [.int o2.1]) (rest := [.ref (ad 0)]) (ws' := (wX1 ad c9 o2.2.1 o2.2.2.1 o2.2.2.2.1 o2.2.2.2.2.1 o2.2.2.2.2.2.1 o2.2.2.2.2.2.2 p_t_count p_t_cells p_d_time p_d_tolerance p_d_seed p_d_madeTickets p_d_cheesesOfText p_d_R_rows p_d_R_cells p_d_U_rows p_d_U_cells p_d_S_rows p_d_S_cells p_d_T_rows p_d_T_cells p_d_E_rows p_d_E_cells)) (c_X5_whyNoRenewal l hG D c9 (fun k => ad ([3, 4, 5, 6, 7, 8, 9, 10, 11, 12, 13].getD k 0)) p_d_time p_d_tolerance p_d_seed p_d_madeTickets p_d_cheesesOfText p_d_R_rows p_d_R_cells p_d_U_rows p_d_U_cells p_d_S_rows p_d_S_cells p_d_T_rows p_d_T_cells p_d_E_rows p_d_E_cells o2.1 ho3) 1 (gV wc_384 wc_385 wc_386 wc_233 wc_387) rfl rfl rfl ⟨rfl, pd_X5_whyNoRenewal⟩ ⟨Nat.le_of_ble_eq_true rfl, Nat.le_of_ble_eq_true rfl⟩ 3 rfl rfl rfl rfl (Nat.le_of_ble_eq_true rfl) ⟨Nat.zero_le _, Nat.zero_le _⟩ [3, 4, 5, 6, 7, 8, 9, 10, 11, 12, 13] [0, 1, 2] [0, 1, 2, 3, 4, 5, 6, 7, 8, 9, 10, 11, 12, 13] rfl rfl rfl rfl dX1_readRenew_16 19 rfl ?_
  obtain ⟨j4, hj4, hf⟩ := bnd hf
  have Jj4 : vW p l e { frames := 4, cells := 0, slots := 0, locals := 107 } s m args below meth c 2 D A [] 0 0 (MQ below (eV D (tyA c9) A ((wX1 ad c9 o.1 o.2.1 o.2.2.1 o.2.2.2.1 o.2.2.2.2.1 o.2.2.2.2.2.1 p_t_count p_t_cells p_d_time p_d_tolerance o.2.2.2.2.2.2.1 p_d_madeTickets p_d_cheesesOfText p_d_R_rows p_d_R_cells p_d_U_rows p_d_U_cells p_d_S_rows p_d_S_cells p_d_T_rows o.2.2.2.2.2.2.2 p_d_E_rows p_d_E_cells) ++ [])) args s 0 0 A) (wX1 ad c9 o2.2.1 o2.2.2.1 o2.2.2.2.1 o2.2.2.2.2.1 o2.2.2.2.2.2.1 o2.2.2.2.2.2.2 p_t_count p_t_cells p_d_time p_d_tolerance p_d_seed p_d_madeTickets p_d_cheesesOfText p_d_R_rows p_d_R_cells p_d_U_rows p_d_U_cells p_d_S_rows p_d_S_cells p_d_T_rows p_d_T_cells p_d_E_rows p_d_E_cells) 27 [(0, .ref (ad 0)), (1, .int o2.1)] [.int j4, .ref (ad 0)] := by
    obtain ⟨o5, ho5, hf⟩ := bnd hf
    refine v_callVi X (ci := 3) (T := TX1) (C := RX1) (As := [.int j4]) (rest := []) (ws' := (wX1 ad c9 o5.2.1 o5.2.2.1 o5.2.2.2.1 o5.2.2.2.2.1 o5.2.2.2.2.2.1 o5.2.2.2.2.2.2 p_t_count p_t_cells p_d_time p_d_tolerance p_d_seed p_d_madeTickets p_d_cheesesOfText p_d_R_rows p_d_R_cells p_d_U_rows p_d_U_cells p_d_S_rows p_d_S_cells p_d_T_rows p_d_T_cells p_d_E_rows p_d_E_cells)) (c_X1_semicolon l hG D c9 ad o2.2.1 o2.2.2.1 o2.2.2.2.1 o2.2.2.2.2.1 o2.2.2.2.2.2.1 o2.2.2.2.2.2.2 p_t_count p_t_cells p_d_time p_d_tolerance p_d_seed p_d_madeTickets p_d_cheesesOfText p_d_R_rows p_d_R_cells p_d_U_rows p_d_U_cells p_d_S_rows p_d_S_cells p_d_T_rows p_d_T_cells p_d_E_rows p_d_E_cells j4 ho5) 1 (gV wc_350 wc_351 wc_352 wc_336 wc_353) rfl rfl rfl ⟨rfl, pd_X1_semicolon⟩ ⟨Nat.le_of_ble_eq_true rfl, Nat.le_of_ble_eq_true rfl⟩ 0 rfl rfl rfl rfl (Nat.le_of_ble_eq_true rfl) ⟨Nat.zero_le _, Nat.zero_le _⟩ [0, 1, 2, 3, 4, 5, 6, 7, 8, 9, 10, 11, 12, 13] [] [0, 1, 2, 3, 4, 5, 6, 7, 8, 9, 10, 11, 12, 13] rfl rfl rfl rfl dX1_readRenew_27 30 rfl ?_
    refine v_if_eq X (tgt := 42) dX1_readRenew_30 rfl 33 rfl hf (fun hf => ?_) (fun hf => ?_)
    · obtain rfl := Option.some.inj hf
      exact v_vret X (Nat.zero_le _) (Nat.zero_le _) dX1_readRenew_42
    · refine v_aload_n X dX1_readRenew_33 0 rfl rfl 34 rfl ?_
      refine v_get X (C := RX1) (T := TX1) (N := 8) (ci := 3) (v := _) dX1_readRenew_34 (lay_of layc_X1) 0 rfl rfl 1 (by decide) (mw wc_354) rfl rfl 37 rfl ?_
      refine v_iload_n X dX1_readRenew_37 1 rfl rfl 38 rfl ?_
      obtain ⟨o6, ho6, hf⟩ := bnd hf
      refine v_callVi X (ci := 7) (T := TX5) (C := RX5) (As := [.int o2.1]) (rest := []) (ws' := (wX1 ad c9 o5.2.1 o5.2.2.1 o5.2.2.2.1 o5.2.2.2.2.1 o5.2.2.2.2.2.1 o5.2.2.2.2.2.2 p_t_count p_t_cells p_d_time p_d_tolerance o6.2.1 p_d_madeTickets p_d_cheesesOfText p_d_R_rows p_d_R_cells p_d_U_rows p_d_U_cells p_d_S_rows p_d_S_cells p_d_T_rows o6.2.2 p_d_E_rows p_d_E_cells)) (c_X5_makeRenewal l hG D c9 (fun k => ad ([3, 4, 5, 6, 7, 8, 9, 10, 11, 12, 13].getD k 0)) p_d_time p_d_tolerance p_d_seed p_d_madeTickets p_d_cheesesOfText p_d_R_rows p_d_R_cells p_d_U_rows p_d_U_cells p_d_S_rows p_d_S_cells p_d_T_rows p_d_T_cells p_d_E_rows p_d_E_cells o2.1 ho6) 1 (gV wc_388 wc_389 wc_390 wc_233 wc_391) rfl rfl rfl ⟨rfl, pd_X5_makeRenewal⟩ ⟨Nat.le_of_ble_eq_true rfl, Nat.le_of_ble_eq_true rfl⟩ 3 rfl rfl rfl rfl (Nat.le_of_ble_eq_true rfl) ⟨Nat.zero_le _, Nat.zero_le _⟩ [3, 4, 5, 6, 7, 8, 9, 10, 11, 12, 13] [0, 1, 2] [0, 1, 2, 3, 4, 5, 6, 7, 8, 9, 10, 11, 12, 13] rfl rfl rfl rfl dX1_readRenew_38 41 rfl ?_
      refine v_pop X dX1_readRenew_41 rfl 42 rfl ?_
      obtain rfl := Option.some.inj hf
      exact v_vret X (Nat.zero_le _) (Nat.zero_le _) dX1_readRenew_42
  clear hf
  refine v_if_ne X (tgt := 26) dX1_readRenew_19 rfl 22 rfl hj4 (fun hf => ?_) (fun hf => ?_)
  · refine v_iconst X dX1_readRenew_26 ic_0 27 rfl ?_
    obtain rfl := Option.some.inj hf
    refine v_sub (lv' := [(0, .ref (ad 0)), (1, .int o2.1)]) [1, 0] rfl ?_
    exact Jj4
  · refine v_iconst X dX1_readRenew_22 ic_1 23 rfl ?_
    refine v_goto X (tgt := 27) dX1_readRenew_23 rfl ?_
    obtain rfl := Option.some.inj hf
    refine v_sub (lv' := [(0, .ref (ad 0)), (1, .int o2.1)]) [1, 0] rfl ?_
    exact Jj4
theorem pd_X1_readRenew : yX1_readRenew.cls ≠ "java/lang/invoke/MethodHandle" ∧ yX1_readRenew.cls ≠ "java/lang/invoke/VarHandle" ∧ (parseMethodDescriptor yX1_readRenew.desc).map (fun d => d.parameters.length) = some 0 := by decide +kernel
theorem pd_X6_rowWith_UX1_knownName_247 : "TicketGate$Table" ≠ "java/lang/invoke/MethodHandle" ∧ "TicketGate$Table" ≠ "java/lang/invoke/VarHandle" ∧ (parseMethodDescriptor "(II)I").map (fun d => d.parameters.length) = some 2 := by decide +kernel
def f_X1_knownName_services (p_start : Int32) (p_end : Int32) (p_kind : Int32) (p_value : Int32) (p_error : Int32) (p_errorAt : Int32) (p_t_count : Int32) (p_t_cells : Nat → Int32) (p_d_S_rows : Int32) (p_d_S_cells : Nat → Int32) (v2 : Int32) : Option (Int32 × Int32 × Int32 × Int32 × Int32 × Int32 × Int32) :=
  (f_X6_rowWith 18 3 p_d_S_rows p_d_S_cells v2 p_value).bind fun o1 =>
  Option.bind (if p_kind = 1 then (
    some (1))
  else (
    some (0)) : Option (Int32)) fun j2 =>
  (f_X1_require p_start p_error p_errorAt j2 1).bind fun o3 =>
  Option.bind (if o1 = (-1) then (
    some (0))
  else (
    some (1)) : Option (Int32)) fun j4 =>
  (f_X1_require p_start o3.1 o3.2 j4 4).bind fun o5 =>
  (f_X1_take p_start p_end p_kind p_value o5.1 p_t_count p_t_cells).bind fun o6 =>
  some (o1, o6.2.1, o6.2.2.1, o6.2.2.2.1, o6.2.2.2.2, o5.1, o5.2)
set_option maxRecDepth 100000 in
set_option maxHeartbeats 4000000 in
theorem c_X1_knownName_services (l : Launch) {G : (Nat → Prop) → State → Heap → Prop} (hG : vG G) (D : va_G) (c9 : Nat → ClassId) (ad : Nat → Nat) (p_start : Int32) (p_end : Int32) (p_kind : Int32) (p_value : Int32) (p_error : Int32) (p_errorAt : Int32) (p_t_count : Int32) (p_t_cells : Nat → Int32) (p_d_time : Int32) (p_d_tolerance : Int32) (p_d_seed : Int32) (p_d_madeTickets : Int32) (p_d_cheesesOfText : Int32) (p_d_R_rows : Int32) (p_d_R_cells : Nat → Int32) (p_d_U_rows : Int32) (p_d_U_cells : Nat → Int32) (p_d_S_rows : Int32) (p_d_S_cells : Nat → Int32) (p_d_T_rows : Int32) (p_d_T_cells : Nat → Int32) (p_d_E_rows : Int32) (p_d_E_cells : Nat → Int32) (v2 : Int32) {o : Int32 × Int32 × Int32 × Int32 × Int32 × Int32 × Int32} (hf : f_X1_knownName_services p_start p_end p_kind p_value p_error p_errorAt p_t_count p_t_cells p_d_S_rows p_d_S_cells v2 = some o) : mI l yX1_knownName (wq yX1_knownName cX1_knownName 4 (some .int)) { frames := 3, cells := 0, slots := 0, locals := 86 } G D (tyA c9) [.ref (ad 0), .ref (ad 8), .int v2] (wX1 ad c9 p_start p_end p_kind p_value p_error p_errorAt p_t_count p_t_cells p_d_time p_d_tolerance p_d_seed p_d_madeTickets p_d_cheesesOfText p_d_R_rows p_d_R_cells p_d_U_rows p_d_U_cells p_d_S_rows p_d_S_cells p_d_T_rows p_d_T_cells p_d_E_rows p_d_E_cells) [] 0 0 o.1 (wX1 ad c9 o.2.1 o.2.2.1 o.2.2.2.1 o.2.2.2.2.1 o.2.2.2.2.2.1 o.2.2.2.2.2.2 p_t_count p_t_cells p_d_time p_d_tolerance p_d_seed p_d_madeTickets p_d_cheesesOfText p_d_R_rows p_d_R_cells p_d_U_rows p_d_U_cells p_d_S_rows p_d_S_cells p_d_T_rows p_d_T_cells p_d_E_rows p_d_E_cells) := by
  refine mI_of hG (cc := cX1_knownName) (maxL := 4) (ty := .int) (by decide) rfl (Nat.le_of_ble_eq_true rfl) ?_
  intro p e s m args below meth c A X
  have X : vX p s m args meth c cX1_knownName 4 (some .int) RX1 (wq yX1_knownName cX1_knownName 4 (some .int)) D (tyA c9) G A := X
  refine v_eq (lv2 := [(0, .ref (ad 0)), (1, .ref (ad 8)), (2, .int v2)]) rfl rfl rfl rfl ?_
  rw [f_X1_knownName_services] at hf
  refine v_aload_n X dX1_knownName_0 1 rfl rfl 1 rfl ?_
  refine v_iload_n X dX1_knownName_1 2 rfl rfl 2 rfl ?_
  refine v_aload_n X dX1_knownName_2 0 rfl rfl 3 rfl ?_
  refine v_get X (C := RX1) (T := TX1) (N := 8) (ci := 3) (v := _) dX1_knownName_3 (lay_of layc_X1) 0 rfl rfl 5 (by decide) (mw wc_305) rfl rfl 6 rfl ?_
  obtain ⟨o1, ho1, hf⟩ := bnd hf
  refine v_callUi X (ci := 5) (T := TX3) (C := RX3) (owner := "TicketGate$Table") (As := [.int v2, .int p_value]) (rest := []) (ws' := (wX1 ad c9 p_start p_end p_kind p_value p_error p_errorAt p_t_count p_t_cells p_d_time p_d_tolerance p_d_seed p_d_madeTickets p_d_cheesesOfText p_d_R_rows p_d_R_cells p_d_U_rows p_d_U_cells p_d_S_rows p_d_S_cells p_d_T_rows p_d_T_cells p_d_E_rows p_d_E_cells)) (c_X6_rowWith l hG D c9 (fun k => ad ([8, 9].getD k 0)) 18 5 RX3 rfl layc_X3 wc_218 6 3 p_d_S_rows p_d_S_cells v2 p_value ho1) 2 (gU wc_392 wc_393 wc_394 wc_212 wc_34 wc_213) rfl rfl rfl rfl pd_X6_rowWith_UX1_knownName_247 ⟨Nat.le_of_ble_eq_true rfl, Nat.le_of_ble_eq_true rfl⟩ 8 rfl rfl rfl rfl (Nat.le_of_ble_eq_true rfl) ⟨Nat.zero_le _, Nat.zero_le _⟩ [8, 9] [0, 1, 2, 3, 4, 5, 6, 7, 10, 11, 12, 13] [0, 1, 2, 3, 4, 5, 6, 7, 12, 13, 8, 9, 10, 11] rfl rfl rfl rfl dX1_knownName_6 9 rfl ?_
  refine v_istore_n X (lv' := [(3, .int o1), (0, .ref (ad 0)), (1, .ref (ad 8)), (2, .int v2)]) dX1_knownName_9 rfl (by decide) rfl 10 rfl ?_
  refine v_aload_n X dX1_knownName_10 1 rfl rfl 11 rfl ?_
  refine v_aload_n X dX1_knownName_11 1 rfl rfl 12 rfl ?_
  refine v_get X (C := RX1) (T := TX1) (N := 8) (ci := 3) (v := _) dX1_knownName_12 (lay_of layc_X1) 0 rfl rfl 4 (by decide) (mw wc_315) rfl rfl 15 rfl ?_
  refine v_iconst X dX1_knownName_15 ic_1 16 rfl ?_
  obtain ⟨j2, hj2, hf⟩ := bnd hf
  have Jj2 : vW p l e { frames := 3, cells := 0, slots := 0, locals := 86 } s m args below meth c 4 D A [] 0 0 (MQ below (eI D (tyA c9) A o.1 ((wX1 ad c9 o.2.1 o.2.2.1 o.2.2.2.1 o.2.2.2.2.1 o.2.2.2.2.2.1 o.2.2.2.2.2.2 p_t_count p_t_cells p_d_time p_d_tolerance p_d_seed p_d_madeTickets p_d_cheesesOfText p_d_R_rows p_d_R_cells p_d_U_rows p_d_U_cells p_d_S_rows p_d_S_cells p_d_T_rows p_d_T_cells p_d_E_rows p_d_E_cells) ++ [])) args s 0 0 A) (wX1 ad c9 p_start p_end p_kind p_value p_error p_errorAt p_t_count p_t_cells p_d_time p_d_tolerance p_d_seed p_d_madeTickets p_d_cheesesOfText p_d_R_rows p_d_R_cells p_d_U_rows p_d_U_cells p_d_S_rows p_d_S_cells p_d_T_rows p_d_T_cells p_d_E_rows p_d_E_cells) 24 [(0, .ref (ad 0)), (3, .int o1)] [.int j2, .ref (ad 0)] := by
    refine v_iconst X dX1_knownName_24 ic_1 25 rfl ?_
    obtain ⟨o3, ho3, hf⟩ := bnd hf
    refine v_callVv X (ci := 3) (T := TX1) (C := RX1) (As := [.int j2, .int 1]) (rest := []) (ws' := (wX1 ad c9 p_start p_end p_kind p_value o3.1 o3.2 p_t_count p_t_cells p_d_time p_d_tolerance p_d_seed p_d_madeTickets p_d_cheesesOfText p_d_R_rows p_d_R_cells p_d_U_rows p_d_U_cells p_d_S_rows p_d_S_cells p_d_T_rows p_d_T_cells p_d_E_rows p_d_E_cells)) (c_X1_require l hG D c9 ad p_start p_end p_kind p_value p_error p_errorAt p_t_count p_t_cells p_d_time p_d_tolerance p_d_seed p_d_madeTickets p_d_cheesesOfText p_d_R_rows p_d_R_cells p_d_U_rows p_d_U_cells p_d_S_rows p_d_S_cells p_d_T_rows p_d_T_cells p_d_E_rows p_d_E_cells j2 1 ho3) 2 (gV wc_333 wc_334 wc_335 wc_336 wc_337) rfl rfl rfl ⟨rfl, pd_X1_require⟩ ⟨Nat.le_of_ble_eq_true rfl, Nat.le_of_ble_eq_true rfl⟩ 0 rfl rfl rfl rfl (Nat.le_of_ble_eq_true rfl) ⟨Nat.zero_le _, Nat.zero_le _⟩ [0, 1, 2, 3, 4, 5, 6, 7, 8, 9, 10, 11, 12, 13] [] [0, 1, 2, 3, 4, 5, 6, 7, 8, 9, 10, 11, 12, 13] rfl rfl rfl rfl dX1_knownName_25 28 rfl ?_
    refine v_aload_n X dX1_knownName_28 0 rfl rfl 29 rfl ?_
    refine v_iload_n X dX1_knownName_29 1 rfl rfl 30 rfl ?_
    refine v_iconst X dX1_knownName_30 ic_m1 31 rfl ?_
    obtain ⟨j4, hj4, hf⟩ := bnd hf
    have Jj4 : vW p l e { frames := 3, cells := 0, slots := 0, locals := 86 } s m args below meth c 4 D A [] 0 0 (MQ below (eI D (tyA c9) A o.1 ((wX1 ad c9 o.2.1 o.2.2.1 o.2.2.2.1 o.2.2.2.2.1 o.2.2.2.2.2.1 o.2.2.2.2.2.2 p_t_count p_t_cells p_d_time p_d_tolerance p_d_seed p_d_madeTickets p_d_cheesesOfText p_d_R_rows p_d_R_cells p_d_U_rows p_d_U_cells p_d_S_rows p_d_S_cells p_d_T_rows p_d_T_cells p_d_E_rows p_d_E_cells) ++ [])) args s 0 0 A) (wX1 ad c9 p_start p_end p_kind p_value o3.1 o3.2 p_t_count p_t_cells p_d_time p_d_tolerance p_d_seed p_d_madeTickets p_d_cheesesOfText p_d_R_rows p_d_R_cells p_d_U_rows p_d_U_cells p_d_S_rows p_d_S_cells p_d_T_rows p_d_T_cells p_d_E_rows p_d_E_cells) 39 [(0, .ref (ad 0)), (3, .int o1)] [.int j4, .ref (ad 0)] := by
      refine v_iconst X dX1_knownName_39 ic_4 40 rfl ?_
      obtain ⟨o5, ho5, hf⟩ := bnd hf
      refine v_callVv X (ci := 3) (T := TX1) (C := RX1) (As := [.int j4, .int 4]) (rest := []) (ws' := (wX1 ad c9 p_start p_end p_kind p_value o5.1 o5.2 p_t_count p_t_cells p_d_time p_d_tolerance p_d_seed p_d_madeTickets p_d_cheesesOfText p_d_R_rows p_d_R_cells p_d_U_rows p_d_U_cells p_d_S_rows p_d_S_cells p_d_T_rows p_d_T_cells p_d_E_rows p_d_E_cells)) (c_X1_require l hG D c9 ad p_start p_end p_kind p_value o3.1 o3.2 p_t_count p_t_cells p_d_time p_d_tolerance p_d_seed p_d_madeTickets p_d_cheesesOfText p_d_R_rows p_d_R_cells p_d_U_rows p_d_U_cells p_d_S_rows p_d_S_cells p_d_T_rows p_d_T_cells p_d_E_rows p_d_E_cells j4 4 ho5) 2 (gV wc_333 wc_334 wc_335 wc_336 wc_337) rfl rfl rfl ⟨rfl, pd_X1_require⟩ ⟨Nat.le_of_ble_eq_true rfl, Nat.le_of_ble_eq_true rfl⟩ 0 rfl rfl rfl rfl (Nat.le_of_ble_eq_true rfl) ⟨Nat.zero_le _, Nat.zero_le _⟩ [0, 1, 2, 3, 4, 5, 6, 7, 8, 9, 10, 11, 12, 13] [] [0, 1, 2, 3, 4, 5, 6, 7, 8, 9, 10, 11, 12, 13] rfl rfl rfl rfl dX1_knownName_40 43 rfl ?_
      refine v_aload_n X dX1_knownName_43 0 rfl rfl 44 rfl ?_
      obtain ⟨o6, ho6, hf⟩ := bnd hf
      refine v_callVi X (ci := 3) (T := TX1) (C := RX1) (As := []) (rest := []) (ws' := (wX1 ad c9 o6.2.1 o6.2.2.1 o6.2.2.2.1 o6.2.2.2.2 o5.1 o5.2 p_t_count p_t_cells p_d_time p_d_tolerance p_d_seed p_d_madeTickets p_d_cheesesOfText p_d_R_rows p_d_R_cells p_d_U_rows p_d_U_cells p_d_S_rows p_d_S_cells p_d_T_rows p_d_T_cells p_d_E_rows p_d_E_cells)) (c_X1_take l hG D c9 ad p_start p_end p_kind p_value o5.1 o5.2 p_t_count p_t_cells p_d_time p_d_tolerance p_d_seed p_d_madeTickets p_d_cheesesOfText p_d_R_rows p_d_R_cells p_d_U_rows p_d_U_cells p_d_S_rows p_d_S_cells p_d_T_rows p_d_T_cells p_d_E_rows p_d_E_cells ho6) 0 (gV wc_338 wc_339 wc_340 wc_336 wc_341) rfl rfl rfl ⟨rfl, pd_X1_take⟩ ⟨Nat.le_of_ble_eq_true rfl, Nat.le_of_ble_eq_true rfl⟩ 0 rfl rfl rfl rfl (Nat.le_of_ble_eq_true rfl) ⟨Nat.zero_le _, Nat.zero_le _⟩ [0, 1, 2, 3, 4, 5, 6, 7, 8, 9, 10, 11, 12, 13] [] [0, 1, 2, 3, 4, 5, 6, 7, 8, 9, 10, 11, 12, 13] rfl rfl rfl rfl dX1_knownName_44 47 rfl ?_
      refine v_pop X dX1_knownName_47 rfl 48 rfl ?_
      refine v_iload_n X dX1_knownName_48 1 rfl rfl 49 rfl ?_
      obtain rfl := Option.some.inj hf
      exact v_iret X (Nat.zero_le _) (Nat.zero_le _) dX1_knownName_49
    clear hf
    refine v_icmp_eq X (tgt := 38) dX1_knownName_31 rfl 34 rfl hj4 (fun hf => ?_) (fun hf => ?_)
    · refine v_iconst X dX1_knownName_38 ic_0 39 rfl ?_
      obtain rfl := Option.some.inj hf
      exact Jj4
    · refine v_iconst X dX1_knownName_34 ic_1 35 rfl ?_
      refine v_goto X (tgt := 39) dX1_knownName_35 rfl ?_
      obtain rfl := Option.some.inj hf
      exact Jj4
  clear hf
  refine v_icmp_ne X (tgt := 23) dX1_knownName_16 rfl 19 rfl hj2 (fun hf => ?_) (fun hf => ?_)
  · refine v_iconst X dX1_knownName_23 ic_0 24 rfl ?_
    obtain rfl := Option.some.inj hf
    refine v_sub (lv' := [(0, .ref (ad 0)), (3, .int o1)]) [1, 0] rfl ?_
    exact Jj2
  · refine v_iconst X dX1_knownName_19 ic_1 20 rfl ?_
    refine v_goto X (tgt := 24) dX1_knownName_20 rfl ?_
    obtain rfl := Option.some.inj hf
    refine v_sub (lv' := [(0, .ref (ad 0)), (3, .int o1)]) [1, 0] rfl ?_
    exact Jj2
theorem pd_X1_knownName : yX1_knownName.cls ≠ "java/lang/invoke/MethodHandle" ∧ yX1_knownName.cls ≠ "java/lang/invoke/VarHandle" ∧ (parseMethodDescriptor yX1_knownName.desc).map (fun d => d.parameters.length) = some 2 := by decide +kernel
def f_X1_readRequest (p_start : Int32) (p_end : Int32) (p_kind : Int32) (p_value : Int32) (p_error : Int32) (p_errorAt : Int32) (p_t_count : Int32) (p_t_cells : Nat → Int32) (p_d_time : Int32) (p_d_tolerance : Int32) (p_d_seed : Int32) (p_d_madeTickets : Int32) (p_d_R_rows : Int32) (p_d_R_cells : Nat → Int32) (p_d_U_rows : Int32) (p_d_U_cells : Nat → Int32) (p_d_S_rows : Int32) (p_d_S_cells : Nat → Int32) (p_d_T_rows : Int32) (p_d_T_cells : Nat → Int32) : Option (Int32 × Int32 × Int32 × Int32 × Int32 × Int32 × Int32 × Int32 × Int32 × (Nat → Int32)) :=
  (f_X1_take p_start p_end p_kind p_value p_error p_t_count p_t_cells).bind fun o1 =>
  (f_X1_knownTicket o1.2.1 o1.2.2.1 o1.2.2.2.1 o1.2.2.2.2 p_error p_errorAt p_t_count p_t_cells p_d_T_rows p_d_T_cells).bind fun o2 =>
  (f_X1_knownName_services o2.2.1 o2.2.2.1 o2.2.2.2.1 o2.2.2.2.2.1 o2.2.2.2.2.2.1 o2.2.2.2.2.2.2 p_t_count p_t_cells p_d_S_rows p_d_S_cells 0).bind fun o3 =>
  (f_X5_whyNoRequest p_d_time p_d_tolerance p_d_R_rows p_d_R_cells p_d_U_rows p_d_U_cells p_d_S_rows p_d_S_cells p_d_T_rows p_d_T_cells o2.1 o3.1).bind fun o4 =>
  Option.bind (if o4 = 0 then (
    some (1))
  else (
    some (0)) : Option (Int32)) fun j5 =>
  (f_X1_semicolon o3.2.1 o3.2.2.1 o3.2.2.2.1 o3.2.2.2.2.1 o3.2.2.2.2.2.1 o3.2.2.2.2.2.2 p_t_count p_t_cells j5).bind fun o6 =>
  if o6.1 = 0 then (
    some (o6.2.1, o6.2.2.1, o6.2.2.2.1, o6.2.2.2.2.1, o6.2.2.2.2.2.1, o6.2.2.2.2.2.2, p_d_seed, p_d_madeTickets, p_d_T_rows, p_d_T_cells))
  else (
    (f_X5_makeRequest p_d_time p_d_seed p_d_madeTickets p_d_R_rows p_d_R_cells p_d_T_rows p_d_T_cells o2.1 o3.1).bind fun o7 =>
    some (o6.2.1, o6.2.2.1, o6.2.2.2.1, o6.2.2.2.2.1, o6.2.2.2.2.2.1, o6.2.2.2.2.2.2, o7.2.1, o7.2.2.1, o7.2.2.2.1, o7.2.2.2.2))
set_option maxRecDepth 100000 in
set_option maxHeartbeats 4000000 in
theorem c_X1_readRequest (l : Launch) {G : (Nat → Prop) → State → Heap → Prop} (hG : vG G) (D : va_G) (c9 : Nat → ClassId) (ad : Nat → Nat) (p_start : Int32) (p_end : Int32) (p_kind : Int32) (p_value : Int32) (p_error : Int32) (p_errorAt : Int32) (p_t_count : Int32) (p_t_cells : Nat → Int32) (p_d_time : Int32) (p_d_tolerance : Int32) (p_d_seed : Int32) (p_d_madeTickets : Int32) (p_d_cheesesOfText : Int32) (p_d_R_rows : Int32) (p_d_R_cells : Nat → Int32) (p_d_U_rows : Int32) (p_d_U_cells : Nat → Int32) (p_d_S_rows : Int32) (p_d_S_cells : Nat → Int32) (p_d_T_rows : Int32) (p_d_T_cells : Nat → Int32) (p_d_E_rows : Int32) (p_d_E_cells : Nat → Int32)  {o : Int32 × Int32 × Int32 × Int32 × Int32 × Int32 × Int32 × Int32 × Int32 × (Nat → Int32)} (hf : f_X1_readRequest p_start p_end p_kind p_value p_error p_errorAt p_t_count p_t_cells p_d_time p_d_tolerance p_d_seed p_d_madeTickets p_d_R_rows p_d_R_cells p_d_U_rows p_d_U_cells p_d_S_rows p_d_S_cells p_d_T_rows p_d_T_cells = some o) : mV l yX1_readRequest (wq yX1_readRequest cX1_readRequest 3 none) { frames := 4, cells := 0, slots := 0, locals := 114 } G D (tyA c9) [.ref (ad 0)] (wX1 ad c9 p_start p_end p_kind p_value p_error p_errorAt p_t_count p_t_cells p_d_time p_d_tolerance p_d_seed p_d_madeTickets p_d_cheesesOfText p_d_R_rows p_d_R_cells p_d_U_rows p_d_U_cells p_d_S_rows p_d_S_cells p_d_T_rows p_d_T_cells p_d_E_rows p_d_E_cells) [] 0 0 (wX1 ad c9 o.1 o.2.1 o.2.2.1 o.2.2.2.1 o.2.2.2.2.1 o.2.2.2.2.2.1 p_t_count p_t_cells p_d_time p_d_tolerance o.2.2.2.2.2.2.1 o.2.2.2.2.2.2.2.1 p_d_cheesesOfText p_d_R_rows p_d_R_cells p_d_U_rows p_d_U_cells p_d_S_rows p_d_S_cells o.2.2.2.2.2.2.2.2.1 o.2.2.2.2.2.2.2.2.2 p_d_E_rows p_d_E_cells) := by
  refine mV_of hG (cc := cX1_readRequest) (maxL := 3) (by decide) rfl (Nat.le_of_ble_eq_true rfl) ?_
  intro p e s m args below meth c A hnm X
  have X : vX p s m args meth c cX1_readRequest 3 none RX1 (wq yX1_readRequest cX1_readRequest 3 none) D (tyA c9) G A := X
  refine v_eq (lv2 := [(0, .ref (ad 0))]) rfl rfl rfl rfl ?_
  rw [f_X1_readRequest] at hf
  refine v_aload_n X dX1_readRequest_0 0 rfl rfl 1 rfl ?_
  obtain ⟨o1, ho1, hf⟩ := bnd hf
  refine v_callVi X (ci := 3) (T := TX1) (C := RX1) (As := []) (rest := []) (ws' := (wX1 ad c9 o1.2.1 o1.2.2.1 o1.2.2.2.1 o1.2.2.2.2 p_error p_errorAt p_t_count p_t_cells p_d_time p_d_tolerance p_d_seed p_d_madeTickets p_d_cheesesOfText p_d_R_rows p_d_R_cells p_d_U_rows p_d_U_cells p_d_S_rows p_d_S_cells p_d_T_rows p_d_T_cells p_d_E_rows p_d_E_cells)) (c_X1_take l hG D c9 ad p_start p_end p_kind p_value p_error p_errorAt p_t_count p_t_cells p_d_time p_d_tolerance p_d_seed p_d_madeTickets p_d_cheesesOfText p_d_R_rows p_d_R_cells p_d_U_rows p_d_U_cells p_d_S_rows p_d_S_cells p_d_T_rows p_d_T_cells p_d_E_rows p_d_E_cells ho1) 0 (gV wc_338 wc_339 wc_340 wc_336 wc_341) rfl rfl rfl ⟨rfl, pd_X1_take⟩ ⟨Nat.le_of_ble_eq_true rfl, Nat.le_of_ble_eq_true rfl⟩ 0 rfl rfl rfl rfl (Nat.le_of_ble_eq_true rfl) ⟨Nat.zero_le _, Nat.zero_le _⟩ [0, 1, 2, 3, 4, 5, 6, 7, 8, 9, 10, 11, 12, 13] [] [0, 1, 2, 3, 4, 5, 6, 7, 8, 9, 10, 11, 12, 13] rfl rfl rfl rfl dX1_readRequest_1 4 rfl ?_
  refine v_pop X dX1_readRequest_4 rfl 5 rfl ?_
  refine v_aload_n X dX1_readRequest_5 0 rfl rfl 6 rfl ?_
  obtain ⟨o2, ho2, hf⟩ := bnd hf
  refine v_callVi X (ci := 3) (T := TX1) (C := RX1) (As := []) (rest := []) (ws' := (wX1 ad c9 o2.2.1 o2.2.2.1 o2.2.2.2.1 o2.2.2.2.2.1 o2.2.2.2.2.2.1 o2.2.2.2.2.2.2 p_t_count p_t_cells p_d_time p_d_tolerance p_d_seed p_d_madeTickets p_d_cheesesOfText p_d_R_rows p_d_R_cells p_d_U_rows p_d_U_cells p_d_S_rows p_d_S_cells p_d_T_rows p_d_T_cells p_d_E_rows p_d_E_cells)) (c_X1_knownTicket l hG D c9 ad o1.2.1 o1.2.2.1 o1.2.2.2.1 o1.2.2.2.2 p_error p_errorAt p_t_count p_t_cells p_d_time p_d_tolerance p_d_seed p_d_madeTickets p_d_cheesesOfText p_d_R_rows p_d_R_cells p_d_U_rows p_d_U_cells p_d_S_rows p_d_S_cells p_d_T_rows p_d_T_cells p_d_E_rows p_d_E_cells ho2) 0 (gV wc_371 wc_372 wc_373 wc_336 wc_374) rfl rfl rfl ⟨rfl, pd_X1_knownTicket⟩ ⟨Nat.le_of_ble_eq_true rfl, Nat.le_of_ble_eq_true rfl⟩ 0 rfl rfl rfl rfl (Nat.le_of_ble_eq_true rfl) ⟨Nat.zero_le _, Nat.zero_le _⟩ [0, 1, 2, 3, 4, 5, 6, 7, 8, 9, 10, 11, 12, 13] [] [0, 1, 2, 3, 4, 5, 6, 7, 8, 9, 10, 11, 12, 13] rfl rfl rfl rfl dX1_readRequest_6 9 rfl ?_
  refine v_istore_n X (lv' := [(1, .int o2.1), (0, .ref (ad 0))]) dX1_readRequest_9 rfl (by decide) rfl 10 rfl ?_
  refine v_aload_n X dX1_readRequest_10 1 rfl rfl 11 rfl ?_
  refine v_aload_n X dX1_readRequest_11 1 rfl rfl 12 rfl ?_
  refine v_get X (C := RX1) (T := TX1) (N := 8) (ci := 3) (v := _) dX1_readRequest_12 (lay_of layc_X1) 0 rfl rfl 1 (by decide) (mw wc_354) rfl rfl 15 rfl ?_
  refine v_getN X (C := RX5) (T := TX5) (N := 10) (ci := 7) (v := _) dX1_readRequest_15 (lay_of layc_X5) 3 rfl rfl 2 (by decide) nest_RX1_174 rfl rfl 18 rfl ?_
  refine v_iconst X dX1_readRequest_18 ic_0 19 rfl ?_
  obtain ⟨o3, ho3, hf⟩ := bnd hf
  refine v_callVi X (ci := 3) (T := TX1) (C := RX1) (As := [.ref (ad 8), .int 0]) (rest := []) (ws' := (wX1 ad c9 o3.2.1 o3.2.2.1 o3.2.2.2.1 o3.2.2.2.2.1 o3.2.2.2.2.2.1 o3.2.2.2.2.2.2 p_t_count p_t_cells p_d_time p_d_tolerance p_d_seed p_d_madeTickets p_d_cheesesOfText p_d_R_rows p_d_R_cells p_d_U_rows p_d_U_cells p_d_S_rows p_d_S_cells p_d_T_rows p_d_T_cells p_d_E_rows p_d_E_cells)) (c_X1_knownName_services l hG D c9 ad o2.2.1 o2.2.2.1 o2.2.2.2.1 o2.2.2.2.2.1 o2.2.2.2.2.2.1 o2.2.2.2.2.2.2 p_t_count p_t_cells p_d_time p_d_tolerance p_d_seed p_d_madeTickets p_d_cheesesOfText p_d_R_rows p_d_R_cells p_d_U_rows p_d_U_cells p_d_S_rows p_d_S_cells p_d_T_rows p_d_T_cells p_d_E_rows p_d_E_cells 0 ho3) 2 (gV wc_395 wc_396 wc_397 wc_336 wc_398) rfl rfl rfl ⟨rfl, pd_X1_knownName⟩ ⟨Nat.le_of_ble_eq_true rfl, Nat.le_of_ble_eq_true rfl⟩ 0 rfl rfl rfl rfl (Nat.le_of_ble_eq_true rfl) ⟨Nat.zero_le _, Nat.zero_le _⟩ [0, 1, 2, 3, 4, 5, 6, 7, 8, 9, 10, 11, 12, 13] [] [0, 1, 2, 3, 4, 5, 6, 7, 8, 9, 10, 11, 12, 13] rfl rfl rfl rfl dX1_readRequest_19 22 rfl ?_
  refine v_istore_n X (lv' := [(2, .int o3.1), (1, .int o2.1), (0, .ref (ad 0))]) dX1_readRequest_22 rfl (by decide) rfl 23 rfl ?_
  refine v_aload_n X dX1_readRequest_23 2 rfl rfl 24 rfl ?_
  refine v_aload_n X dX1_readRequest_24 2 rfl rfl 25 rfl ?_
  refine v_get X (C := RX1) (T := TX1) (N := 8) (ci := 3) (v := _) dX1_readRequest_25 (lay_of layc_X1) 0 rfl rfl 1 (by decide) (mw wc_354) rfl rfl 28 rfl ?_
  refine v_iload_n X dX1_readRequest_28 1 rfl rfl 29 rfl ?_
  refine v_iload_n X dX1_readRequest_29 0 rfl rfl 30 rfl ?_
  obtain ⟨o4, ho4, hf⟩ := bnd hf
  refine v_callVi X (ci := 7) (T := TX5) (C := RX5) (As := [.int o2.1, .int o3.1]) (rest := [.ref (ad 0)]) (ws' := (wX1 ad c9 o3.2.1 o3.2.2.1 o3.2.2.2.1 o3.2.2.2.2.1 o3.2.2.2.2.2.1 o3.2.2.2.2.2.2 p_t_count p_t_cells p_d_time p_d_tolerance p_d_seed p_d_madeTickets p_d_cheesesOfText p_d_R_rows p_d_R_cells p_d_U_rows p_d_U_cells p_d_S_rows p_d_S_cells p_d_T_rows p_d_T_cells p_d_E_rows p_d_E_cells)) (c_X5_whyNoRequest l hG D c9 (fun k => ad ([3, 4, 5, 6, 7, 8, 9, 10, 11, 12, 13].getD k 0)) p_d_time p_d_tolerance p_d_seed p_d_madeTickets p_d_cheesesOfText p_d_R_rows p_d_R_cells p_d_U_rows p_d_U_cells p_d_S_rows p_d_S_cells p_d_T_rows p_d_T_cells p_d_E_rows p_d_E_cells o2.1 o3.1 ho4) 2 (gV wc_399 wc_400 wc_401 wc_233 wc_402) rfl rfl rfl ⟨rfl, pd_X5_whyNoRequest⟩ ⟨Nat.le_of_ble_eq_true rfl, Nat.le_of_ble_eq_true rfl⟩ 3 rfl rfl rfl rfl (Nat.le_of_ble_eq_true rfl) ⟨Nat.zero_le _, Nat.zero_le _⟩ [3, 4, 5, 6, 7, 8, 9, 10, 11, 12, 13] [0, 1, 2] [0, 1, 2, 3, 4, 5, 6, 7, 8, 9, 10, 11, 12, 13] rfl rfl rfl rfl dX1_readRequest_30 33 rfl ?_
  obtain ⟨j5, hj5, hf⟩ := bnd hf
  have Jj5 : vW p l e { frames := 4, cells := 0, slots := 0, locals := 114 } s m args below meth c 3 D A [] 0 0 (MQ below (eV D (tyA c9) A ((wX1 ad c9 o.1 o.2.1 o.2.2.1 o.2.2.2.1 o.2.2.2.2.1 o.2.2.2.2.2.1 p_t_count p_t_cells p_d_time p_d_tolerance o.2.2.2.2.2.2.1 o.2.2.2.2.2.2.2.1 p_d_cheesesOfText p_d_R_rows p_d_R_cells p_d_U_rows p_d_U_cells p_d_S_rows p_d_S_cells o.2.2.2.2.2.2.2.2.1 o.2.2.2.2.2.2.2.2.2 p_d_E_rows p_d_E_cells) ++ [])) args s 0 0 A) (wX1 ad c9 o3.2.1 o3.2.2.1 o3.2.2.2.1 o3.2.2.2.2.1 o3.2.2.2.2.2.1 o3.2.2.2.2.2.2 p_t_count p_t_cells p_d_time p_d_tolerance p_d_seed p_d_madeTickets p_d_cheesesOfText p_d_R_rows p_d_R_cells p_d_U_rows p_d_U_cells p_d_S_rows p_d_S_cells p_d_T_rows p_d_T_cells p_d_E_rows p_d_E_cells) 41 [(0, .ref (ad 0)), (1, .int o2.1), (2, .int o3.1)] [.int j5, .ref (ad 0)] := by
    obtain ⟨o6, ho6, hf⟩ := bnd hf
    refine v_callVi X (ci := 3) (T := TX1) (C := RX1) (As := [.int j5]) (rest := []) (ws' := (wX1 ad c9 o6.2.1 o6.2.2.1 o6.2.2.2.1 o6.2.2.2.2.1 o6.2.2.2.2.2.1 o6.2.2.2.2.2.2 p_t_count p_t_cells p_d_time p_d_tolerance p_d_seed p_d_madeTickets p_d_cheesesOfText p_d_R_rows p_d_R_cells p_d_U_rows p_d_U_cells p_d_S_rows p_d_S_cells p_d_T_rows p_d_T_cells p_d_E_rows p_d_E_cells)) (c_X1_semicolon l hG D c9 ad o3.2.1 o3.2.2.1 o3.2.2.2.1 o3.2.2.2.2.1 o3.2.2.2.2.2.1 o3.2.2.2.2.2.2 p_t_count p_t_cells p_d_time p_d_tolerance p_d_seed p_d_madeTickets p_d_cheesesOfText p_d_R_rows p_d_R_cells p_d_U_rows p_d_U_cells p_d_S_rows p_d_S_cells p_d_T_rows p_d_T_cells p_d_E_rows p_d_E_cells j5 ho6) 1 (gV wc_350 wc_351 wc_352 wc_336 wc_353) rfl rfl rfl ⟨rfl, pd_X1_semicolon⟩ ⟨Nat.le_of_ble_eq_true rfl, Nat.le_of_ble_eq_true rfl⟩ 0 rfl rfl rfl rfl (Nat.le_of_ble_eq_true rfl) ⟨Nat.zero_le _, Nat.zero_le _⟩ [0, 1, 2, 3, 4, 5, 6, 7, 8, 9, 10, 11, 12, 13] [] [0, 1, 2, 3, 4, 5, 6, 7, 8, 9, 10, 11, 12, 13] rfl rfl rfl rfl dX1_readRequest_41 44 rfl ?_
    refine v_if_eq X (tgt := 57) dX1_readRequest_44 rfl 47 rfl hf (fun hf => ?_) (fun hf => ?_)
    · obtain rfl := Option.some.inj hf
      exact v_vret X (Nat.zero_le _) (Nat.zero_le _) dX1_readRequest_57
    · refine v_aload_n X dX1_readRequest_47 0 rfl rfl 48 rfl ?_
      refine v_get X (C := RX1) (T := TX1) (N := 8) (ci := 3) (v := _) dX1_readRequest_48 (lay_of layc_X1) 0 rfl rfl 1 (by decide) (mw wc_354) rfl rfl 51 rfl ?_
      refine v_iload_n X dX1_readRequest_51 1 rfl rfl 52 rfl ?_
      refine v_iload_n X dX1_readRequest_52 2 rfl rfl 53 rfl ?_
      obtain ⟨o7, ho7, hf⟩ := bnd hf
      refine v_callVi X (ci := 7) (T := TX5) (C := RX5) (As := [.int o2.1, .int o3.1]) (rest := []) (ws' := (wX1 ad c9 o6.2.1 o6.2.2.1 o6.2.2.2.1 o6.2.2.2.2.1 o6.2.2.2.2.2.1 o6.2.2.2.2.2.2 p_t_count p_t_cells p_d_time p_d_tolerance o7.2.1 o7.2.2.1 p_d_cheesesOfText p_d_R_rows p_d_R_cells p_d_U_rows p_d_U_cells p_d_S_rows p_d_S_cells o7.2.2.2.1 o7.2.2.2.2 p_d_E_rows p_d_E_cells)) (c_X5_makeRequest l hG D c9 (fun k => ad ([3, 4, 5, 6, 7, 8, 9, 10, 11, 12, 13].getD k 0)) p_d_time p_d_tolerance p_d_seed p_d_madeTickets p_d_cheesesOfText p_d_R_rows p_d_R_cells p_d_U_rows p_d_U_cells p_d_S_rows p_d_S_cells p_d_T_rows p_d_T_cells p_d_E_rows p_d_E_cells o2.1 o3.1 ho7) 2 (gV wc_403 wc_404 wc_405 wc_233 wc_406) rfl rfl rfl ⟨rfl, pd_X5_makeRequest⟩ ⟨Nat.le_of_ble_eq_true rfl, Nat.le_of_ble_eq_true rfl⟩ 3 rfl rfl rfl rfl (Nat.le_of_ble_eq_true rfl) ⟨Nat.zero_le _, Nat.zero_le _⟩ [3, 4, 5, 6, 7, 8, 9, 10, 11, 12, 13] [0, 1, 2] [0, 1, 2, 3, 4, 5, 6, 7, 8, 9, 10, 11, 12, 13] rfl rfl rfl rfl dX1_readRequest_53 56 rfl ?_
      refine v_pop X dX1_readRequest_56 rfl 57 rfl ?_
      obtain rfl := Option.some.inj hf
      exact v_vret X (Nat.zero_le _) (Nat.zero_le _) dX1_readRequest_57
  clear hf
  refine v_if_ne X (tgt := 40) dX1_readRequest_33 rfl 36 rfl hj5 (fun hf => ?_) (fun hf => ?_)
  · refine v_iconst X dX1_readRequest_40 ic_0 41 rfl ?_
    obtain rfl := Option.some.inj hf
    refine v_sub (lv' := [(0, .ref (ad 0)), (1, .int o2.1), (2, .int o3.1)]) [2, 1, 0] rfl ?_
    exact Jj5
  · refine v_iconst X dX1_readRequest_36 ic_1 37 rfl ?_
    refine v_goto X (tgt := 41) dX1_readRequest_37 rfl ?_
    obtain rfl := Option.some.inj hf
    refine v_sub (lv' := [(0, .ref (ad 0)), (1, .int o2.1), (2, .int o3.1)]) [2, 1, 0] rfl ?_
    exact Jj5
theorem pd_X1_readRequest : yX1_readRequest.cls ≠ "java/lang/invoke/MethodHandle" ∧ yX1_readRequest.cls ≠ "java/lang/invoke/VarHandle" ∧ (parseMethodDescriptor yX1_readRequest.desc).map (fun d => d.parameters.length) = some 0 := by decide +kernel
def f_X1_knownName_realms (p_start : Int32) (p_end : Int32) (p_kind : Int32) (p_value : Int32) (p_error : Int32) (p_errorAt : Int32) (p_t_count : Int32) (p_t_cells : Nat → Int32) (p_d_R_rows : Int32) (p_d_R_cells : Nat → Int32) (v2 : Int32) : Option (Int32 × Int32 × Int32 × Int32 × Int32 × Int32 × Int32) :=
  (f_X6_rowWith 25 5 p_d_R_rows p_d_R_cells v2 p_value).bind fun o1 =>
  Option.bind (if p_kind = 1 then (
    some (1))
  else (
    some (0)) : Option (Int32)) fun j2 =>
  (f_X1_require p_start p_error p_errorAt j2 1).bind fun o3 =>
  Option.bind (if o1 = (-1) then (
    some (0))
  else (
    some (1)) : Option (Int32)) fun j4 =>
  (f_X1_require p_start o3.1 o3.2 j4 4).bind fun o5 =>
  (f_X1_take p_start p_end p_kind p_value o5.1 p_t_count p_t_cells).bind fun o6 =>
  some (o1, o6.2.1, o6.2.2.1, o6.2.2.2.1, o6.2.2.2.2, o5.1, o5.2)
set_option maxRecDepth 100000 in
set_option maxHeartbeats 4000000 in
theorem c_X1_knownName_realms (l : Launch) {G : (Nat → Prop) → State → Heap → Prop} (hG : vG G) (D : va_G) (c9 : Nat → ClassId) (ad : Nat → Nat) (p_start : Int32) (p_end : Int32) (p_kind : Int32) (p_value : Int32) (p_error : Int32) (p_errorAt : Int32) (p_t_count : Int32) (p_t_cells : Nat → Int32) (p_d_time : Int32) (p_d_tolerance : Int32) (p_d_seed : Int32) (p_d_madeTickets : Int32) (p_d_cheesesOfText : Int32) (p_d_R_rows : Int32) (p_d_R_cells : Nat → Int32) (p_d_U_rows : Int32) (p_d_U_cells : Nat → Int32) (p_d_S_rows : Int32) (p_d_S_cells : Nat → Int32) (p_d_T_rows : Int32) (p_d_T_cells : Nat → Int32) (p_d_E_rows : Int32) (p_d_E_cells : Nat → Int32) (v2 : Int32) {o : Int32 × Int32 × Int32 × Int32 × Int32 × Int32 × Int32} (hf : f_X1_knownName_realms p_start p_end p_kind p_value p_error p_errorAt p_t_count p_t_cells p_d_R_rows p_d_R_cells v2 = some o) : mI l yX1_knownName (wq yX1_knownName cX1_knownName 4 (some .int)) { frames := 3, cells := 0, slots := 0, locals := 86 } G D (tyA c9) [.ref (ad 0), .ref (ad 4), .int v2] (wX1 ad c9 p_start p_end p_kind p_value p_error p_errorAt p_t_count p_t_cells p_d_time p_d_tolerance p_d_seed p_d_madeTickets p_d_cheesesOfText p_d_R_rows p_d_R_cells p_d_U_rows p_d_U_cells p_d_S_rows p_d_S_cells p_d_T_rows p_d_T_cells p_d_E_rows p_d_E_cells) [] 0 0 o.1 (wX1 ad c9 o.2.1 o.2.2.1 o.2.2.2.1 o.2.2.2.2.1 o.2.2.2.2.2.1 o.2.2.2.2.2.2 p_t_count p_t_cells p_d_time p_d_tolerance p_d_seed p_d_madeTickets p_d_cheesesOfText p_d_R_rows p_d_R_cells p_d_U_rows p_d_U_cells p_d_S_rows p_d_S_cells p_d_T_rows p_d_T_cells p_d_E_rows p_d_E_cells) := by
  refine mI_of hG (cc := cX1_knownName) (maxL := 4) (ty := .int) (by decide) rfl (Nat.le_of_ble_eq_true rfl) ?_
  intro p e s m args below meth c A X
  have X : vX p s m args meth c cX1_knownName 4 (some .int) RX1 (wq yX1_knownName cX1_knownName 4 (some .int)) D (tyA c9) G A := X
  refine v_eq (lv2 := [(0, .ref (ad 0)), (1, .ref (ad 4)), (2, .int v2)]) rfl rfl rfl rfl ?_
  rw [f_X1_knownName_realms] at hf
  refine v_aload_n X dX1_knownName_0 1 rfl rfl 1 rfl ?_
  refine v_iload_n X dX1_knownName_1 2 rfl rfl 2 rfl ?_
  refine v_aload_n X dX1_knownName_2 0 rfl rfl 3 rfl ?_
  refine v_get X (C := RX1) (T := TX1) (N := 8) (ci := 3) (v := _) dX1_knownName_3 (lay_of layc_X1) 0 rfl rfl 5 (by decide) (mw wc_305) rfl rfl 6 rfl ?_
  obtain ⟨o1, ho1, hf⟩ := bnd hf
  refine v_callUi X (ci := 4) (T := TX2) (C := RX2) (owner := "TicketGate$Table") (As := [.int v2, .int p_value]) (rest := []) (ws' := (wX1 ad c9 p_start p_end p_kind p_value p_error p_errorAt p_t_count p_t_cells p_d_time p_d_tolerance p_d_seed p_d_madeTickets p_d_cheesesOfText p_d_R_rows p_d_R_cells p_d_U_rows p_d_U_cells p_d_S_rows p_d_S_cells p_d_T_rows p_d_T_cells p_d_E_rows p_d_E_cells)) (c_X6_rowWith l hG D c9 (fun k => ad ([4, 5].getD k 0)) 25 4 RX2 rfl layc_X2 wc_208 5 5 p_d_R_rows p_d_R_cells v2 p_value ho1) 2 (gU wc_392 wc_393 wc_407 wc_212 wc_34 wc_213) rfl rfl rfl rfl pd_X6_rowWith_UX1_knownName_247 ⟨Nat.le_of_ble_eq_true rfl, Nat.le_of_ble_eq_true rfl⟩ 4 rfl rfl rfl rfl (Nat.le_of_ble_eq_true rfl) ⟨Nat.zero_le _, Nat.zero_le _⟩ [4, 5] [0, 1, 2, 3, 6, 7, 8, 9, 10, 11, 12, 13] [0, 1, 2, 3, 12, 13, 4, 5, 6, 7, 8, 9, 10, 11] rfl rfl rfl rfl dX1_knownName_6 9 rfl ?_
  refine v_istore_n X (lv' := [(3, .int o1), (0, .ref (ad 0)), (1, .ref (ad 4)), (2, .int v2)]) dX1_knownName_9 rfl (by decide) rfl 10 rfl ?_
  refine v_aload_n X dX1_knownName_10 1 rfl rfl 11 rfl ?_
  refine v_aload_n X dX1_knownName_11 1 rfl rfl 12 rfl ?_
  refine v_get X (C := RX1) (T := TX1) (N := 8) (ci := 3) (v := _) dX1_knownName_12 (lay_of layc_X1) 0 rfl rfl 4 (by decide) (mw wc_315) rfl rfl 15 rfl ?_
  refine v_iconst X dX1_knownName_15 ic_1 16 rfl ?_
  obtain ⟨j2, hj2, hf⟩ := bnd hf
  have Jj2 : vW p l e { frames := 3, cells := 0, slots := 0, locals := 86 } s m args below meth c 4 D A [] 0 0 (MQ below (eI D (tyA c9) A o.1 ((wX1 ad c9 o.2.1 o.2.2.1 o.2.2.2.1 o.2.2.2.2.1 o.2.2.2.2.2.1 o.2.2.2.2.2.2 p_t_count p_t_cells p_d_time p_d_tolerance p_d_seed p_d_madeTickets p_d_cheesesOfText p_d_R_rows p_d_R_cells p_d_U_rows p_d_U_cells p_d_S_rows p_d_S_cells p_d_T_rows p_d_T_cells p_d_E_rows p_d_E_cells) ++ [])) args s 0 0 A) (wX1 ad c9 p_start p_end p_kind p_value p_error p_errorAt p_t_count p_t_cells p_d_time p_d_tolerance p_d_seed p_d_madeTickets p_d_cheesesOfText p_d_R_rows p_d_R_cells p_d_U_rows p_d_U_cells p_d_S_rows p_d_S_cells p_d_T_rows p_d_T_cells p_d_E_rows p_d_E_cells) 24 [(0, .ref (ad 0)), (3, .int o1)] [.int j2, .ref (ad 0)] := by
    refine v_iconst X dX1_knownName_24 ic_1 25 rfl ?_
    obtain ⟨o3, ho3, hf⟩ := bnd hf
    refine v_callVv X (ci := 3) (T := TX1) (C := RX1) (As := [.int j2, .int 1]) (rest := []) (ws' := (wX1 ad c9 p_start p_end p_kind p_value o3.1 o3.2 p_t_count p_t_cells p_d_time p_d_tolerance p_d_seed p_d_madeTickets p_d_cheesesOfText p_d_R_rows p_d_R_cells p_d_U_rows p_d_U_cells p_d_S_rows p_d_S_cells p_d_T_rows p_d_T_cells p_d_E_rows p_d_E_cells)) (c_X1_require l hG D c9 ad p_start p_end p_kind p_value p_error p_errorAt p_t_count p_t_cells p_d_time p_d_tolerance p_d_seed p_d_madeTickets p_d_cheesesOfText p_d_R_rows p_d_R_cells p_d_U_rows p_d_U_cells p_d_S_rows p_d_S_cells p_d_T_rows p_d_T_cells p_d_E_rows p_d_E_cells j2 1 ho3) 2 (gV wc_333 wc_334 wc_335 wc_336 wc_337) rfl rfl rfl ⟨rfl, pd_X1_require⟩ ⟨Nat.le_of_ble_eq_true rfl, Nat.le_of_ble_eq_true rfl⟩ 0 rfl rfl rfl rfl (Nat.le_of_ble_eq_true rfl) ⟨Nat.zero_le _, Nat.zero_le _⟩ [0, 1, 2, 3, 4, 5, 6, 7, 8, 9, 10, 11, 12, 13] [] [0, 1, 2, 3, 4, 5, 6, 7, 8, 9, 10, 11, 12, 13] rfl rfl rfl rfl dX1_knownName_25 28 rfl ?_
    refine v_aload_n X dX1_knownName_28 0 rfl rfl 29 rfl ?_
    refine v_iload_n X dX1_knownName_29 1 rfl rfl 30 rfl ?_
    refine v_iconst X dX1_knownName_30 ic_m1 31 rfl ?_
    obtain ⟨j4, hj4, hf⟩ := bnd hf
    have Jj4 : vW p l e { frames := 3, cells := 0, slots := 0, locals := 86 } s m args below meth c 4 D A [] 0 0 (MQ below (eI D (tyA c9) A o.1 ((wX1 ad c9 o.2.1 o.2.2.1 o.2.2.2.1 o.2.2.2.2.1 o.2.2.2.2.2.1 o.2.2.2.2.2.2 p_t_count p_t_cells p_d_time p_d_tolerance p_d_seed p_d_madeTickets p_d_cheesesOfText p_d_R_rows p_d_R_cells p_d_U_rows p_d_U_cells p_d_S_rows p_d_S_cells p_d_T_rows p_d_T_cells p_d_E_rows p_d_E_cells) ++ [])) args s 0 0 A) (wX1 ad c9 p_start p_end p_kind p_value o3.1 o3.2 p_t_count p_t_cells p_d_time p_d_tolerance p_d_seed p_d_madeTickets p_d_cheesesOfText p_d_R_rows p_d_R_cells p_d_U_rows p_d_U_cells p_d_S_rows p_d_S_cells p_d_T_rows p_d_T_cells p_d_E_rows p_d_E_cells) 39 [(0, .ref (ad 0)), (3, .int o1)] [.int j4, .ref (ad 0)] := by
      refine v_iconst X dX1_knownName_39 ic_4 40 rfl ?_
      obtain ⟨o5, ho5, hf⟩ := bnd hf
      refine v_callVv X (ci := 3) (T := TX1) (C := RX1) (As := [.int j4, .int 4]) (rest := []) (ws' := (wX1 ad c9 p_start p_end p_kind p_value o5.1 o5.2 p_t_count p_t_cells p_d_time p_d_tolerance p_d_seed p_d_madeTickets p_d_cheesesOfText p_d_R_rows p_d_R_cells p_d_U_rows p_d_U_cells p_d_S_rows p_d_S_cells p_d_T_rows p_d_T_cells p_d_E_rows p_d_E_cells)) (c_X1_require l hG D c9 ad p_start p_end p_kind p_value o3.1 o3.2 p_t_count p_t_cells p_d_time p_d_tolerance p_d_seed p_d_madeTickets p_d_cheesesOfText p_d_R_rows p_d_R_cells p_d_U_rows p_d_U_cells p_d_S_rows p_d_S_cells p_d_T_rows p_d_T_cells p_d_E_rows p_d_E_cells j4 4 ho5) 2 (gV wc_333 wc_334 wc_335 wc_336 wc_337) rfl rfl rfl ⟨rfl, pd_X1_require⟩ ⟨Nat.le_of_ble_eq_true rfl, Nat.le_of_ble_eq_true rfl⟩ 0 rfl rfl rfl rfl (Nat.le_of_ble_eq_true rfl) ⟨Nat.zero_le _, Nat.zero_le _⟩ [0, 1, 2, 3, 4, 5, 6, 7, 8, 9, 10, 11, 12, 13] [] [0, 1, 2, 3, 4, 5, 6, 7, 8, 9, 10, 11, 12, 13] rfl rfl rfl rfl dX1_knownName_40 43 rfl ?_
      refine v_aload_n X dX1_knownName_43 0 rfl rfl 44 rfl ?_
      obtain ⟨o6, ho6, hf⟩ := bnd hf
      refine v_callVi X (ci := 3) (T := TX1) (C := RX1) (As := []) (rest := []) (ws' := (wX1 ad c9 o6.2.1 o6.2.2.1 o6.2.2.2.1 o6.2.2.2.2 o5.1 o5.2 p_t_count p_t_cells p_d_time p_d_tolerance p_d_seed p_d_madeTickets p_d_cheesesOfText p_d_R_rows p_d_R_cells p_d_U_rows p_d_U_cells p_d_S_rows p_d_S_cells p_d_T_rows p_d_T_cells p_d_E_rows p_d_E_cells)) (c_X1_take l hG D c9 ad p_start p_end p_kind p_value o5.1 o5.2 p_t_count p_t_cells p_d_time p_d_tolerance p_d_seed p_d_madeTickets p_d_cheesesOfText p_d_R_rows p_d_R_cells p_d_U_rows p_d_U_cells p_d_S_rows p_d_S_cells p_d_T_rows p_d_T_cells p_d_E_rows p_d_E_cells ho6) 0 (gV wc_338 wc_339 wc_340 wc_336 wc_341) rfl rfl rfl ⟨rfl, pd_X1_take⟩ ⟨Nat.le_of_ble_eq_true rfl, Nat.le_of_ble_eq_true rfl⟩ 0 rfl rfl rfl rfl (Nat.le_of_ble_eq_true rfl) ⟨Nat.zero_le _, Nat.zero_le _⟩ [0, 1, 2, 3, 4, 5, 6, 7, 8, 9, 10, 11, 12, 13] [] [0, 1, 2, 3, 4, 5, 6, 7, 8, 9, 10, 11, 12, 13] rfl rfl rfl rfl dX1_knownName_44 47 rfl ?_
      refine v_pop X dX1_knownName_47 rfl 48 rfl ?_
      refine v_iload_n X dX1_knownName_48 1 rfl rfl 49 rfl ?_
      obtain rfl := Option.some.inj hf
      exact v_iret X (Nat.zero_le _) (Nat.zero_le _) dX1_knownName_49
    clear hf
    refine v_icmp_eq X (tgt := 38) dX1_knownName_31 rfl 34 rfl hj4 (fun hf => ?_) (fun hf => ?_)
    · refine v_iconst X dX1_knownName_38 ic_0 39 rfl ?_
      obtain rfl := Option.some.inj hf
      exact Jj4
    · refine v_iconst X dX1_knownName_34 ic_1 35 rfl ?_
      refine v_goto X (tgt := 39) dX1_knownName_35 rfl ?_
      obtain rfl := Option.some.inj hf
      exact Jj4
  clear hf
  refine v_icmp_ne X (tgt := 23) dX1_knownName_16 rfl 19 rfl hj2 (fun hf => ?_) (fun hf => ?_)
  · refine v_iconst X dX1_knownName_23 ic_0 24 rfl ?_
    obtain rfl := Option.some.inj hf
    refine v_sub (lv' := [(0, .ref (ad 0)), (3, .int o1)]) [1, 0] rfl ?_
    exact Jj2
  · refine v_iconst X dX1_knownName_19 ic_1 20 rfl ?_
    refine v_goto X (tgt := 24) dX1_knownName_20 rfl ?_
    obtain rfl := Option.some.inj hf
    refine v_sub (lv' := [(0, .ref (ad 0)), (3, .int o1)]) [1, 0] rfl ?_
    exact Jj2
def f_X1_readRefer (p_start : Int32) (p_end : Int32) (p_kind : Int32) (p_value : Int32) (p_error : Int32) (p_errorAt : Int32) (p_t_count : Int32) (p_t_cells : Nat → Int32) (p_d_time : Int32) (p_d_tolerance : Int32) (p_d_seed : Int32) (p_d_madeTickets : Int32) (p_d_R_rows : Int32) (p_d_R_cells : Nat → Int32) (p_d_U_rows : Int32) (p_d_U_cells : Nat → Int32) (p_d_T_rows : Int32) (p_d_T_cells : Nat → Int32) : Option (Int32 × Int32 × Int32 × Int32 × Int32 × Int32 × Int32 × Int32 × Int32 × (Nat → Int32)) :=
  (f_X1_take p_start p_end p_kind p_value p_error p_t_count p_t_cells).bind fun o1 =>
  (f_X1_knownTicket o1.2.1 o1.2.2.1 o1.2.2.2.1 o1.2.2.2.2 p_error p_errorAt p_t_count p_t_cells p_d_T_rows p_d_T_cells).bind fun o2 =>
  (f_X1_knownName_realms o2.2.1 o2.2.2.1 o2.2.2.2.1 o2.2.2.2.2.1 o2.2.2.2.2.2.1 o2.2.2.2.2.2.2 p_t_count p_t_cells p_d_R_rows p_d_R_cells 0).bind fun o3 =>
  (f_X5_whyNoReferral p_d_time p_d_tolerance p_d_R_rows p_d_R_cells p_d_U_rows p_d_U_cells p_d_T_rows p_d_T_cells o2.1 o3.1).bind fun o4 =>
  Option.bind (if o4 = 0 then (
    some (1))
  else (
    some (0)) : Option (Int32)) fun j5 =>
  (f_X1_semicolon o3.2.1 o3.2.2.1 o3.2.2.2.1 o3.2.2.2.2.1 o3.2.2.2.2.2.1 o3.2.2.2.2.2.2 p_t_count p_t_cells j5).bind fun o6 =>
  if o6.1 = 0 then (
    some (o6.2.1, o6.2.2.1, o6.2.2.2.1, o6.2.2.2.2.1, o6.2.2.2.2.2.1, o6.2.2.2.2.2.2, p_d_seed, p_d_madeTickets, p_d_T_rows, p_d_T_cells))
  else (
    (f_X5_makeReferral p_d_time p_d_seed p_d_madeTickets p_d_R_rows p_d_R_cells p_d_T_rows p_d_T_cells o2.1 o3.1).bind fun o7 =>
    some (o6.2.1, o6.2.2.1, o6.2.2.2.1, o6.2.2.2.2.1, o6.2.2.2.2.2.1, o6.2.2.2.2.2.2, o7.2.1, o7.2.2.1, o7.2.2.2.1, o7.2.2.2.2))
set_option maxRecDepth 100000 in
set_option maxHeartbeats 4000000 in
theorem c_X1_readRefer (l : Launch) {G : (Nat → Prop) → State → Heap → Prop} (hG : vG G) (D : va_G) (c9 : Nat → ClassId) (ad : Nat → Nat) (p_start : Int32) (p_end : Int32) (p_kind : Int32) (p_value : Int32) (p_error : Int32) (p_errorAt : Int32) (p_t_count : Int32) (p_t_cells : Nat → Int32) (p_d_time : Int32) (p_d_tolerance : Int32) (p_d_seed : Int32) (p_d_madeTickets : Int32) (p_d_cheesesOfText : Int32) (p_d_R_rows : Int32) (p_d_R_cells : Nat → Int32) (p_d_U_rows : Int32) (p_d_U_cells : Nat → Int32) (p_d_S_rows : Int32) (p_d_S_cells : Nat → Int32) (p_d_T_rows : Int32) (p_d_T_cells : Nat → Int32) (p_d_E_rows : Int32) (p_d_E_cells : Nat → Int32)  {o : Int32 × Int32 × Int32 × Int32 × Int32 × Int32 × Int32 × Int32 × Int32 × (Nat → Int32)} (hf : f_X1_readRefer p_start p_end p_kind p_value p_error p_errorAt p_t_count p_t_cells p_d_time p_d_tolerance p_d_seed p_d_madeTickets p_d_R_rows p_d_R_cells p_d_U_rows p_d_U_cells p_d_T_rows p_d_T_cells = some o) : mV l yX1_readRefer (wq yX1_readRefer cX1_readRefer 3 none) { frames := 4, cells := 0, slots := 0, locals := 113 } G D (tyA c9) [.ref (ad 0)] (wX1 ad c9 p_start p_end p_kind p_value p_error p_errorAt p_t_count p_t_cells p_d_time p_d_tolerance p_d_seed p_d_madeTickets p_d_cheesesOfText p_d_R_rows p_d_R_cells p_d_U_rows p_d_U_cells p_d_S_rows p_d_S_cells p_d_T_rows p_d_T_cells p_d_E_rows p_d_E_cells) [] 0 0 (wX1 ad c9 o.1 o.2.1 o.2.2.1 o.2.2.2.1 o.2.2.2.2.1 o.2.2.2.2.2.1 p_t_count p_t_cells p_d_time p_d_tolerance o.2.2.2.2.2.2.1 o.2.2.2.2.2.2.2.1 p_d_cheesesOfText p_d_R_rows p_d_R_cells p_d_U_rows p_d_U_cells p_d_S_rows p_d_S_cells o.2.2.2.2.2.2.2.2.1 o.2.2.2.2.2.2.2.2.2 p_d_E_rows p_d_E_cells) := by
  refine mV_of hG (cc := cX1_readRefer) (maxL := 3) (by decide) rfl (Nat.le_of_ble_eq_true rfl) ?_
  intro p e s m args below meth c A hnm X
  have X : vX p s m args meth c cX1_readRefer 3 none RX1 (wq yX1_readRefer cX1_readRefer 3 none) D (tyA c9) G A := X
  refine v_eq (lv2 := [(0, .ref (ad 0))]) rfl rfl rfl rfl ?_
  rw [f_X1_readRefer] at hf
  refine v_aload_n X dX1_readRefer_0 0 rfl rfl 1 rfl ?_
  obtain ⟨o1, ho1, hf⟩ := bnd hf
  refine v_callVi X (ci := 3) (T := TX1) (C := RX1) (As := []) (rest := []) (ws' := (wX1 ad c9 o1.2.1 o1.2.2.1 o1.2.2.2.1 o1.2.2.2.2 p_error p_errorAt p_t_count p_t_cells p_d_time p_d_tolerance p_d_seed p_d_madeTickets p_d_cheesesOfText p_d_R_rows p_d_R_cells p_d_U_rows p_d_U_cells p_d_S_rows p_d_S_cells p_d_T_rows p_d_T_cells p_d_E_rows p_d_E_cells)) (c_X1_take l hG D c9 ad p_start p_end p_kind p_value p_error p_errorAt p_t_count p_t_cells p_d_time p_d_tolerance p_d_seed p_d_madeTickets p_d_cheesesOfText p_d_R_rows p_d_R_cells p_d_U_rows p_d_U_cells p_d_S_rows p_d_S_cells p_d_T_rows p_d_T_cells p_d_E_rows p_d_E_cells ho1) 0 (gV wc_338 wc_339 wc_340 wc_336 wc_341) rfl rfl rfl ⟨rfl, pd_X1_take⟩ ⟨Nat.le_of_ble_eq_true rfl, Nat.le_of_ble_eq_true rfl⟩ 0 rfl rfl rfl rfl (Nat.le_of_ble_eq_true rfl) ⟨Nat.zero_le _, Nat.zero_le _⟩ [0, 1, 2, 3, 4, 5, 6, 7, 8, 9, 10, 11, 12, 13] [] [0, 1, 2, 3, 4, 5, 6, 7, 8, 9, 10, 11, 12, 13] rfl rfl rfl rfl dX1_readRefer_1 4 rfl ?_
  refine v_pop X dX1_readRefer_4 rfl 5 rfl ?_
  refine v_aload_n X dX1_readRefer_5 0 rfl rfl 6 rfl ?_
  obtain ⟨o2, ho2, hf⟩ := bnd hf
  refine v_callVi X (ci := 3) (T := TX1) (C := RX1) (As := []) (rest := []) (ws' := (wX1 ad c9 o2.2.1 o2.2.2.1 o2.2.2.2.1 o2.2.2.2.2.1 o2.2.2.2.2.2.1 o2.2.2.2.2.2.2 p_t_count p_t_cells p_d_time p_d_tolerance p_d_seed p_d_madeTickets p_d_cheesesOfText p_d_R_rows p_d_R_cells p_d_U_rows p_d_U_cells p_d_S_rows p_d_S_cells p_d_T_rows p_d_T_cells p_d_E_rows p_d_E_cells)) (c_X1_knownTicket l hG D c9 ad o1.2.1 o1.2.2.1 o1.2.2.2.1 o1.2.2.2.2 p_error p_errorAt p_t_count p_t_cells p_d_time p_d_tolerance p_d_seed p_d_madeTickets p_d_cheesesOfText p_d_R_rows p_d_R_cells p_d_U_rows p_d_U_cells p_d_S_rows p_d_S_cells p_d_T_rows p_d_T_cells p_d_E_rows p_d_E_cells ho2) 0 (gV wc_371 wc_372 wc_373 wc_336 wc_374) rfl rfl rfl ⟨rfl, pd_X1_knownTicket⟩ ⟨Nat.le_of_ble_eq_true rfl, Nat.le_of_ble_eq_true rfl⟩ 0 rfl rfl rfl rfl (Nat.le_of_ble_eq_true rfl) ⟨Nat.zero_le _, Nat.zero_le _⟩ [0, 1, 2, 3, 4, 5, 6, 7, 8, 9, 10, 11, 12, 13] [] [0, 1, 2, 3, 4, 5, 6, 7, 8, 9, 10, 11, 12, 13] rfl rfl rfl rfl dX1_readRefer_6 9 rfl ?_
  refine v_istore_n X (lv' := [(1, .int o2.1), (0, .ref (ad 0))]) dX1_readRefer_9 rfl (by decide) rfl 10 rfl ?_
  refine v_aload_n X dX1_readRefer_10 1 rfl rfl 11 rfl ?_
  refine v_aload_n X dX1_readRefer_11 1 rfl rfl 12 rfl ?_
  refine v_get X (C := RX1) (T := TX1) (N := 8) (ci := 3) (v := _) dX1_readRefer_12 (lay_of layc_X1) 0 rfl rfl 1 (by decide) (mw wc_354) rfl rfl 15 rfl ?_
  refine v_getN X (C := RX5) (T := TX5) (N := 10) (ci := 7) (v := _) dX1_readRefer_15 (lay_of layc_X5) 3 rfl rfl 0 (by decide) nest_RX1_127 rfl rfl 18 rfl ?_
  refine v_iconst X dX1_readRefer_18 ic_0 19 rfl ?_
  obtain ⟨o3, ho3, hf⟩ := bnd hf
  refine v_callVi X (ci := 3) (T := TX1) (C := RX1) (As := [.ref (ad 4), .int 0]) (rest := []) (ws' := (wX1 ad c9 o3.2.1 o3.2.2.1 o3.2.2.2.1 o3.2.2.2.2.1 o3.2.2.2.2.2.1 o3.2.2.2.2.2.2 p_t_count p_t_cells p_d_time p_d_tolerance p_d_seed p_d_madeTickets p_d_cheesesOfText p_d_R_rows p_d_R_cells p_d_U_rows p_d_U_cells p_d_S_rows p_d_S_cells p_d_T_rows p_d_T_cells p_d_E_rows p_d_E_cells)) (c_X1_knownName_realms l hG D c9 ad o2.2.1 o2.2.2.1 o2.2.2.2.1 o2.2.2.2.2.1 o2.2.2.2.2.2.1 o2.2.2.2.2.2.2 p_t_count p_t_cells p_d_time p_d_tolerance p_d_seed p_d_madeTickets p_d_cheesesOfText p_d_R_rows p_d_R_cells p_d_U_rows p_d_U_cells p_d_S_rows p_d_S_cells p_d_T_rows p_d_T_cells p_d_E_rows p_d_E_cells 0 ho3) 2 (gV wc_395 wc_396 wc_397 wc_336 wc_398) rfl rfl rfl ⟨rfl, pd_X1_knownName⟩ ⟨Nat.le_of_ble_eq_true rfl, Nat.le_of_ble_eq_true rfl⟩ 0 rfl rfl rfl rfl (Nat.le_of_ble_eq_true rfl) ⟨Nat.zero_le _, Nat.zero_le _⟩ [0, 1, 2, 3, 4, 5, 6, 7, 8, 9, 10, 11, 12, 13] [] [0, 1, 2, 3, 4, 5, 6, 7, 8, 9, 10, 11, 12, 13] rfl rfl rfl rfl dX1_readRefer_19 22 rfl ?_
  refine v_istore_n X (lv' := [(2, .int o3.1), (1, .int o2.1), (0, .ref (ad 0))]) dX1_readRefer_22 rfl (by decide) rfl 23 rfl ?_
  refine v_aload_n X dX1_readRefer_23 2 rfl rfl 24 rfl ?_
  refine v_aload_n X dX1_readRefer_24 2 rfl rfl 25 rfl ?_
  refine v_get X (C := RX1) (T := TX1) (N := 8) (ci := 3) (v := _) dX1_readRefer_25 (lay_of layc_X1) 0 rfl rfl 1 (by decide) (mw wc_354) rfl rfl 28 rfl ?_
  refine v_iload_n X dX1_readRefer_28 1 rfl rfl 29 rfl ?_
  refine v_iload_n X dX1_readRefer_29 0 rfl rfl 30 rfl ?_
  obtain ⟨o4, ho4, hf⟩ := bnd hf
  refine v_callVi X (ci := 7) (T := TX5) (C := RX5) (As := [.int o2.1, .int o3.1]) (rest := [.ref (ad 0)]) (ws' := (wX1 ad c9 o3.2.1 o3.2.2.1 o3.2.2.2.1 o3.2.2.2.2.1 o3.2.2.2.2.2.1 o3.2.2.2.2.2.2 p_t_count p_t_cells p_d_time p_d_tolerance p_d_seed p_d_madeTickets p_d_cheesesOfText p_d_R_rows p_d_R_cells p_d_U_rows p_d_U_cells p_d_S_rows p_d_S_cells p_d_T_rows p_d_T_cells p_d_E_rows p_d_E_cells)) (c_X5_whyNoReferral l hG D c9 (fun k => ad ([3, 4, 5, 6, 7, 8, 9, 10, 11, 12, 13].getD k 0)) p_d_time p_d_tolerance p_d_seed p_d_madeTickets p_d_cheesesOfText p_d_R_rows p_d_R_cells p_d_U_rows p_d_U_cells p_d_S_rows p_d_S_cells p_d_T_rows p_d_T_cells p_d_E_rows p_d_E_cells o2.1 o3.1 ho4) 2 (gV wc_408 wc_409 wc_410 wc_233 wc_411) rfl rfl rfl ⟨rfl, pd_X5_whyNoReferral⟩ ⟨Nat.le_of_ble_eq_true rfl, Nat.le_of_ble_eq_true rfl⟩ 3 rfl rfl rfl rfl (Nat.le_of_ble_eq_true rfl) ⟨Nat.zero_le _, Nat.zero_le _⟩ [3, 4, 5, 6, 7, 8, 9, 10, 11, 12, 13] [0, 1, 2] [0, 1, 2, 3, 4, 5, 6, 7, 8, 9, 10, 11, 12, 13] rfl rfl rfl rfl dX1_readRefer_30 33 rfl ?_
  obtain ⟨j5, hj5, hf⟩ := bnd hf
  have Jj5 : vW p l e { frames := 4, cells := 0, slots := 0, locals := 113 } s m args below meth c 3 D A [] 0 0 (MQ below (eV D (tyA c9) A ((wX1 ad c9 o.1 o.2.1 o.2.2.1 o.2.2.2.1 o.2.2.2.2.1 o.2.2.2.2.2.1 p_t_count p_t_cells p_d_time p_d_tolerance o.2.2.2.2.2.2.1 o.2.2.2.2.2.2.2.1 p_d_cheesesOfText p_d_R_rows p_d_R_cells p_d_U_rows p_d_U_cells p_d_S_rows p_d_S_cells o.2.2.2.2.2.2.2.2.1 o.2.2.2.2.2.2.2.2.2 p_d_E_rows p_d_E_cells) ++ [])) args s 0 0 A) (wX1 ad c9 o3.2.1 o3.2.2.1 o3.2.2.2.1 o3.2.2.2.2.1 o3.2.2.2.2.2.1 o3.2.2.2.2.2.2 p_t_count p_t_cells p_d_time p_d_tolerance p_d_seed p_d_madeTickets p_d_cheesesOfText p_d_R_rows p_d_R_cells p_d_U_rows p_d_U_cells p_d_S_rows p_d_S_cells p_d_T_rows p_d_T_cells p_d_E_rows p_d_E_cells) 41 [(0, .ref (ad 0)), (1, .int o2.1), (2, .int o3.1)] [.int j5, .ref (ad 0)] := by
    obtain ⟨o6, ho6, hf⟩ := bnd hf
    refine v_callVi X (ci := 3) (T := TX1) (C := RX1) (As := [.int j5]) (rest := []) (ws' := (wX1 ad c9 o6.2.1 o6.2.2.1 o6.2.2.2.1 o6.2.2.2.2.1 o6.2.2.2.2.2.1 o6.2.2.2.2.2.2 p_t_count p_t_cells p_d_time p_d_tolerance p_d_seed p_d_madeTickets p_d_cheesesOfText p_d_R_rows p_d_R_cells p_d_U_rows p_d_U_cells p_d_S_rows p_d_S_cells p_d_T_rows p_d_T_cells p_d_E_rows p_d_E_cells)) (c_X1_semicolon l hG D c9 ad o3.2.1 o3.2.2.1 o3.2.2.2.1 o3.2.2.2.2.1 o3.2.2.2.2.2.1 o3.2.2.2.2.2.2 p_t_count p_t_cells p_d_time p_d_tolerance p_d_seed p_d_madeTickets p_d_cheesesOfText p_d_R_rows p_d_R_cells p_d_U_rows p_d_U_cells p_d_S_rows p_d_S_cells p_d_T_rows p_d_T_cells p_d_E_rows p_d_E_cells j5 ho6) 1 (gV wc_350 wc_351 wc_352 wc_336 wc_353) rfl rfl rfl ⟨rfl, pd_X1_semicolon⟩ ⟨Nat.le_of_ble_eq_true rfl, Nat.le_of_ble_eq_true rfl⟩ 0 rfl rfl rfl rfl (Nat.le_of_ble_eq_true rfl) ⟨Nat.zero_le _, Nat.zero_le _⟩ [0, 1, 2, 3, 4, 5, 6, 7, 8, 9, 10, 11, 12, 13] [] [0, 1, 2, 3, 4, 5, 6, 7, 8, 9, 10, 11, 12, 13] rfl rfl rfl rfl dX1_readRefer_41 44 rfl ?_
    refine v_if_eq X (tgt := 57) dX1_readRefer_44 rfl 47 rfl hf (fun hf => ?_) (fun hf => ?_)
    · obtain rfl := Option.some.inj hf
      exact v_vret X (Nat.zero_le _) (Nat.zero_le _) dX1_readRefer_57
    · refine v_aload_n X dX1_readRefer_47 0 rfl rfl 48 rfl ?_
      refine v_get X (C := RX1) (T := TX1) (N := 8) (ci := 3) (v := _) dX1_readRefer_48 (lay_of layc_X1) 0 rfl rfl 1 (by decide) (mw wc_354) rfl rfl 51 rfl ?_
      refine v_iload_n X dX1_readRefer_51 1 rfl rfl 52 rfl ?_
      refine v_iload_n X dX1_readRefer_52 2 rfl rfl 53 rfl ?_
      obtain ⟨o7, ho7, hf⟩ := bnd hf
      refine v_callVi X (ci := 7) (T := TX5) (C := RX5) (As := [.int o2.1, .int o3.1]) (rest := []) (ws' := (wX1 ad c9 o6.2.1 o6.2.2.1 o6.2.2.2.1 o6.2.2.2.2.1 o6.2.2.2.2.2.1 o6.2.2.2.2.2.2 p_t_count p_t_cells p_d_time p_d_tolerance o7.2.1 o7.2.2.1 p_d_cheesesOfText p_d_R_rows p_d_R_cells p_d_U_rows p_d_U_cells p_d_S_rows p_d_S_cells o7.2.2.2.1 o7.2.2.2.2 p_d_E_rows p_d_E_cells)) (c_X5_makeReferral l hG D c9 (fun k => ad ([3, 4, 5, 6, 7, 8, 9, 10, 11, 12, 13].getD k 0)) p_d_time p_d_tolerance p_d_seed p_d_madeTickets p_d_cheesesOfText p_d_R_rows p_d_R_cells p_d_U_rows p_d_U_cells p_d_S_rows p_d_S_cells p_d_T_rows p_d_T_cells p_d_E_rows p_d_E_cells o2.1 o3.1 ho7) 2 (gV wc_412 wc_413 wc_414 wc_233 wc_415) rfl rfl rfl ⟨rfl, pd_X5_makeReferral⟩ ⟨Nat.le_of_ble_eq_true rfl, Nat.le_of_ble_eq_true rfl⟩ 3 rfl rfl rfl rfl (Nat.le_of_ble_eq_true rfl) ⟨Nat.zero_le _, Nat.zero_le _⟩ [3, 4, 5, 6, 7, 8, 9, 10, 11, 12, 13] [0, 1, 2] [0, 1, 2, 3, 4, 5, 6, 7, 8, 9, 10, 11, 12, 13] rfl rfl rfl rfl dX1_readRefer_53 56 rfl ?_
      refine v_pop X dX1_readRefer_56 rfl 57 rfl ?_
      obtain rfl := Option.some.inj hf
      exact v_vret X (Nat.zero_le _) (Nat.zero_le _) dX1_readRefer_57
  clear hf
  refine v_if_ne X (tgt := 40) dX1_readRefer_33 rfl 36 rfl hj5 (fun hf => ?_) (fun hf => ?_)
  · refine v_iconst X dX1_readRefer_40 ic_0 41 rfl ?_
    obtain rfl := Option.some.inj hf
    refine v_sub (lv' := [(0, .ref (ad 0)), (1, .int o2.1), (2, .int o3.1)]) [2, 1, 0] rfl ?_
    exact Jj5
  · refine v_iconst X dX1_readRefer_36 ic_1 37 rfl ?_
    refine v_goto X (tgt := 41) dX1_readRefer_37 rfl ?_
    obtain rfl := Option.some.inj hf
    refine v_sub (lv' := [(0, .ref (ad 0)), (1, .int o2.1), (2, .int o3.1)]) [2, 1, 0] rfl ?_
    exact Jj5
theorem pd_X1_readRefer : yX1_readRefer.cls ≠ "java/lang/invoke/MethodHandle" ∧ yX1_readRefer.cls ≠ "java/lang/invoke/VarHandle" ∧ (parseMethodDescriptor yX1_readRefer.desc).map (fun d => d.parameters.length) = some 0 := by decide +kernel
def f_X1_knownName_users (p_start : Int32) (p_end : Int32) (p_kind : Int32) (p_value : Int32) (p_error : Int32) (p_errorAt : Int32) (p_t_count : Int32) (p_t_cells : Nat → Int32) (p_d_U_rows : Int32) (p_d_U_cells : Nat → Int32) (v2 : Int32) : Option (Int32 × Int32 × Int32 × Int32 × Int32 × Int32 × Int32) :=
  (f_X6_rowWith 30 5 p_d_U_rows p_d_U_cells v2 p_value).bind fun o1 =>
  Option.bind (if p_kind = 1 then (
    some (1))
  else (
    some (0)) : Option (Int32)) fun j2 =>
  (f_X1_require p_start p_error p_errorAt j2 1).bind fun o3 =>
  Option.bind (if o1 = (-1) then (
    some (0))
  else (
    some (1)) : Option (Int32)) fun j4 =>
  (f_X1_require p_start o3.1 o3.2 j4 4).bind fun o5 =>
  (f_X1_take p_start p_end p_kind p_value o5.1 p_t_count p_t_cells).bind fun o6 =>
  some (o1, o6.2.1, o6.2.2.1, o6.2.2.2.1, o6.2.2.2.2, o5.1, o5.2)
set_option maxRecDepth 100000 in
set_option maxHeartbeats 4000000 in
theorem c_X1_knownName_users (l : Launch) {G : (Nat → Prop) → State → Heap → Prop} (hG : vG G) (D : va_G) (c9 : Nat → ClassId) (ad : Nat → Nat) (p_start : Int32) (p_end : Int32) (p_kind : Int32) (p_value : Int32) (p_error : Int32) (p_errorAt : Int32) (p_t_count : Int32) (p_t_cells : Nat → Int32) (p_d_time : Int32) (p_d_tolerance : Int32) (p_d_seed : Int32) (p_d_madeTickets : Int32) (p_d_cheesesOfText : Int32) (p_d_R_rows : Int32) (p_d_R_cells : Nat → Int32) (p_d_U_rows : Int32) (p_d_U_cells : Nat → Int32) (p_d_S_rows : Int32) (p_d_S_cells : Nat → Int32) (p_d_T_rows : Int32) (p_d_T_cells : Nat → Int32) (p_d_E_rows : Int32) (p_d_E_cells : Nat → Int32) (v2 : Int32) {o : Int32 × Int32 × Int32 × Int32 × Int32 × Int32 × Int32} (hf : f_X1_knownName_users p_start p_end p_kind p_value p_error p_errorAt p_t_count p_t_cells p_d_U_rows p_d_U_cells v2 = some o) : mI l yX1_knownName (wq yX1_knownName cX1_knownName 4 (some .int)) { frames := 3, cells := 0, slots := 0, locals := 86 } G D (tyA c9) [.ref (ad 0), .ref (ad 6), .int v2] (wX1 ad c9 p_start p_end p_kind p_value p_error p_errorAt p_t_count p_t_cells p_d_time p_d_tolerance p_d_seed p_d_madeTickets p_d_cheesesOfText p_d_R_rows p_d_R_cells p_d_U_rows p_d_U_cells p_d_S_rows p_d_S_cells p_d_T_rows p_d_T_cells p_d_E_rows p_d_E_cells) [] 0 0 o.1 (wX1 ad c9 o.2.1 o.2.2.1 o.2.2.2.1 o.2.2.2.2.1 o.2.2.2.2.2.1 o.2.2.2.2.2.2 p_t_count p_t_cells p_d_time p_d_tolerance p_d_seed p_d_madeTickets p_d_cheesesOfText p_d_R_rows p_d_R_cells p_d_U_rows p_d_U_cells p_d_S_rows p_d_S_cells p_d_T_rows p_d_T_cells p_d_E_rows p_d_E_cells) := by
  refine mI_of hG (cc := cX1_knownName) (maxL := 4) (ty := .int) (by decide) rfl (Nat.le_of_ble_eq_true rfl) ?_
  intro p e s m args below meth c A X
  have X : vX p s m args meth c cX1_knownName 4 (some .int) RX1 (wq yX1_knownName cX1_knownName 4 (some .int)) D (tyA c9) G A := X
  refine v_eq (lv2 := [(0, .ref (ad 0)), (1, .ref (ad 6)), (2, .int v2)]) rfl rfl rfl rfl ?_
  rw [f_X1_knownName_users] at hf
  refine v_aload_n X dX1_knownName_0 1 rfl rfl 1 rfl ?_
  refine v_iload_n X dX1_knownName_1 2 rfl rfl 2 rfl ?_
  refine v_aload_n X dX1_knownName_2 0 rfl rfl 3 rfl ?_
  refine v_get X (C := RX1) (T := TX1) (N := 8) (ci := 3) (v := _) dX1_knownName_3 (lay_of layc_X1) 0 rfl rfl 5 (by decide) (mw wc_305) rfl rfl 6 rfl ?_
  obtain ⟨o1, ho1, hf⟩ := bnd hf
  refine v_callUi X (ci := 9) (T := TX8) (C := RX8) (owner := "TicketGate$Table") (As := [.int v2, .int p_value]) (rest := []) (ws' := (wX1 ad c9 p_start p_end p_kind p_value p_error p_errorAt p_t_count p_t_cells p_d_time p_d_tolerance p_d_seed p_d_madeTickets p_d_cheesesOfText p_d_R_rows p_d_R_cells p_d_U_rows p_d_U_cells p_d_S_rows p_d_S_cells p_d_T_rows p_d_T_cells p_d_E_rows p_d_E_cells)) (c_X6_rowWith l hG D c9 (fun k => ad ([6, 7].getD k 0)) 30 9 RX8 rfl layc_X8 wc_214 6 5 p_d_U_rows p_d_U_cells v2 p_value ho1) 2 (gU wc_392 wc_393 wc_416 wc_212 wc_34 wc_213) rfl rfl rfl rfl pd_X6_rowWith_UX1_knownName_247 ⟨Nat.le_of_ble_eq_true rfl, Nat.le_of_ble_eq_true rfl⟩ 6 rfl rfl rfl rfl (Nat.le_of_ble_eq_true rfl) ⟨Nat.zero_le _, Nat.zero_le _⟩ [6, 7] [0, 1, 2, 3, 4, 5, 8, 9, 10, 11, 12, 13] [0, 1, 2, 3, 4, 5, 12, 13, 6, 7, 8, 9, 10, 11] rfl rfl rfl rfl dX1_knownName_6 9 rfl ?_
  refine v_istore_n X (lv' := [(3, .int o1), (0, .ref (ad 0)), (1, .ref (ad 6)), (2, .int v2)]) dX1_knownName_9 rfl (by decide) rfl 10 rfl ?_
  refine v_aload_n X dX1_knownName_10 1 rfl rfl 11 rfl ?_
  refine v_aload_n X dX1_knownName_11 1 rfl rfl 12 rfl ?_
  refine v_get X (C := RX1) (T := TX1) (N := 8) (ci := 3) (v := _) dX1_knownName_12 (lay_of layc_X1) 0 rfl rfl 4 (by decide) (mw wc_315) rfl rfl 15 rfl ?_
  refine v_iconst X dX1_knownName_15 ic_1 16 rfl ?_
  obtain ⟨j2, hj2, hf⟩ := bnd hf
  have Jj2 : vW p l e { frames := 3, cells := 0, slots := 0, locals := 86 } s m args below meth c 4 D A [] 0 0 (MQ below (eI D (tyA c9) A o.1 ((wX1 ad c9 o.2.1 o.2.2.1 o.2.2.2.1 o.2.2.2.2.1 o.2.2.2.2.2.1 o.2.2.2.2.2.2 p_t_count p_t_cells p_d_time p_d_tolerance p_d_seed p_d_madeTickets p_d_cheesesOfText p_d_R_rows p_d_R_cells p_d_U_rows p_d_U_cells p_d_S_rows p_d_S_cells p_d_T_rows p_d_T_cells p_d_E_rows p_d_E_cells) ++ [])) args s 0 0 A) (wX1 ad c9 p_start p_end p_kind p_value p_error p_errorAt p_t_count p_t_cells p_d_time p_d_tolerance p_d_seed p_d_madeTickets p_d_cheesesOfText p_d_R_rows p_d_R_cells p_d_U_rows p_d_U_cells p_d_S_rows p_d_S_cells p_d_T_rows p_d_T_cells p_d_E_rows p_d_E_cells) 24 [(0, .ref (ad 0)), (3, .int o1)] [.int j2, .ref (ad 0)] := by
    refine v_iconst X dX1_knownName_24 ic_1 25 rfl ?_
    obtain ⟨o3, ho3, hf⟩ := bnd hf
    refine v_callVv X (ci := 3) (T := TX1) (C := RX1) (As := [.int j2, .int 1]) (rest := []) (ws' := (wX1 ad c9 p_start p_end p_kind p_value o3.1 o3.2 p_t_count p_t_cells p_d_time p_d_tolerance p_d_seed p_d_madeTickets p_d_cheesesOfText p_d_R_rows p_d_R_cells p_d_U_rows p_d_U_cells p_d_S_rows p_d_S_cells p_d_T_rows p_d_T_cells p_d_E_rows p_d_E_cells)) (c_X1_require l hG D c9 ad p_start p_end p_kind p_value p_error p_errorAt p_t_count p_t_cells p_d_time p_d_tolerance p_d_seed p_d_madeTickets p_d_cheesesOfText p_d_R_rows p_d_R_cells p_d_U_rows p_d_U_cells p_d_S_rows p_d_S_cells p_d_T_rows p_d_T_cells p_d_E_rows p_d_E_cells j2 1 ho3) 2 (gV wc_333 wc_334 wc_335 wc_336 wc_337) rfl rfl rfl ⟨rfl, pd_X1_require⟩ ⟨Nat.le_of_ble_eq_true rfl, Nat.le_of_ble_eq_true rfl⟩ 0 rfl rfl rfl rfl (Nat.le_of_ble_eq_true rfl) ⟨Nat.zero_le _, Nat.zero_le _⟩ [0, 1, 2, 3, 4, 5, 6, 7, 8, 9, 10, 11, 12, 13] [] [0, 1, 2, 3, 4, 5, 6, 7, 8, 9, 10, 11, 12, 13] rfl rfl rfl rfl dX1_knownName_25 28 rfl ?_
    refine v_aload_n X dX1_knownName_28 0 rfl rfl 29 rfl ?_
    refine v_iload_n X dX1_knownName_29 1 rfl rfl 30 rfl ?_
    refine v_iconst X dX1_knownName_30 ic_m1 31 rfl ?_
    obtain ⟨j4, hj4, hf⟩ := bnd hf
    have Jj4 : vW p l e { frames := 3, cells := 0, slots := 0, locals := 86 } s m args below meth c 4 D A [] 0 0 (MQ below (eI D (tyA c9) A o.1 ((wX1 ad c9 o.2.1 o.2.2.1 o.2.2.2.1 o.2.2.2.2.1 o.2.2.2.2.2.1 o.2.2.2.2.2.2 p_t_count p_t_cells p_d_time p_d_tolerance p_d_seed p_d_madeTickets p_d_cheesesOfText p_d_R_rows p_d_R_cells p_d_U_rows p_d_U_cells p_d_S_rows p_d_S_cells p_d_T_rows p_d_T_cells p_d_E_rows p_d_E_cells) ++ [])) args s 0 0 A) (wX1 ad c9 p_start p_end p_kind p_value o3.1 o3.2 p_t_count p_t_cells p_d_time p_d_tolerance p_d_seed p_d_madeTickets p_d_cheesesOfText p_d_R_rows p_d_R_cells p_d_U_rows p_d_U_cells p_d_S_rows p_d_S_cells p_d_T_rows p_d_T_cells p_d_E_rows p_d_E_cells) 39 [(0, .ref (ad 0)), (3, .int o1)] [.int j4, .ref (ad 0)] := by
      refine v_iconst X dX1_knownName_39 ic_4 40 rfl ?_
      obtain ⟨o5, ho5, hf⟩ := bnd hf
      refine v_callVv X (ci := 3) (T := TX1) (C := RX1) (As := [.int j4, .int 4]) (rest := []) (ws' := (wX1 ad c9 p_start p_end p_kind p_value o5.1 o5.2 p_t_count p_t_cells p_d_time p_d_tolerance p_d_seed p_d_madeTickets p_d_cheesesOfText p_d_R_rows p_d_R_cells p_d_U_rows p_d_U_cells p_d_S_rows p_d_S_cells p_d_T_rows p_d_T_cells p_d_E_rows p_d_E_cells)) (c_X1_require l hG D c9 ad p_start p_end p_kind p_value o3.1 o3.2 p_t_count p_t_cells p_d_time p_d_tolerance p_d_seed p_d_madeTickets p_d_cheesesOfText p_d_R_rows p_d_R_cells p_d_U_rows p_d_U_cells p_d_S_rows p_d_S_cells p_d_T_rows p_d_T_cells p_d_E_rows p_d_E_cells j4 4 ho5) 2 (gV wc_333 wc_334 wc_335 wc_336 wc_337) rfl rfl rfl ⟨rfl, pd_X1_require⟩ ⟨Nat.le_of_ble_eq_true rfl, Nat.le_of_ble_eq_true rfl⟩ 0 rfl rfl rfl rfl (Nat.le_of_ble_eq_true rfl) ⟨Nat.zero_le _, Nat.zero_le _⟩ [0, 1, 2, 3, 4, 5, 6, 7, 8, 9, 10, 11, 12, 13] [] [0, 1, 2, 3, 4, 5, 6, 7, 8, 9, 10, 11, 12, 13] rfl rfl rfl rfl dX1_knownName_40 43 rfl ?_
      refine v_aload_n X dX1_knownName_43 0 rfl rfl 44 rfl ?_
      obtain ⟨o6, ho6, hf⟩ := bnd hf
      refine v_callVi X (ci := 3) (T := TX1) (C := RX1) (As := []) (rest := []) (ws' := (wX1 ad c9 o6.2.1 o6.2.2.1 o6.2.2.2.1 o6.2.2.2.2 o5.1 o5.2 p_t_count p_t_cells p_d_time p_d_tolerance p_d_seed p_d_madeTickets p_d_cheesesOfText p_d_R_rows p_d_R_cells p_d_U_rows p_d_U_cells p_d_S_rows p_d_S_cells p_d_T_rows p_d_T_cells p_d_E_rows p_d_E_cells)) (c_X1_take l hG D c9 ad p_start p_end p_kind p_value o5.1 o5.2 p_t_count p_t_cells p_d_time p_d_tolerance p_d_seed p_d_madeTickets p_d_cheesesOfText p_d_R_rows p_d_R_cells p_d_U_rows p_d_U_cells p_d_S_rows p_d_S_cells p_d_T_rows p_d_T_cells p_d_E_rows p_d_E_cells ho6) 0 (gV wc_338 wc_339 wc_340 wc_336 wc_341) rfl rfl rfl ⟨rfl, pd_X1_take⟩ ⟨Nat.le_of_ble_eq_true rfl, Nat.le_of_ble_eq_true rfl⟩ 0 rfl rfl rfl rfl (Nat.le_of_ble_eq_true rfl) ⟨Nat.zero_le _, Nat.zero_le _⟩ [0, 1, 2, 3, 4, 5, 6, 7, 8, 9, 10, 11, 12, 13] [] [0, 1, 2, 3, 4, 5, 6, 7, 8, 9, 10, 11, 12, 13] rfl rfl rfl rfl dX1_knownName_44 47 rfl ?_
      refine v_pop X dX1_knownName_47 rfl 48 rfl ?_
      refine v_iload_n X dX1_knownName_48 1 rfl rfl 49 rfl ?_
      obtain rfl := Option.some.inj hf
      exact v_iret X (Nat.zero_le _) (Nat.zero_le _) dX1_knownName_49
    clear hf
    refine v_icmp_eq X (tgt := 38) dX1_knownName_31 rfl 34 rfl hj4 (fun hf => ?_) (fun hf => ?_)
    · refine v_iconst X dX1_knownName_38 ic_0 39 rfl ?_
      obtain rfl := Option.some.inj hf
      exact Jj4
    · refine v_iconst X dX1_knownName_34 ic_1 35 rfl ?_
      refine v_goto X (tgt := 39) dX1_knownName_35 rfl ?_
      obtain rfl := Option.some.inj hf
      exact Jj4
  clear hf
  refine v_icmp_ne X (tgt := 23) dX1_knownName_16 rfl 19 rfl hj2 (fun hf => ?_) (fun hf => ?_)
  · refine v_iconst X dX1_knownName_23 ic_0 24 rfl ?_
    obtain rfl := Option.some.inj hf
    refine v_sub (lv' := [(0, .ref (ad 0)), (3, .int o1)]) [1, 0] rfl ?_
    exact Jj2
  · refine v_iconst X dX1_knownName_19 ic_1 20 rfl ?_
    refine v_goto X (tgt := 24) dX1_knownName_20 rfl ?_
    obtain rfl := Option.some.inj hf
    refine v_sub (lv' := [(0, .ref (ad 0)), (3, .int o1)]) [1, 0] rfl ?_
    exact Jj2
def f_X1_readLogin (p_start : Int32) (p_end : Int32) (p_kind : Int32) (p_value : Int32) (p_error : Int32) (p_errorAt : Int32) (p_t_count : Int32) (p_t_cells : Nat → Int32) (p_d_time : Int32) (p_d_tolerance : Int32) (p_d_seed : Int32) (p_d_madeTickets : Int32) (p_d_R_rows : Int32) (p_d_R_cells : Nat → Int32) (p_d_U_rows : Int32) (p_d_U_cells : Nat → Int32) (p_d_T_rows : Int32) (p_d_T_cells : Nat → Int32) : Option (Int32 × Int32 × Int32 × Int32 × Int32 × Int32 × Int32 × Int32 × Int32 × (Nat → Int32)) :=
  (f_X1_take p_start p_end p_kind p_value p_error p_t_count p_t_cells).bind fun o1 =>
  (f_X1_knownName_users o1.2.1 o1.2.2.1 o1.2.2.2.1 o1.2.2.2.2 p_error p_errorAt p_t_count p_t_cells p_d_U_rows p_d_U_cells 0).bind fun o2 =>
  (f_X1_number o2.2.1 o2.2.2.1 o2.2.2.2.1 o2.2.2.2.2.1 o2.2.2.2.2.2.1 o2.2.2.2.2.2.2 p_t_count p_t_cells 0 9999).bind fun o3 =>
  (f_X1_isWord o3.2.1 o3.2.2.1 o3.2.2.2.1 p_t_count p_t_cells 18).bind fun o4 =>
  Option.bind (if o4 = 0 then (
    some (o3.2.1, o3.2.2.1, o3.2.2.2.1, o3.2.2.2.2.1))
  else (
    (f_X1_take o3.2.1 o3.2.2.1 o3.2.2.2.1 o3.2.2.2.2.1 o3.2.2.2.2.2.1 p_t_count p_t_cells).bind fun o6 =>
    some (o6.2.1, o6.2.2.1, o6.2.2.2.1, o6.2.2.2.2)) : Option (Int32 × Int32 × Int32 × Int32)) fun j5 =>
  (f_X5_whyNoLogin p_d_tolerance p_d_R_rows p_d_R_cells p_d_U_rows p_d_U_cells p_d_T_rows o2.1 o3.1).bind fun o7 =>
  Option.bind (if o7 = 0 then (
    some (1))
  else (
    some (0)) : Option (Int32)) fun j8 =>
  (f_X1_semicolon j5.1 j5.2.1 j5.2.2.1 j5.2.2.2 o3.2.2.2.2.2.1 o3.2.2.2.2.2.2 p_t_count p_t_cells j8).bind fun o9 =>
  if o9.1 = 0 then (
    some (o9.2.1, o9.2.2.1, o9.2.2.2.1, o9.2.2.2.2.1, o9.2.2.2.2.2.1, o9.2.2.2.2.2.2, p_d_seed, p_d_madeTickets, p_d_T_rows, p_d_T_cells))
  else (
    (f_X5_makeLogin p_d_time p_d_seed p_d_madeTickets p_d_R_rows p_d_R_cells p_d_U_rows p_d_U_cells p_d_T_rows p_d_T_cells o2.1 o4).bind fun o10 =>
    some (o9.2.1, o9.2.2.1, o9.2.2.2.1, o9.2.2.2.2.1, o9.2.2.2.2.2.1, o9.2.2.2.2.2.2, o10.2.1, o10.2.2.1, o10.2.2.2.1, o10.2.2.2.2))
set_option maxRecDepth 100000 in
set_option maxHeartbeats 4000000 in
theorem c_X1_readLogin (l : Launch) {G : (Nat → Prop) → State → Heap → Prop} (hG : vG G) (D : va_G) (c9 : Nat → ClassId) (sk sv : Nat → Nat) (hGU : ∀ (A : Nat → Prop) (U : State) (H : Heap), G A U H → vU sk sv A U H) (ad : Nat → Nat) (p_start : Int32) (p_end : Int32) (p_kind : Int32) (p_value : Int32) (p_error : Int32) (p_errorAt : Int32) (p_t_count : Int32) (p_t_cells : Nat → Int32) (p_d_time : Int32) (p_d_tolerance : Int32) (p_d_seed : Int32) (p_d_madeTickets : Int32) (p_d_cheesesOfText : Int32) (p_d_R_rows : Int32) (p_d_R_cells : Nat → Int32) (p_d_U_rows : Int32) (p_d_U_cells : Nat → Int32) (p_d_S_rows : Int32) (p_d_S_cells : Nat → Int32) (p_d_T_rows : Int32) (p_d_T_cells : Nat → Int32) (p_d_E_rows : Int32) (p_d_E_cells : Nat → Int32)  {o : Int32 × Int32 × Int32 × Int32 × Int32 × Int32 × Int32 × Int32 × Int32 × (Nat → Int32)} (hf : f_X1_readLogin p_start p_end p_kind p_value p_error p_errorAt p_t_count p_t_cells p_d_time p_d_tolerance p_d_seed p_d_madeTickets p_d_R_rows p_d_R_cells p_d_U_rows p_d_U_cells p_d_T_rows p_d_T_cells = some o) : mV l yX1_readLogin (wq yX1_readLogin cX1_readLogin 4 none) { frames := 7, cells := 0, slots := 0, locals := 196 } G D (tyA c9) [.ref (ad 0)] (wX1 ad c9 p_start p_end p_kind p_value p_error p_errorAt p_t_count p_t_cells p_d_time p_d_tolerance p_d_seed p_d_madeTickets p_d_cheesesOfText p_d_R_rows p_d_R_cells p_d_U_rows p_d_U_cells p_d_S_rows p_d_S_cells p_d_T_rows p_d_T_cells p_d_E_rows p_d_E_cells) [] 0 0 (wX1 ad c9 o.1 o.2.1 o.2.2.1 o.2.2.2.1 o.2.2.2.2.1 o.2.2.2.2.2.1 p_t_count p_t_cells p_d_time p_d_tolerance o.2.2.2.2.2.2.1 o.2.2.2.2.2.2.2.1 p_d_cheesesOfText p_d_R_rows p_d_R_cells p_d_U_rows p_d_U_cells p_d_S_rows p_d_S_cells o.2.2.2.2.2.2.2.2.1 o.2.2.2.2.2.2.2.2.2 p_d_E_rows p_d_E_cells) := by
  refine mV_of hG (cc := cX1_readLogin) (maxL := 4) (by decide) rfl (Nat.le_of_ble_eq_true rfl) ?_
  intro p e s m args below meth c A hnm X
  have X : vX p s m args meth c cX1_readLogin 4 none RX1 (wq yX1_readLogin cX1_readLogin 4 none) D (tyA c9) G A := X
  refine v_eq (lv2 := [(0, .ref (ad 0))]) rfl rfl rfl rfl ?_
  rw [f_X1_readLogin] at hf
  refine v_aload_n X dX1_readLogin_0 0 rfl rfl 1 rfl ?_
  obtain ⟨o1, ho1, hf⟩ := bnd hf
  refine v_callVi X (ci := 3) (T := TX1) (C := RX1) (As := []) (rest := []) (ws' := (wX1 ad c9 o1.2.1 o1.2.2.1 o1.2.2.2.1 o1.2.2.2.2 p_error p_errorAt p_t_count p_t_cells p_d_time p_d_tolerance p_d_seed p_d_madeTickets p_d_cheesesOfText p_d_R_rows p_d_R_cells p_d_U_rows p_d_U_cells p_d_S_rows p_d_S_cells p_d_T_rows p_d_T_cells p_d_E_rows p_d_E_cells)) (c_X1_take l hG D c9 ad p_start p_end p_kind p_value p_error p_errorAt p_t_count p_t_cells p_d_time p_d_tolerance p_d_seed p_d_madeTickets p_d_cheesesOfText p_d_R_rows p_d_R_cells p_d_U_rows p_d_U_cells p_d_S_rows p_d_S_cells p_d_T_rows p_d_T_cells p_d_E_rows p_d_E_cells ho1) 0 (gV wc_338 wc_339 wc_340 wc_336 wc_341) rfl rfl rfl ⟨rfl, pd_X1_take⟩ ⟨Nat.le_of_ble_eq_true rfl, Nat.le_of_ble_eq_true rfl⟩ 0 rfl rfl rfl rfl (Nat.le_of_ble_eq_true rfl) ⟨Nat.zero_le _, Nat.zero_le _⟩ [0, 1, 2, 3, 4, 5, 6, 7, 8, 9, 10, 11, 12, 13] [] [0, 1, 2, 3, 4, 5, 6, 7, 8, 9, 10, 11, 12, 13] rfl rfl rfl rfl dX1_readLogin_1 4 rfl ?_
  refine v_pop X dX1_readLogin_4 rfl 5 rfl ?_
  refine v_aload_n X dX1_readLogin_5 0 rfl rfl 6 rfl ?_
  refine v_aload_n X dX1_readLogin_6 0 rfl rfl 7 rfl ?_
  refine v_get X (C := RX1) (T := TX1) (N := 8) (ci := 3) (v := _) dX1_readLogin_7 (lay_of layc_X1) 0 rfl rfl 1 (by decide) (mw wc_354) rfl rfl 10 rfl ?_
  refine v_getN X (C := RX5) (T := TX5) (N := 10) (ci := 7) (v := _) dX1_readLogin_10 (lay_of layc_X5) 3 rfl rfl 1 (by decide) nest_RX1_164 rfl rfl 13 rfl ?_
  refine v_iconst X dX1_readLogin_13 ic_0 14 rfl ?_
  obtain ⟨o2, ho2, hf⟩ := bnd hf
  refine v_callVi X (ci := 3) (T := TX1) (C := RX1) (As := [.ref (ad 6), .int 0]) (rest := []) (ws' := (wX1 ad c9 o2.2.1 o2.2.2.1 o2.2.2.2.1 o2.2.2.2.2.1 o2.2.2.2.2.2.1 o2.2.2.2.2.2.2 p_t_count p_t_cells p_d_time p_d_tolerance p_d_seed p_d_madeTickets p_d_cheesesOfText p_d_R_rows p_d_R_cells p_d_U_rows p_d_U_cells p_d_S_rows p_d_S_cells p_d_T_rows p_d_T_cells p_d_E_rows p_d_E_cells)) (c_X1_knownName_users l hG D c9 ad o1.2.1 o1.2.2.1 o1.2.2.2.1 o1.2.2.2.2 p_error p_errorAt p_t_count p_t_cells p_d_time p_d_tolerance p_d_seed p_d_madeTickets p_d_cheesesOfText p_d_R_rows p_d_R_cells p_d_U_rows p_d_U_cells p_d_S_rows p_d_S_cells p_d_T_rows p_d_T_cells p_d_E_rows p_d_E_cells 0 ho2) 2 (gV wc_395 wc_396 wc_397 wc_336 wc_398) rfl rfl rfl ⟨rfl, pd_X1_knownName⟩ ⟨Nat.le_of_ble_eq_true rfl, Nat.le_of_ble_eq_true rfl⟩ 0 rfl rfl rfl rfl (Nat.le_of_ble_eq_true rfl) ⟨Nat.zero_le _, Nat.zero_le _⟩ [0, 1, 2, 3, 4, 5, 6, 7, 8, 9, 10, 11, 12, 13] [] [0, 1, 2, 3, 4, 5, 6, 7, 8, 9, 10, 11, 12, 13] rfl rfl rfl rfl dX1_readLogin_14 17 rfl ?_
  refine v_istore_n X (lv' := [(1, .int o2.1), (0, .ref (ad 0))]) dX1_readLogin_17 rfl (by decide) rfl 18 rfl ?_
  refine v_aload_n X dX1_readLogin_18 1 rfl rfl 19 rfl ?_
  refine v_iconst X dX1_readLogin_19 ic_0 20 rfl ?_
  refine v_sipush X dX1_readLogin_20 sp_9999 23 rfl ?_
  obtain ⟨o3, ho3, hf⟩ := bnd hf
  refine v_callVi X (ci := 3) (T := TX1) (C := RX1) (As := [.int 0, .int 9999]) (rest := []) (ws' := (wX1 ad c9 o3.2.1 o3.2.2.1 o3.2.2.2.1 o3.2.2.2.2.1 o3.2.2.2.2.2.1 o3.2.2.2.2.2.2 p_t_count p_t_cells p_d_time p_d_tolerance p_d_seed p_d_madeTickets p_d_cheesesOfText p_d_R_rows p_d_R_cells p_d_U_rows p_d_U_cells p_d_S_rows p_d_S_cells p_d_T_rows p_d_T_cells p_d_E_rows p_d_E_cells)) (c_X1_number l hG D c9 ad o2.2.1 o2.2.2.1 o2.2.2.2.1 o2.2.2.2.2.1 o2.2.2.2.2.2.1 o2.2.2.2.2.2.2 p_t_count p_t_cells p_d_time p_d_tolerance p_d_seed p_d_madeTickets p_d_cheesesOfText p_d_R_rows p_d_R_cells p_d_U_rows p_d_U_cells p_d_S_rows p_d_S_cells p_d_T_rows p_d_T_cells p_d_E_rows p_d_E_cells 0 9999 ho3) 2 (gV wc_346 wc_347 wc_348 wc_336 wc_349) rfl rfl rfl ⟨rfl, pd_X1_number⟩ ⟨Nat.le_of_ble_eq_true rfl, Nat.le_of_ble_eq_true rfl⟩ 0 rfl rfl rfl rfl (Nat.le_of_ble_eq_true rfl) ⟨Nat.zero_le _, Nat.zero_le _⟩ [0, 1, 2, 3, 4, 5, 6, 7, 8, 9, 10, 11, 12, 13] [] [0, 1, 2, 3, 4, 5, 6, 7, 8, 9, 10, 11, 12, 13] rfl rfl rfl rfl dX1_readLogin_23 26 rfl ?_
  refine v_istore_n X (lv' := [(2, .int o3.1), (1, .int o2.1), (0, .ref (ad 0))]) dX1_readLogin_26 rfl (by decide) rfl 27 rfl ?_
  refine v_aload_n X dX1_readLogin_27 2 rfl rfl 28 rfl ?_
  refine v_lds X hGU (i := 18) dX1_readLogin_28 js_RX1_188 30 rfl ?_
  obtain ⟨o4, ho4, hf⟩ := bnd hf
  refine v_callVi X (ci := 3) (T := TX1) (C := RX1) (As := [.ref (sk 18)]) (rest := []) (ws' := (wX1 ad c9 o3.2.1 o3.2.2.1 o3.2.2.2.1 o3.2.2.2.2.1 o3.2.2.2.2.2.1 o3.2.2.2.2.2.2 p_t_count p_t_cells p_d_time p_d_tolerance p_d_seed p_d_madeTickets p_d_cheesesOfText p_d_R_rows p_d_R_cells p_d_U_rows p_d_U_cells p_d_S_rows p_d_S_cells p_d_T_rows p_d_T_cells p_d_E_rows p_d_E_cells)) (c_X1_isWord l hG D c9 sk sv hGU ad o3.2.1 o3.2.2.1 o3.2.2.2.1 o3.2.2.2.2.1 o3.2.2.2.2.2.1 o3.2.2.2.2.2.2 p_t_count p_t_cells p_d_time p_d_tolerance p_d_seed p_d_madeTickets p_d_cheesesOfText p_d_R_rows p_d_R_cells p_d_U_rows p_d_U_cells p_d_S_rows p_d_S_cells p_d_T_rows p_d_T_cells p_d_E_rows p_d_E_cells 18 (by decide) ho4) 1 (gV wc_342 wc_343 wc_344 wc_336 wc_345) rfl rfl rfl ⟨rfl, pd_X1_isWord⟩ ⟨Nat.le_of_ble_eq_true rfl, Nat.le_of_ble_eq_true rfl⟩ 0 rfl rfl rfl rfl (Nat.le_of_ble_eq_true rfl) ⟨Nat.zero_le _, Nat.zero_le _⟩ [0, 1, 2, 3, 4, 5, 6, 7, 8, 9, 10, 11, 12, 13] [] [0, 1, 2, 3, 4, 5, 6, 7, 8, 9, 10, 11, 12, 13] rfl rfl rfl rfl dX1_readLogin_30 33 rfl ?_
  refine v_istore_n X (lv' := [(3, .int o4), (2, .int o3.1), (1, .int o2.1), (0, .ref (ad 0))]) dX1_readLogin_33 rfl (by decide) rfl 34 rfl ?_
  refine v_iload_n X dX1_readLogin_34 0 rfl rfl 35 rfl ?_
  obtain ⟨j5, hj5, hf⟩ := bnd hf
  have Jj5 : vW p l e { frames := 7, cells := 0, slots := 0, locals := 196 } s m args below meth c 4 D A [] 0 0 (MQ below (eV D (tyA c9) A ((wX1 ad c9 o.1 o.2.1 o.2.2.1 o.2.2.2.1 o.2.2.2.2.1 o.2.2.2.2.2.1 p_t_count p_t_cells p_d_time p_d_tolerance o.2.2.2.2.2.2.1 o.2.2.2.2.2.2.2.1 p_d_cheesesOfText p_d_R_rows p_d_R_cells p_d_U_rows p_d_U_cells p_d_S_rows p_d_S_cells o.2.2.2.2.2.2.2.2.1 o.2.2.2.2.2.2.2.2.2 p_d_E_rows p_d_E_cells) ++ [])) args s 0 0 A) (wX1 ad c9 j5.1 j5.2.1 j5.2.2.1 j5.2.2.2 o3.2.2.2.2.2.1 o3.2.2.2.2.2.2 p_t_count p_t_cells p_d_time p_d_tolerance p_d_seed p_d_madeTickets p_d_cheesesOfText p_d_R_rows p_d_R_cells p_d_U_rows p_d_U_cells p_d_S_rows p_d_S_cells p_d_T_rows p_d_T_cells p_d_E_rows p_d_E_cells) 43 [(0, .ref (ad 0)), (1, .int o2.1), (2, .int o3.1), (3, .int o4)] [] := by
    refine v_aload_n X dX1_readLogin_43 0 rfl rfl 44 rfl ?_
    refine v_aload_n X dX1_readLogin_44 0 rfl rfl 45 rfl ?_
    refine v_get X (C := RX1) (T := TX1) (N := 8) (ci := 3) (v := _) dX1_readLogin_45 (lay_of layc_X1) 0 rfl rfl 1 (by decide) (mw wc_354) rfl rfl 48 rfl ?_
    refine v_iload_n X dX1_readLogin_48 1 rfl rfl 49 rfl ?_
    refine v_iload_n X dX1_readLogin_49 2 rfl rfl 50 rfl ?_
    obtain ⟨o7, ho7, hf⟩ := bnd hf
    refine v_callVi X (ci := 7) (T := TX5) (C := RX5) (As := [.int o2.1, .int o3.1]) (rest := [.ref (ad 0)]) (ws' := (wX1 ad c9 j5.1 j5.2.1 j5.2.2.1 j5.2.2.2 o3.2.2.2.2.2.1 o3.2.2.2.2.2.2 p_t_count p_t_cells p_d_time p_d_tolerance p_d_seed p_d_madeTickets p_d_cheesesOfText p_d_R_rows p_d_R_cells p_d_U_rows p_d_U_cells p_d_S_rows p_d_S_cells p_d_T_rows p_d_T_cells p_d_E_rows p_d_E_cells)) (c_X5_whyNoLogin l hG D c9 (fun k => ad ([3, 4, 5, 6, 7, 8, 9, 10, 11, 12, 13].getD k 0)) p_d_time p_d_tolerance p_d_seed p_d_madeTickets p_d_cheesesOfText p_d_R_rows p_d_R_cells p_d_U_rows p_d_U_cells p_d_S_rows p_d_S_cells p_d_T_rows p_d_T_cells p_d_E_rows p_d_E_cells o2.1 o3.1 ho7) 2 (gV wc_417 wc_418 wc_419 wc_233 wc_420) rfl rfl rfl ⟨rfl, pd_X5_whyNoLogin⟩ ⟨Nat.le_of_ble_eq_true rfl, Nat.le_of_ble_eq_true rfl⟩ 3 rfl rfl rfl rfl (Nat.le_of_ble_eq_true rfl) ⟨Nat.zero_le _, Nat.zero_le _⟩ [3, 4, 5, 6, 7, 8, 9, 10, 11, 12, 13] [0, 1, 2] [0, 1, 2, 3, 4, 5, 6, 7, 8, 9, 10, 11, 12, 13] rfl rfl rfl rfl dX1_readLogin_50 53 rfl ?_
    obtain ⟨j8, hj8, hf⟩ := bnd hf
    have Jj8 : vW p l e { frames := 7, cells := 0, slots := 0, locals := 196 } s m args below meth c 4 D A [] 0 0 (MQ below (eV D (tyA c9) A ((wX1 ad c9 o.1 o.2.1 o.2.2.1 o.2.2.2.1 o.2.2.2.2.1 o.2.2.2.2.2.1 p_t_count p_t_cells p_d_time p_d_tolerance o.2.2.2.2.2.2.1 o.2.2.2.2.2.2.2.1 p_d_cheesesOfText p_d_R_rows p_d_R_cells p_d_U_rows p_d_U_cells p_d_S_rows p_d_S_cells o.2.2.2.2.2.2.2.2.1 o.2.2.2.2.2.2.2.2.2 p_d_E_rows p_d_E_cells) ++ [])) args s 0 0 A) (wX1 ad c9 j5.1 j5.2.1 j5.2.2.1 j5.2.2.2 o3.2.2.2.2.2.1 o3.2.2.2.2.2.2 p_t_count p_t_cells p_d_time p_d_tolerance p_d_seed p_d_madeTickets p_d_cheesesOfText p_d_R_rows p_d_R_cells p_d_U_rows p_d_U_cells p_d_S_rows p_d_S_cells p_d_T_rows p_d_T_cells p_d_E_rows p_d_E_cells) 61 [(0, .ref (ad 0)), (1, .int o2.1), (3, .int o4)] [.int j8, .ref (ad 0)] := by
      obtain ⟨o9, ho9, hf⟩ := bnd hf
      refine v_callVi X (ci := 3) (T := TX1) (C := RX1) (As := [.int j8]) (rest := []) (ws' := (wX1 ad c9 o9.2.1 o9.2.2.1 o9.2.2.2.1 o9.2.2.2.2.1 o9.2.2.2.2.2.1 o9.2.2.2.2.2.2 p_t_count p_t_cells p_d_time p_d_tolerance p_d_seed p_d_madeTickets p_d_cheesesOfText p_d_R_rows p_d_R_cells p_d_U_rows p_d_U_cells p_d_S_rows p_d_S_cells p_d_T_rows p_d_T_cells p_d_E_rows p_d_E_cells)) (c_X1_semicolon l hG D c9 ad j5.1 j5.2.1 j5.2.2.1 j5.2.2.2 o3.2.2.2.2.2.1 o3.2.2.2.2.2.2 p_t_count p_t_cells p_d_time p_d_tolerance p_d_seed p_d_madeTickets p_d_cheesesOfText p_d_R_rows p_d_R_cells p_d_U_rows p_d_U_cells p_d_S_rows p_d_S_cells p_d_T_rows p_d_T_cells p_d_E_rows p_d_E_cells j8 ho9) 1 (gV wc_350 wc_351 wc_352 wc_336 wc_353) rfl rfl rfl ⟨rfl, pd_X1_semicolon⟩ ⟨Nat.le_of_ble_eq_true rfl, Nat.le_of_ble_eq_true rfl⟩ 0 rfl rfl rfl rfl (Nat.le_of_ble_eq_true rfl) ⟨Nat.zero_le _, Nat.zero_le _⟩ [0, 1, 2, 3, 4, 5, 6, 7, 8, 9, 10, 11, 12, 13] [] [0, 1, 2, 3, 4, 5, 6, 7, 8, 9, 10, 11, 12, 13] rfl rfl rfl rfl dX1_readLogin_61 64 rfl ?_
      refine v_if_eq X (tgt := 77) dX1_readLogin_64 rfl 67 rfl hf (fun hf => ?_) (fun hf => ?_)
      · obtain rfl := Option.some.inj hf
        exact v_vret X (Nat.zero_le _) (Nat.zero_le _) dX1_readLogin_77
      · refine v_aload_n X dX1_readLogin_67 0 rfl rfl 68 rfl ?_
        refine v_get X (C := RX1) (T := TX1) (N := 8) (ci := 3) (v := _) dX1_readLogin_68 (lay_of layc_X1) 0 rfl rfl 1 (by decide) (mw wc_354) rfl rfl 71 rfl ?_
        refine v_iload_n X dX1_readLogin_71 1 rfl rfl 72 rfl ?_
        refine v_iload_n X dX1_readLogin_72 2 rfl rfl 73 rfl ?_
        obtain ⟨o10, ho10, hf⟩ := bnd hf
        refine v_callVi X (ci := 7) (T := TX5) (C := RX5) (As := [.int o2.1, .int o4]) (rest := []) (ws' := (wX1 ad c9 o9.2.1 o9.2.2.1 o9.2.2.2.1 o9.2.2.2.2.1 o9.2.2.2.2.2.1 o9.2.2.2.2.2.2 p_t_count p_t_cells p_d_time p_d_tolerance o10.2.1 o10.2.2.1 p_d_cheesesOfText p_d_R_rows p_d_R_cells p_d_U_rows p_d_U_cells p_d_S_rows p_d_S_cells o10.2.2.2.1 o10.2.2.2.2 p_d_E_rows p_d_E_cells)) (c_X5_makeLogin l hG D c9 (fun k => ad ([3, 4, 5, 6, 7, 8, 9, 10, 11, 12, 13].getD k 0)) p_d_time p_d_tolerance p_d_seed p_d_madeTickets p_d_cheesesOfText p_d_R_rows p_d_R_cells p_d_U_rows p_d_U_cells p_d_S_rows p_d_S_cells p_d_T_rows p_d_T_cells p_d_E_rows p_d_E_cells o2.1 o4 ho10) 2 (gV wc_421 wc_422 wc_423 wc_233 wc_424) rfl rfl rfl ⟨rfl, pd_X5_makeLogin⟩ ⟨Nat.le_of_ble_eq_true rfl, Nat.le_of_ble_eq_true rfl⟩ 3 rfl rfl rfl rfl (Nat.le_of_ble_eq_true rfl) ⟨Nat.zero_le _, Nat.zero_le _⟩ [3, 4, 5, 6, 7, 8, 9, 10, 11, 12, 13] [0, 1, 2] [0, 1, 2, 3, 4, 5, 6, 7, 8, 9, 10, 11, 12, 13] rfl rfl rfl rfl dX1_readLogin_73 76 rfl ?_
        refine v_pop X dX1_readLogin_76 rfl 77 rfl ?_
        obtain rfl := Option.some.inj hf
        exact v_vret X (Nat.zero_le _) (Nat.zero_le _) dX1_readLogin_77
    clear hf
    refine v_if_ne X (tgt := 60) dX1_readLogin_53 rfl 56 rfl hj8 (fun hf => ?_) (fun hf => ?_)
    · refine v_iconst X dX1_readLogin_60 ic_0 61 rfl ?_
      obtain rfl := Option.some.inj hf
      refine v_sub (lv' := [(0, .ref (ad 0)), (1, .int o2.1), (3, .int o4)]) [0, 1, 3] rfl ?_
      exact Jj8
    · refine v_iconst X dX1_readLogin_56 ic_1 57 rfl ?_
      refine v_goto X (tgt := 61) dX1_readLogin_57 rfl ?_
      obtain rfl := Option.some.inj hf
      refine v_sub (lv' := [(0, .ref (ad 0)), (1, .int o2.1), (3, .int o4)]) [0, 1, 3] rfl ?_
      exact Jj8
  clear hf
  refine v_if_eq X (tgt := 43) dX1_readLogin_35 rfl 38 rfl hj5 (fun hf => ?_) (fun hf => ?_)
  · obtain rfl := Option.some.inj hf
    refine v_sub (lv' := [(0, .ref (ad 0)), (1, .int o2.1), (2, .int o3.1), (3, .int o4)]) [3, 2, 1, 0] rfl ?_
    exact Jj5
  · refine v_aload_n X dX1_readLogin_38 3 rfl rfl 39 rfl ?_
    obtain ⟨o6, ho6, hf⟩ := bnd hf
    refine v_callVi X (ci := 3) (T := TX1) (C := RX1) (As := []) (rest := []) (ws' := (wX1 ad c9 o6.2.1 o6.2.2.1 o6.2.2.2.1 o6.2.2.2.2 o3.2.2.2.2.2.1 o3.2.2.2.2.2.2 p_t_count p_t_cells p_d_time p_d_tolerance p_d_seed p_d_madeTickets p_d_cheesesOfText p_d_R_rows p_d_R_cells p_d_U_rows p_d_U_cells p_d_S_rows p_d_S_cells p_d_T_rows p_d_T_cells p_d_E_rows p_d_E_cells)) (c_X1_take l hG D c9 ad o3.2.1 o3.2.2.1 o3.2.2.2.1 o3.2.2.2.2.1 o3.2.2.2.2.2.1 o3.2.2.2.2.2.2 p_t_count p_t_cells p_d_time p_d_tolerance p_d_seed p_d_madeTickets p_d_cheesesOfText p_d_R_rows p_d_R_cells p_d_U_rows p_d_U_cells p_d_S_rows p_d_S_cells p_d_T_rows p_d_T_cells p_d_E_rows p_d_E_cells ho6) 0 (gV wc_338 wc_339 wc_340 wc_336 wc_341) rfl rfl rfl ⟨rfl, pd_X1_take⟩ ⟨Nat.le_of_ble_eq_true rfl, Nat.le_of_ble_eq_true rfl⟩ 0 rfl rfl rfl rfl (Nat.le_of_ble_eq_true rfl) ⟨Nat.zero_le _, Nat.zero_le _⟩ [0, 1, 2, 3, 4, 5, 6, 7, 8, 9, 10, 11, 12, 13] [] [0, 1, 2, 3, 4, 5, 6, 7, 8, 9, 10, 11, 12, 13] rfl rfl rfl rfl dX1_readLogin_39 42 rfl ?_
    refine v_pop X dX1_readLogin_42 rfl 43 rfl ?_
    obtain rfl := Option.some.inj hf
    refine v_sub (lv' := [(0, .ref (ad 0)), (1, .int o2.1), (2, .int o3.1), (3, .int o4)]) [3, 2, 1, 0] rfl ?_
    exact Jj5
theorem pd_X1_readLogin : yX1_readLogin.cls ≠ "java/lang/invoke/MethodHandle" ∧ yX1_readLogin.cls ≠ "java/lang/invoke/VarHandle" ∧ (parseMethodDescriptor yX1_readLogin.desc).map (fun d => d.parameters.length) = some 0 := by decide +kernel
def f_X1_newName (p_start : Int32) (p_end : Int32) (p_kind : Int32) (p_value : Int32) (p_error : Int32) (p_errorAt : Int32) (p_t_count : Int32) (p_t_cells : Nat → Int32) (p_d_R_rows : Int32) (p_d_R_cells : Nat → Int32) (p_d_U_rows : Int32) (p_d_U_cells : Nat → Int32) (p_d_S_rows : Int32) (p_d_S_cells : Nat → Int32) : Option (Int32 × Int32 × Int32 × Int32 × Int32 × Int32 × Int32) :=
  Option.bind (if p_kind = 1 then (
    some (1))
  else (
    some (0)) : Option (Int32)) fun j1 =>
  (f_X1_require p_start p_error p_errorAt j1 1).bind fun o2 =>
  Option.bind (if p_value = 0 then (
    some (0))
  else (
    some (1)) : Option (Int32)) fun j3 =>
  (f_X1_require p_start o2.1 o2.2 j3 2).bind fun o4 =>
  (f_X5_codeOfName p_d_R_rows p_d_R_cells p_d_U_rows p_d_U_cells p_d_S_rows p_d_S_cells p_value).bind fun o5 =>
  Option.bind (if o5 = (-1) then (
    some (1))
  else (
    some (0)) : Option (Int32)) fun j6 =>
  (f_X1_require p_start o4.1 o4.2 j6 3).bind fun o7 =>
  (f_X1_take p_start p_end p_kind p_value o7.1 p_t_count p_t_cells).bind fun o8 =>
  some (o8.1, o8.2.1, o8.2.2.1, o8.2.2.2.1, o8.2.2.2.2, o7.1, o7.2)
set_option maxRecDepth 100000 in
set_option maxHeartbeats 4000000 in
theorem c_X1_newName (l : Launch) {G : (Nat → Prop) → State → Heap → Prop} (hG : vG G) (D : va_G) (c9 : Nat → ClassId) (ad : Nat → Nat) (p_start : Int32) (p_end : Int32) (p_kind : Int32) (p_value : Int32) (p_error : Int32) (p_errorAt : Int32) (p_t_count : Int32) (p_t_cells : Nat → Int32) (p_d_time : Int32) (p_d_tolerance : Int32) (p_d_seed : Int32) (p_d_madeTickets : Int32) (p_d_cheesesOfText : Int32) (p_d_R_rows : Int32) (p_d_R_cells : Nat → Int32) (p_d_U_rows : Int32) (p_d_U_cells : Nat → Int32) (p_d_S_rows : Int32) (p_d_S_cells : Nat → Int32) (p_d_T_rows : Int32) (p_d_T_cells : Nat → Int32) (p_d_E_rows : Int32) (p_d_E_cells : Nat → Int32)  {o : Int32 × Int32 × Int32 × Int32 × Int32 × Int32 × Int32} (hf : f_X1_newName p_start p_end p_kind p_value p_error p_errorAt p_t_count p_t_cells p_d_R_rows p_d_R_cells p_d_U_rows p_d_U_cells p_d_S_rows p_d_S_cells = some o) : mI l yX1_newName (wq yX1_newName cX1_newName 1 (some .int)) { frames := 3, cells := 0, slots := 0, locals := 86 } G D (tyA c9) [.ref (ad 0)] (wX1 ad c9 p_start p_end p_kind p_value p_error p_errorAt p_t_count p_t_cells p_d_time p_d_tolerance p_d_seed p_d_madeTickets p_d_cheesesOfText p_d_R_rows p_d_R_cells p_d_U_rows p_d_U_cells p_d_S_rows p_d_S_cells p_d_T_rows p_d_T_cells p_d_E_rows p_d_E_cells) [] 0 0 o.1 (wX1 ad c9 o.2.1 o.2.2.1 o.2.2.2.1 o.2.2.2.2.1 o.2.2.2.2.2.1 o.2.2.2.2.2.2 p_t_count p_t_cells p_d_time p_d_tolerance p_d_seed p_d_madeTickets p_d_cheesesOfText p_d_R_rows p_d_R_cells p_d_U_rows p_d_U_cells p_d_S_rows p_d_S_cells p_d_T_rows p_d_T_cells p_d_E_rows p_d_E_cells) := by
  refine mI_of hG (cc := cX1_newName) (maxL := 1) (ty := .int) (by decide) rfl (Nat.le_of_ble_eq_true rfl) ?_
  intro p e s m args below meth c A X
  have X : vX p s m args meth c cX1_newName 1 (some .int) RX1 (wq yX1_newName cX1_newName 1 (some .int)) D (tyA c9) G A := X
  refine v_eq (lv2 := [(0, .ref (ad 0))]) rfl rfl rfl rfl ?_
  rw [f_X1_newName] at hf
  refine v_aload_n X dX1_newName_0 0 rfl rfl 1 rfl ?_
  refine v_aload_n X dX1_newName_1 0 rfl rfl 2 rfl ?_
  refine v_get X (C := RX1) (T := TX1) (N := 8) (ci := 3) (v := _) dX1_newName_2 (lay_of layc_X1) 0 rfl rfl 4 (by decide) (mw wc_315) rfl rfl 5 rfl ?_
  refine v_iconst X dX1_newName_5 ic_1 6 rfl ?_
  obtain ⟨j1, hj1, hf⟩ := bnd hf
  have Jj1 : vW p l e { frames := 3, cells := 0, slots := 0, locals := 86 } s m args below meth c 1 D A [] 0 0 (MQ below (eI D (tyA c9) A o.1 ((wX1 ad c9 o.2.1 o.2.2.1 o.2.2.2.1 o.2.2.2.2.1 o.2.2.2.2.2.1 o.2.2.2.2.2.2 p_t_count p_t_cells p_d_time p_d_tolerance p_d_seed p_d_madeTickets p_d_cheesesOfText p_d_R_rows p_d_R_cells p_d_U_rows p_d_U_cells p_d_S_rows p_d_S_cells p_d_T_rows p_d_T_cells p_d_E_rows p_d_E_cells) ++ [])) args s 0 0 A) (wX1 ad c9 p_start p_end p_kind p_value p_error p_errorAt p_t_count p_t_cells p_d_time p_d_tolerance p_d_seed p_d_madeTickets p_d_cheesesOfText p_d_R_rows p_d_R_cells p_d_U_rows p_d_U_cells p_d_S_rows p_d_S_cells p_d_T_rows p_d_T_cells p_d_E_rows p_d_E_cells) 14 [(0, .ref (ad 0))] [.int j1, .ref (ad 0)] := by
    refine v_iconst X dX1_newName_14 ic_1 15 rfl ?_
    obtain ⟨o2, ho2, hf⟩ := bnd hf
    refine v_callVv X (ci := 3) (T := TX1) (C := RX1) (As := [.int j1, .int 1]) (rest := []) (ws' := (wX1 ad c9 p_start p_end p_kind p_value o2.1 o2.2 p_t_count p_t_cells p_d_time p_d_tolerance p_d_seed p_d_madeTickets p_d_cheesesOfText p_d_R_rows p_d_R_cells p_d_U_rows p_d_U_cells p_d_S_rows p_d_S_cells p_d_T_rows p_d_T_cells p_d_E_rows p_d_E_cells)) (c_X1_require l hG D c9 ad p_start p_end p_kind p_value p_error p_errorAt p_t_count p_t_cells p_d_time p_d_tolerance p_d_seed p_d_madeTickets p_d_cheesesOfText p_d_R_rows p_d_R_cells p_d_U_rows p_d_U_cells p_d_S_rows p_d_S_cells p_d_T_rows p_d_T_cells p_d_E_rows p_d_E_cells j1 1 ho2) 2 (gV wc_333 wc_334 wc_335 wc_336 wc_337) rfl rfl rfl ⟨rfl, pd_X1_require⟩ ⟨Nat.le_of_ble_eq_true rfl, Nat.le_of_ble_eq_true rfl⟩ 0 rfl rfl rfl rfl (Nat.le_of_ble_eq_true rfl) ⟨Nat.zero_le _, Nat.zero_le _⟩ [0, 1, 2, 3, 4, 5, 6, 7, 8, 9, 10, 11, 12, 13] [] [0, 1, 2, 3, 4, 5, 6, 7, 8, 9, 10, 11, 12, 13] rfl rfl rfl rfl dX1_newName_15 18 rfl ?_
    refine v_aload_n X dX1_newName_18 0 rfl rfl 19 rfl ?_
    refine v_aload_n X dX1_newName_19 0 rfl rfl 20 rfl ?_
    refine v_get X (C := RX1) (T := TX1) (N := 8) (ci := 3) (v := _) dX1_newName_20 (lay_of layc_X1) 0 rfl rfl 5 (by decide) (mw wc_305) rfl rfl 23 rfl ?_
    obtain ⟨j3, hj3, hf⟩ := bnd hf
    have Jj3 : vW p l e { frames := 3, cells := 0, slots := 0, locals := 86 } s m args below meth c 1 D A [] 0 0 (MQ below (eI D (tyA c9) A o.1 ((wX1 ad c9 o.2.1 o.2.2.1 o.2.2.2.1 o.2.2.2.2.1 o.2.2.2.2.2.1 o.2.2.2.2.2.2 p_t_count p_t_cells p_d_time p_d_tolerance p_d_seed p_d_madeTickets p_d_cheesesOfText p_d_R_rows p_d_R_cells p_d_U_rows p_d_U_cells p_d_S_rows p_d_S_cells p_d_T_rows p_d_T_cells p_d_E_rows p_d_E_cells) ++ [])) args s 0 0 A) (wX1 ad c9 p_start p_end p_kind p_value o2.1 o2.2 p_t_count p_t_cells p_d_time p_d_tolerance p_d_seed p_d_madeTickets p_d_cheesesOfText p_d_R_rows p_d_R_cells p_d_U_rows p_d_U_cells p_d_S_rows p_d_S_cells p_d_T_rows p_d_T_cells p_d_E_rows p_d_E_cells) 31 [(0, .ref (ad 0))] [.int j3, .ref (ad 0)] := by
      refine v_iconst X dX1_newName_31 ic_2 32 rfl ?_
      obtain ⟨o4, ho4, hf⟩ := bnd hf
      refine v_callVv X (ci := 3) (T := TX1) (C := RX1) (As := [.int j3, .int 2]) (rest := []) (ws' := (wX1 ad c9 p_start p_end p_kind p_value o4.1 o4.2 p_t_count p_t_cells p_d_time p_d_tolerance p_d_seed p_d_madeTickets p_d_cheesesOfText p_d_R_rows p_d_R_cells p_d_U_rows p_d_U_cells p_d_S_rows p_d_S_cells p_d_T_rows p_d_T_cells p_d_E_rows p_d_E_cells)) (c_X1_require l hG D c9 ad p_start p_end p_kind p_value o2.1 o2.2 p_t_count p_t_cells p_d_time p_d_tolerance p_d_seed p_d_madeTickets p_d_cheesesOfText p_d_R_rows p_d_R_cells p_d_U_rows p_d_U_cells p_d_S_rows p_d_S_cells p_d_T_rows p_d_T_cells p_d_E_rows p_d_E_cells j3 2 ho4) 2 (gV wc_333 wc_334 wc_335 wc_336 wc_337) rfl rfl rfl ⟨rfl, pd_X1_require⟩ ⟨Nat.le_of_ble_eq_true rfl, Nat.le_of_ble_eq_true rfl⟩ 0 rfl rfl rfl rfl (Nat.le_of_ble_eq_true rfl) ⟨Nat.zero_le _, Nat.zero_le _⟩ [0, 1, 2, 3, 4, 5, 6, 7, 8, 9, 10, 11, 12, 13] [] [0, 1, 2, 3, 4, 5, 6, 7, 8, 9, 10, 11, 12, 13] rfl rfl rfl rfl dX1_newName_32 35 rfl ?_
      refine v_aload_n X dX1_newName_35 0 rfl rfl 36 rfl ?_
      refine v_aload_n X dX1_newName_36 0 rfl rfl 37 rfl ?_
      refine v_get X (C := RX1) (T := TX1) (N := 8) (ci := 3) (v := _) dX1_newName_37 (lay_of layc_X1) 0 rfl rfl 1 (by decide) (mw wc_354) rfl rfl 40 rfl ?_
      refine v_aload_n X dX1_newName_40 0 rfl rfl 41 rfl ?_
      refine v_get X (C := RX1) (T := TX1) (N := 8) (ci := 3) (v := _) dX1_newName_41 (lay_of layc_X1) 0 rfl rfl 5 (by decide) (mw wc_305) rfl rfl 44 rfl ?_
      obtain ⟨o5, ho5, hf⟩ := bnd hf
      refine v_callVi X (ci := 7) (T := TX5) (C := RX5) (As := [.int p_value]) (rest := [.ref (ad 0)]) (ws' := (wX1 ad c9 p_start p_end p_kind p_value o4.1 o4.2 p_t_count p_t_cells p_d_time p_d_tolerance p_d_seed p_d_madeTickets p_d_cheesesOfText p_d_R_rows p_d_R_cells p_d_U_rows p_d_U_cells p_d_S_rows p_d_S_cells p_d_T_rows p_d_T_cells p_d_E_rows p_d_E_cells)) (c_X5_codeOfName l hG D c9 (fun k => ad ([3, 4, 5, 6, 7, 8, 9, 10, 11, 12, 13].getD k 0)) p_d_time p_d_tolerance p_d_seed p_d_madeTickets p_d_cheesesOfText p_d_R_rows p_d_R_cells p_d_U_rows p_d_U_cells p_d_S_rows p_d_S_cells p_d_T_rows p_d_T_cells p_d_E_rows p_d_E_cells p_value ho5) 1 (gV wc_425 wc_426 wc_427 wc_233 wc_428) rfl rfl rfl ⟨rfl, pd_X5_codeOfName⟩ ⟨Nat.le_of_ble_eq_true rfl, Nat.le_of_ble_eq_true rfl⟩ 3 rfl rfl rfl rfl (Nat.le_of_ble_eq_true rfl) ⟨Nat.zero_le _, Nat.zero_le _⟩ [3, 4, 5, 6, 7, 8, 9, 10, 11, 12, 13] [0, 1, 2] [0, 1, 2, 3, 4, 5, 6, 7, 8, 9, 10, 11, 12, 13] rfl rfl rfl rfl dX1_newName_44 47 rfl ?_
      refine v_iconst X dX1_newName_47 ic_m1 48 rfl ?_
      obtain ⟨j6, hj6, hf⟩ := bnd hf
      have Jj6 : vW p l e { frames := 3, cells := 0, slots := 0, locals := 86 } s m args below meth c 1 D A [] 0 0 (MQ below (eI D (tyA c9) A o.1 ((wX1 ad c9 o.2.1 o.2.2.1 o.2.2.2.1 o.2.2.2.2.1 o.2.2.2.2.2.1 o.2.2.2.2.2.2 p_t_count p_t_cells p_d_time p_d_tolerance p_d_seed p_d_madeTickets p_d_cheesesOfText p_d_R_rows p_d_R_cells p_d_U_rows p_d_U_cells p_d_S_rows p_d_S_cells p_d_T_rows p_d_T_cells p_d_E_rows p_d_E_cells) ++ [])) args s 0 0 A) (wX1 ad c9 p_start p_end p_kind p_value o4.1 o4.2 p_t_count p_t_cells p_d_time p_d_tolerance p_d_seed p_d_madeTickets p_d_cheesesOfText p_d_R_rows p_d_R_cells p_d_U_rows p_d_U_cells p_d_S_rows p_d_S_cells p_d_T_rows p_d_T_cells p_d_E_rows p_d_E_cells) 56 [(0, .ref (ad 0))] [.int j6, .ref (ad 0)] := by
        refine v_iconst X dX1_newName_56 ic_3 57 rfl ?_
        obtain ⟨o7, ho7, hf⟩ := bnd hf
        refine v_callVv X (ci := 3) (T := TX1) (C := RX1) (As := [.int j6, .int 3]) (rest := []) (ws' := (wX1 ad c9 p_start p_end p_kind p_value o7.1 o7.2 p_t_count p_t_cells p_d_time p_d_tolerance p_d_seed p_d_madeTickets p_d_cheesesOfText p_d_R_rows p_d_R_cells p_d_U_rows p_d_U_cells p_d_S_rows p_d_S_cells p_d_T_rows p_d_T_cells p_d_E_rows p_d_E_cells)) (c_X1_require l hG D c9 ad p_start p_end p_kind p_value o4.1 o4.2 p_t_count p_t_cells p_d_time p_d_tolerance p_d_seed p_d_madeTickets p_d_cheesesOfText p_d_R_rows p_d_R_cells p_d_U_rows p_d_U_cells p_d_S_rows p_d_S_cells p_d_T_rows p_d_T_cells p_d_E_rows p_d_E_cells j6 3 ho7) 2 (gV wc_333 wc_334 wc_335 wc_336 wc_337) rfl rfl rfl ⟨rfl, pd_X1_require⟩ ⟨Nat.le_of_ble_eq_true rfl, Nat.le_of_ble_eq_true rfl⟩ 0 rfl rfl rfl rfl (Nat.le_of_ble_eq_true rfl) ⟨Nat.zero_le _, Nat.zero_le _⟩ [0, 1, 2, 3, 4, 5, 6, 7, 8, 9, 10, 11, 12, 13] [] [0, 1, 2, 3, 4, 5, 6, 7, 8, 9, 10, 11, 12, 13] rfl rfl rfl rfl dX1_newName_57 60 rfl ?_
        refine v_aload_n X dX1_newName_60 0 rfl rfl 61 rfl ?_
        obtain ⟨o8, ho8, hf⟩ := bnd hf
        refine v_callVi X (ci := 3) (T := TX1) (C := RX1) (As := []) (rest := []) (ws' := (wX1 ad c9 o8.2.1 o8.2.2.1 o8.2.2.2.1 o8.2.2.2.2 o7.1 o7.2 p_t_count p_t_cells p_d_time p_d_tolerance p_d_seed p_d_madeTickets p_d_cheesesOfText p_d_R_rows p_d_R_cells p_d_U_rows p_d_U_cells p_d_S_rows p_d_S_cells p_d_T_rows p_d_T_cells p_d_E_rows p_d_E_cells)) (c_X1_take l hG D c9 ad p_start p_end p_kind p_value o7.1 o7.2 p_t_count p_t_cells p_d_time p_d_tolerance p_d_seed p_d_madeTickets p_d_cheesesOfText p_d_R_rows p_d_R_cells p_d_U_rows p_d_U_cells p_d_S_rows p_d_S_cells p_d_T_rows p_d_T_cells p_d_E_rows p_d_E_cells ho8) 0 (gV wc_338 wc_339 wc_340 wc_336 wc_341) rfl rfl rfl ⟨rfl, pd_X1_take⟩ ⟨Nat.le_of_ble_eq_true rfl, Nat.le_of_ble_eq_true rfl⟩ 0 rfl rfl rfl rfl (Nat.le_of_ble_eq_true rfl) ⟨Nat.zero_le _, Nat.zero_le _⟩ [0, 1, 2, 3, 4, 5, 6, 7, 8, 9, 10, 11, 12, 13] [] [0, 1, 2, 3, 4, 5, 6, 7, 8, 9, 10, 11, 12, 13] rfl rfl rfl rfl dX1_newName_61 64 rfl ?_
        obtain rfl := Option.some.inj hf
        exact v_iret X (Nat.zero_le _) (Nat.zero_le _) dX1_newName_64
      clear hf
      refine v_icmp_ne X (tgt := 55) dX1_newName_48 rfl 51 rfl hj6 (fun hf => ?_) (fun hf => ?_)
      · refine v_iconst X dX1_newName_55 ic_0 56 rfl ?_
        obtain rfl := Option.some.inj hf
        exact Jj6
      · refine v_iconst X dX1_newName_51 ic_1 52 rfl ?_
        refine v_goto X (tgt := 56) dX1_newName_52 rfl ?_
        obtain rfl := Option.some.inj hf
        exact Jj6
    clear hf
    refine v_if_eq X (tgt := 30) dX1_newName_23 rfl 26 rfl hj3 (fun hf => ?_) (fun hf => ?_)
    · refine v_iconst X dX1_newName_30 ic_0 31 rfl ?_
      obtain rfl := Option.some.inj hf
      exact Jj3
    · refine v_iconst X dX1_newName_26 ic_1 27 rfl ?_
      refine v_goto X (tgt := 31) dX1_newName_27 rfl ?_
      obtain rfl := Option.some.inj hf
      exact Jj3
  clear hf
  refine v_icmp_ne X (tgt := 13) dX1_newName_6 rfl 9 rfl hj1 (fun hf => ?_) (fun hf => ?_)
  · refine v_iconst X dX1_newName_13 ic_0 14 rfl ?_
    obtain rfl := Option.some.inj hf
    exact Jj1
  · refine v_iconst X dX1_newName_9 ic_1 10 rfl ?_
    refine v_goto X (tgt := 14) dX1_newName_10 rfl ?_
    obtain rfl := Option.some.inj hf
    exact Jj1
theorem pd_X1_newName : yX1_newName.cls ≠ "java/lang/invoke/MethodHandle" ∧ yX1_newName.cls ≠ "java/lang/invoke/VarHandle" ∧ (parseMethodDescriptor yX1_newName.desc).map (fun d => d.parameters.length) = some 0 := by decide +kernel
