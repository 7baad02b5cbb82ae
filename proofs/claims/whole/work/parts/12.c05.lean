theorem k_X5_giveCheese_w5 : ∀ w ∈ u_ws RX5 TX5 10, w ∈ wsX5_giveCheese := in_r _ [53, 54, 55, 56, 57, 58, 59, 60, 61, 62] rfl
theorem k_X5_giveCheese_1 : Cond.fieldLink RX5 35 "TicketGate$State" "tickets" "LTicketGate$Tickets;" ∈ wsX5_giveCheese := List.mem_of_getElem? (i := 1) rfl
theorem pd_X6_get_UX5_giveCheese_93 : "TicketGate$Table" ≠ "java/lang/invoke/MethodHandle" ∧ "TicketGate$Table" ≠ "java/lang/invoke/VarHandle" ∧ (parseMethodDescriptor "(II)I").map (fun d => d.parameters.length) = some 2 := by decide +kernel
theorem k_X5_giveCheese_2 : Cond.fieldLink RX5 21 "TicketGate$State" "users" "LTicketGate$Users;" ∈ wsX5_giveCheese := List.mem_of_getElem? (i := 2) rfl
theorem pd_X6_get_UX5_giveCheese_83 : "TicketGate$Table" ≠ "java/lang/invoke/MethodHandle" ∧ "TicketGate$Table" ≠ "java/lang/invoke/VarHandle" ∧ (parseMethodDescriptor "(II)I").map (fun d => d.parameters.length) = some 2 := by decide +kernel
theorem k_X5_giveCheese_3 : Cond.fieldLink RX5 42 "TicketGate$State" "uses" "LTicketGate$Uses;" ∈ wsX5_giveCheese := List.mem_of_getElem? (i := 3) rfl
theorem k_X5_giveCheese_4 : Cond.fieldLink RX5 53 "TicketGate$State" "time" "I" ∈ wsX5_giveCheese := List.mem_of_getElem? (i := 4) rfl
theorem k_X5_giveCheese_5 : Cond.fieldLink RX5 28 "TicketGate$State" "services" "LTicketGate$Services;" ∈ wsX5_giveCheese := List.mem_of_getElem? (i := 5) rfl
theorem pd_X6_get_UX5_giveCheese_112 : "TicketGate$Table" ≠ "java/lang/invoke/MethodHandle" ∧ "TicketGate$Table" ≠ "java/lang/invoke/VarHandle" ∧ (parseMethodDescriptor "(II)I").map (fun d => d.parameters.length) = some 2 := by decide +kernel
theorem pd_X6_set_UX5_giveCheese_148 : "TicketGate$Table" ≠ "java/lang/invoke/MethodHandle" ∧ "TicketGate$Table" ≠ "java/lang/invoke/VarHandle" ∧ (parseMethodDescriptor "(III)V").map (fun d => d.parameters.length) = some 3 := by decide +kernel
theorem pd_X6_set_UX5_giveCheese_149 : "TicketGate$Table" ≠ "java/lang/invoke/MethodHandle" ∧ "TicketGate$Table" ≠ "java/lang/invoke/VarHandle" ∧ (parseMethodDescriptor "(III)V").map (fun d => d.parameters.length) = some 3 := by decide +kernel
def f_X5_giveCheese (s_time : Int32) (s_U_rows : Int32) (s_U_cells : Nat → Int32) (s_S_rows : Int32) (s_S_cells : Nat → Int32) (s_T_rows : Int32) (s_T_cells : Nat → Int32) (s_E_rows : Int32) (s_E_cells : Nat → Int32) (v1 : Int32) : Option (Int32 × (Nat → Int32) × (Nat → Int32) × Int32 × (Nat → Int32)) :=
  (f_X6_get 240 10 s_T_rows s_T_cells v1 2).bind fun o1 =>
  (f_X6_get 240 10 s_T_rows s_T_cells v1 4).bind fun o2 =>
  (f_X6_get 30 5 s_U_rows s_U_cells o1 4).bind fun o3 =>
  (f_X6_get 30 5 s_U_rows s_U_cells o1 3).bind fun o4 =>
  (f_X9_addUse s_E_rows s_E_cells o1 o2 (s_time + o4) s_time).bind fun o5 =>
  (f_X6_get 18 3 s_S_rows s_S_cells o2 2).bind fun o6 =>
  (f_X6_set 18 3 s_S_rows s_S_cells o2 2 (o6 - 1)).bind fun o7 =>
  (f_X6_set 30 5 s_U_rows s_U_cells o1 4 (o3 + 1)).bind fun o8 =>
  some ((o3 + 1), o8, o7, o5.1, o5.2)
set_option maxRecDepth 100000 in
set_option maxHeartbeats 4000000 in
theorem c_X5_giveCheese (l : Launch) {G : (Nat → Prop) → State → Heap → Prop} (hG : vG G) (D : va_G) (c9 : Nat → ClassId) (ad : Nat → Nat) (s_time : Int32) (s_tolerance : Int32) (s_seed : Int32) (s_madeTickets : Int32) (s_cheesesOfText : Int32) (s_R_rows : Int32) (s_R_cells : Nat → Int32) (s_U_rows : Int32) (s_U_cells : Nat → Int32) (s_S_rows : Int32) (s_S_cells : Nat → Int32) (s_T_rows : Int32) (s_T_cells : Nat → Int32) (s_E_rows : Int32) (s_E_cells : Nat → Int32) (v1 : Int32) {o : Int32 × (Nat → Int32) × (Nat → Int32) × Int32 × (Nat → Int32)} (hf : f_X5_giveCheese s_time s_U_rows s_U_cells s_S_rows s_S_cells s_T_rows s_T_cells s_E_rows s_E_cells v1 = some o) : mI l yX5_giveCheese wsX5_giveCheese { frames := 2, cells := 0, slots := 0, locals := 49 } G D (tyA c9) [.ref (ad 0), .int v1] (wX5 ad c9 s_time s_tolerance s_seed s_madeTickets s_cheesesOfText s_R_rows s_R_cells s_U_rows s_U_cells s_S_rows s_S_cells s_T_rows s_T_cells s_E_rows s_E_cells) [] 0 0 o.1 (wX5 ad c9 s_time s_tolerance s_seed s_madeTickets s_cheesesOfText s_R_rows s_R_cells s_U_rows o.2.1 s_S_rows o.2.2.1 s_T_rows s_T_cells o.2.2.2.1 o.2.2.2.2) := by
  refine mI_of hG (cc := cX5_giveCheese) (maxL := 5) (ty := .int) (by decide) rfl (Nat.le_of_ble_eq_true rfl) ?_
  intro p e s m args below meth c A X
  have X : vX p s m args meth c cX5_giveCheese 5 (some .int) RX5 wsX5_giveCheese D (tyA c9) G A := X
  refine v_eq (lv2 := [(0, .ref (ad 0)), (1, .int v1)]) rfl rfl rfl rfl ?_
  rw [f_X5_giveCheese] at hf
  refine v_aload_n X dX5_giveCheese_0 0 rfl rfl 1 rfl ?_
  refine v_get X (C := RX5) (T := TX5) (N := 10) (ci := 5) (v := _) dX5_giveCheese_1 k_X5_giveCheese_w5 0 rfl rfl 3 (by decide) k_X5_giveCheese_1 rfl rfl 4 rfl ?_
  refine v_iload_n X dX5_giveCheese_4 1 rfl rfl 5 rfl ?_
  refine v_iconst X dX5_giveCheese_5 ic_2 6 rfl ?_
  obtain ⟨o1, ho1, hf⟩ := bnd hf
  refine v_callUi X (ci := 6) (T := TX7) (C := RX7) (owner := "TicketGate$Table") (As := [.int v1, .int 2]) (rest := []) (ws' := (wX5 ad c9 s_time s_tolerance s_seed s_madeTickets s_cheesesOfText s_R_rows s_R_cells s_U_rows s_U_cells s_S_rows s_S_cells s_T_rows s_T_cells s_E_rows s_E_cells)) (c_X6_get l hG D c9 (fun k => ad ([7, 8].getD k 0)) 240 6 RX7 rfl kt_get_X7 24 10 s_T_rows s_T_cells v1 2 ho1) 2 gX5_giveCheese_X6_get_u93X7 rfl rfl rfl rfl pd_X6_get_UX5_giveCheese_93 ⟨Nat.le_of_ble_eq_true rfl, Nat.le_of_ble_eq_true rfl⟩ 7 rfl rfl rfl rfl (Nat.le_of_ble_eq_true rfl) ⟨Nat.zero_le _, Nat.zero_le _⟩ [7, 8] [0, 1, 2, 3, 4, 5, 6, 9, 10] [0, 1, 2, 3, 4, 5, 6, 9, 10, 7, 8] rfl rfl rfl rfl dX5_giveCheese_6 9 rfl ?_
  refine v_istore_n X (lv' := [(2, .int o1), (0, .ref (ad 0)), (1, .int v1)]) dX5_giveCheese_9 rfl (by decide) rfl 10 rfl ?_
  refine v_aload_n X dX5_giveCheese_10 1 rfl rfl 11 rfl ?_
  refine v_get X (C := RX5) (T := TX5) (N := 10) (ci := 5) (v := _) dX5_giveCheese_11 k_X5_giveCheese_w5 0 rfl rfl 3 (by decide) k_X5_giveCheese_1 rfl rfl 14 rfl ?_
  refine v_iload_n X dX5_giveCheese_14 2 rfl rfl 15 rfl ?_
  refine v_iconst X dX5_giveCheese_15 ic_4 16 rfl ?_
  obtain ⟨o2, ho2, hf⟩ := bnd hf
  refine v_callUi X (ci := 6) (T := TX7) (C := RX7) (owner := "TicketGate$Table") (As := [.int v1, .int 4]) (rest := []) (ws' := (wX5 ad c9 s_time s_tolerance s_seed s_madeTickets s_cheesesOfText s_R_rows s_R_cells s_U_rows s_U_cells s_S_rows s_S_cells s_T_rows s_T_cells s_E_rows s_E_cells)) (c_X6_get l hG D c9 (fun k => ad ([7, 8].getD k 0)) 240 6 RX7 rfl kt_get_X7 24 10 s_T_rows s_T_cells v1 4 ho2) 2 gX5_giveCheese_X6_get_u93X7 rfl rfl rfl rfl pd_X6_get_UX5_giveCheese_93 ⟨Nat.le_of_ble_eq_true rfl, Nat.le_of_ble_eq_true rfl⟩ 7 rfl rfl rfl rfl (Nat.le_of_ble_eq_true rfl) ⟨Nat.zero_le _, Nat.zero_le _⟩ [7, 8] [0, 1, 2, 3, 4, 5, 6, 9, 10] [0, 1, 2, 3, 4, 5, 6, 9, 10, 7, 8] rfl rfl rfl rfl dX5_giveCheese_16 19 rfl ?_
  refine v_istore_n X (lv' := [(3, .int o2), (2, .int o1), (0, .ref (ad 0)), (1, .int v1)]) dX5_giveCheese_19 rfl (by decide) rfl 20 rfl ?_
  refine v_aload_n X dX5_giveCheese_20 2 rfl rfl 21 rfl ?_
  refine v_get X (C := RX5) (T := TX5) (N := 10) (ci := 5) (v := _) dX5_giveCheese_21 k_X5_giveCheese_w5 0 rfl rfl 1 (by decide) k_X5_giveCheese_2 rfl rfl 24 rfl ?_
  refine v_iload_n X dX5_giveCheese_24 1 rfl rfl 25 rfl ?_
  refine v_iconst X dX5_giveCheese_25 ic_4 26 rfl ?_
  obtain ⟨o3, ho3, hf⟩ := bnd hf
  refine v_callUi X (ci := 7) (T := TX8) (C := RX8) (owner := "TicketGate$Table") (As := [.int o1, .int 4]) (rest := []) (ws' := (wX5 ad c9 s_time s_tolerance s_seed s_madeTickets s_cheesesOfText s_R_rows s_R_cells s_U_rows s_U_cells s_S_rows s_S_cells s_T_rows s_T_cells s_E_rows s_E_cells)) (c_X6_get l hG D c9 (fun k => ad ([3, 4].getD k 0)) 30 7 RX8 rfl kt_get_X8 6 5 s_U_rows s_U_cells o1 4 ho3) 2 gX5_giveCheese_X6_get_u83X8 rfl rfl rfl rfl pd_X6_get_UX5_giveCheese_83 ⟨Nat.le_of_ble_eq_true rfl, Nat.le_of_ble_eq_true rfl⟩ 3 rfl rfl rfl rfl (Nat.le_of_ble_eq_true rfl) ⟨Nat.zero_le _, Nat.zero_le _⟩ [3, 4] [0, 1, 2, 5, 6, 7, 8, 9, 10] [0, 1, 2, 9, 10, 3, 4, 5, 6, 7, 8] rfl rfl rfl rfl dX5_giveCheese_26 29 rfl ?_
  refine v_iconst X dX5_giveCheese_29 ic_1 30 rfl ?_
  refine v_iadd X dX5_giveCheese_30 31 rfl ?_
  refine v_istore X (lv' := [(4, .int (o3 + 1)), (3, .int o2), (2, .int o1), (0, .ref (ad 0)), (1, .int v1)]) dX5_giveCheese_31 (by decide) rfl 33 rfl ?_
  refine v_aload_n X dX5_giveCheese_33 3 rfl rfl 34 rfl ?_
  refine v_get X (C := RX5) (T := TX5) (N := 10) (ci := 5) (v := _) dX5_giveCheese_34 k_X5_giveCheese_w5 0 rfl rfl 4 (by decide) k_X5_giveCheese_3 rfl rfl 37 rfl ?_
  refine v_iload_n X dX5_giveCheese_37 2 rfl rfl 38 rfl ?_
  refine v_iload_n X dX5_giveCheese_38 1 rfl rfl 39 rfl ?_
  refine v_aload_n X dX5_giveCheese_39 3 rfl rfl 40 rfl ?_
  refine v_get X (C := RX5) (T := TX5) (N := 10) (ci := 5) (v := _) dX5_giveCheese_40 k_X5_giveCheese_w5 0 rfl rfl 5 (by decide) k_X5_giveCheese_4 rfl rfl 43 rfl ?_
  refine v_aload_n X dX5_giveCheese_43 3 rfl rfl 44 rfl ?_
  refine v_get X (C := RX5) (T := TX5) (N := 10) (ci := 5) (v := _) dX5_giveCheese_44 k_X5_giveCheese_w5 0 rfl rfl 1 (by decide) k_X5_giveCheese_2 rfl rfl 47 rfl ?_
  refine v_iload_n X dX5_giveCheese_47 2 rfl rfl 48 rfl ?_
  refine v_iconst X dX5_giveCheese_48 ic_3 49 rfl ?_
  obtain ⟨o4, ho4, hf⟩ := bnd hf
  refine v_callUi X (ci := 7) (T := TX8) (C := RX8) (owner := "TicketGate$Table") (As := [.int o1, .int 3]) (rest := [.int s_time, .int o2, .int o1, .ref (ad 9)]) (ws' := (wX5 ad c9 s_time s_tolerance s_seed s_madeTickets s_cheesesOfText s_R_rows s_R_cells s_U_rows s_U_cells s_S_rows s_S_cells s_T_rows s_T_cells s_E_rows s_E_cells)) (c_X6_get l hG D c9 (fun k => ad ([3, 4].getD k 0)) 30 7 RX8 rfl kt_get_X8 6 5 s_U_rows s_U_cells o1 3 ho4) 2 gX5_giveCheese_X6_get_u83X8 rfl rfl rfl rfl pd_X6_get_UX5_giveCheese_83 ⟨Nat.le_of_ble_eq_true rfl, Nat.le_of_ble_eq_true rfl⟩ 3 rfl rfl rfl rfl (Nat.le_of_ble_eq_true rfl) ⟨Nat.zero_le _, Nat.zero_le _⟩ [3, 4] [0, 1, 2, 5, 6, 7, 8, 9, 10] [0, 1, 2, 9, 10, 3, 4, 5, 6, 7, 8] rfl rfl rfl rfl dX5_giveCheese_49 52 rfl ?_
  refine v_iadd X dX5_giveCheese_52 53 rfl ?_
  refine v_aload_n X dX5_giveCheese_53 3 rfl rfl 54 rfl ?_
  refine v_get X (C := RX5) (T := TX5) (N := 10) (ci := 5) (v := _) dX5_giveCheese_54 k_X5_giveCheese_w5 0 rfl rfl 5 (by decide) k_X5_giveCheese_4 rfl rfl 57 rfl ?_
  obtain ⟨o5, ho5, hf⟩ := bnd hf
  refine v_callVv X (ci := 8) (T := TX9) (C := RX9) (As := [.int o1, .int o2, .int (s_time + o4), .int s_time]) (rest := []) (ws' := (wX5 ad c9 s_time s_tolerance s_seed s_madeTickets s_cheesesOfText s_R_rows s_R_cells s_U_rows s_U_cells s_S_rows s_S_cells s_T_rows s_T_cells o5.1 o5.2)) (c_X9_addUse l hG D c9 (fun k => ad ([9, 10].getD k 0)) s_E_rows s_E_cells o1 o2 (s_time + o4) s_time ho5) 4 gX5_giveCheese_X9_addUse rfl rfl rfl ⟨rfl, pd_X9_addUse⟩ ⟨Nat.le_of_ble_eq_true rfl, Nat.le_of_ble_eq_true rfl⟩ 9 rfl rfl rfl rfl (Nat.le_of_ble_eq_true rfl) ⟨Nat.zero_le _, Nat.zero_le _⟩ [9, 10] [0, 1, 2, 3, 4, 5, 6, 7, 8] [0, 1, 2, 3, 4, 5, 6, 7, 8, 9, 10] rfl rfl rfl rfl dX5_giveCheese_57 60 rfl ?_
  refine v_aload_n X dX5_giveCheese_60 3 rfl rfl 61 rfl ?_
  refine v_get X (C := RX5) (T := TX5) (N := 10) (ci := 5) (v := _) dX5_giveCheese_61 k_X5_giveCheese_w5 0 rfl rfl 2 (by decide) k_X5_giveCheese_5 rfl rfl 64 rfl ?_
  refine v_iload_n X dX5_giveCheese_64 1 rfl rfl 65 rfl ?_
  refine v_iconst X dX5_giveCheese_65 ic_2 66 rfl ?_
  refine v_aload_n X dX5_giveCheese_66 3 rfl rfl 67 rfl ?_
  refine v_get X (C := RX5) (T := TX5) (N := 10) (ci := 5) (v := _) dX5_giveCheese_67 k_X5_giveCheese_w5 0 rfl rfl 2 (by decide) k_X5_giveCheese_5 rfl rfl 70 rfl ?_
  refine v_iload_n X dX5_giveCheese_70 1 rfl rfl 71 rfl ?_
  refine v_iconst X dX5_giveCheese_71 ic_2 72 rfl ?_
  obtain ⟨o6, ho6, hf⟩ := bnd hf
  refine v_callUi X (ci := 3) (T := TX3) (C := RX3) (owner := "TicketGate$Table") (As := [.int o2, .int 2]) (rest := [.int 2, .int o2, .ref (ad 5)]) (ws' := (wX5 ad c9 s_time s_tolerance s_seed s_madeTickets s_cheesesOfText s_R_rows s_R_cells s_U_rows s_U_cells s_S_rows s_S_cells s_T_rows s_T_cells o5.1 o5.2)) (c_X6_get l hG D c9 (fun k => ad ([5, 6].getD k 0)) 18 3 RX3 rfl kt_get_X3 6 3 s_S_rows s_S_cells o2 2 ho6) 2 gX5_giveCheese_X6_get_u112X3 rfl rfl rfl rfl pd_X6_get_UX5_giveCheese_112 ⟨Nat.le_of_ble_eq_true rfl, Nat.le_of_ble_eq_true rfl⟩ 5 rfl rfl rfl rfl (Nat.le_of_ble_eq_true rfl) ⟨Nat.zero_le _, Nat.zero_le _⟩ [5, 6] [0, 1, 2, 3, 4, 7, 8, 9, 10] [0, 1, 2, 3, 4, 9, 10, 5, 6, 7, 8] rfl rfl rfl rfl dX5_giveCheese_72 75 rfl ?_
  refine v_iconst X dX5_giveCheese_75 ic_1 76 rfl ?_
  refine v_isub X dX5_giveCheese_76 77 rfl ?_
  obtain ⟨o7, ho7, hf⟩ := bnd hf
  refine v_callUv X (ci := 3) (T := TX3) (C := RX3) (owner := "TicketGate$Table") (As := [.int o2, .int 2, .int (o6 - 1)]) (rest := []) (ws' := (wX5 ad c9 s_time s_tolerance s_seed s_madeTickets s_cheesesOfText s_R_rows s_R_cells s_U_rows s_U_cells s_S_rows o7 s_T_rows s_T_cells o5.1 o5.2)) (c_X6_set l hG D c9 (fun k => ad ([5, 6].getD k 0)) 18 3 RX3 rfl kt_set_X3 6 3 s_S_rows s_S_cells o2 2 (o6 - 1) ho7) 3 gX5_giveCheese_X6_set_u148X3 rfl rfl rfl rfl pd_X6_set_UX5_giveCheese_148 ⟨Nat.le_of_ble_eq_true rfl, Nat.le_of_ble_eq_true rfl⟩ 5 rfl rfl rfl rfl (Nat.le_of_ble_eq_true rfl) ⟨Nat.zero_le _, Nat.zero_le _⟩ [5, 6] [0, 1, 2, 3, 4, 7, 8, 9, 10] [0, 1, 2, 3, 4, 9, 10, 5, 6, 7, 8] rfl rfl rfl rfl dX5_giveCheese_77 80 rfl ?_
  refine v_aload_n X dX5_giveCheese_80 3 rfl rfl 81 rfl ?_
  refine v_get X (C := RX5) (T := TX5) (N := 10) (ci := 5) (v := _) dX5_giveCheese_81 k_X5_giveCheese_w5 0 rfl rfl 1 (by decide) k_X5_giveCheese_2 rfl rfl 84 rfl ?_
  refine v_iload_n X dX5_giveCheese_84 2 rfl rfl 85 rfl ?_
  refine v_iconst X dX5_giveCheese_85 ic_4 86 rfl ?_
  refine v_iload X dX5_giveCheese_86 0 rfl 88 rfl ?_
  obtain ⟨o8, ho8, hf⟩ := bnd hf
  refine v_callUv X (ci := 7) (T := TX8) (C := RX8) (owner := "TicketGate$Table") (As := [.int o1, .int 4, .int (o3 + 1)]) (rest := []) (ws' := (wX5 ad c9 s_time s_tolerance s_seed s_madeTickets s_cheesesOfText s_R_rows s_R_cells s_U_rows o8 s_S_rows o7 s_T_rows s_T_cells o5.1 o5.2)) (c_X6_set l hG D c9 (fun k => ad ([3, 4].getD k 0)) 30 7 RX8 rfl kt_set_X8 6 5 s_U_rows s_U_cells o1 4 (o3 + 1) ho8) 3 gX5_giveCheese_X6_set_u149X8 rfl rfl rfl rfl pd_X6_set_UX5_giveCheese_149 ⟨Nat.le_of_ble_eq_true rfl, Nat.le_of_ble_eq_true rfl⟩ 3 rfl rfl rfl rfl (Nat.le_of_ble_eq_true rfl) ⟨Nat.zero_le _, Nat.zero_le _⟩ [3, 4] [0, 1, 2, 5, 6, 7, 8, 9, 10] [0, 1, 2, 9, 10, 3, 4, 5, 6, 7, 8] rfl rfl rfl rfl dX5_giveCheese_88 91 rfl ?_
  refine v_iload X dX5_giveCheese_91 0 rfl 93 rfl ?_
  cases hf
  exact v_iret X (Nat.zero_le _) (Nat.zero_le _) dX5_giveCheese_93
theorem pd_X5_giveCheese : yX5_giveCheese.cls ≠ "java/lang/invoke/MethodHandle" ∧ yX5_giveCheese.cls ≠ "java/lang/invoke/VarHandle" ∧ (parseMethodDescriptor yX5_giveCheese.desc).map (fun d => d.parameters.length) = some 1 := by decide +kernel
theorem k_X5_letPass_w5 : ∀ w ∈ u_ws RX5 TX5 10, w ∈ wsX5_letPass := in_r _ [28, 29, 30, 31, 32, 33, 34, 35, 36, 37] rfl
theorem k_X5_letPass_1 : Cond.fieldLink RX5 53 "TicketGate$State" "time" "I" ∈ wsX5_letPass := List.mem_of_getElem? (i := 1) rfl
theorem k_X5_letPass_2 : Cond.fieldLink RX5 42 "TicketGate$State" "uses" "LTicketGate$Uses;" ∈ wsX5_letPass := List.mem_of_getElem? (i := 2) rfl
theorem k_X5_letPass_3 : Cond.fieldLink RX5 57 "TicketGate$State" "tolerance" "I" ∈ wsX5_letPass := List.mem_of_getElem? (i := 3) rfl
def f_X5_letPass (s_time : Int32) (s_tolerance : Int32) (s_E_rows : Int32) (s_E_cells : Nat → Int32) (v1 : Int32) : Option (Int32 × Int32 × (Nat → Int32)) :=
  (f_X9_forgetBefore s_E_rows s_E_cells ((s_time + v1) - s_tolerance)).bind fun o1 =>
  some ((s_time + v1), o1.1, o1.2)
set_option maxRecDepth 100000 in
set_option maxHeartbeats 4000000 in
theorem c_X5_letPass (l : Launch) {G : (Nat → Prop) → State → Heap → Prop} (hG : vG G) (D : va_G) (c9 : Nat → ClassId) (ad : Nat → Nat) (s_time : Int32) (s_tolerance : Int32) (s_seed : Int32) (s_madeTickets : Int32) (s_cheesesOfText : Int32) (s_R_rows : Int32) (s_R_cells : Nat → Int32) (s_U_rows : Int32) (s_U_cells : Nat → Int32) (s_S_rows : Int32) (s_S_cells : Nat → Int32) (s_T_rows : Int32) (s_T_cells : Nat → Int32) (s_E_rows : Int32) (s_E_cells : Nat → Int32) (v1 : Int32) {o : Int32 × Int32 × (Nat → Int32)} (hf : f_X5_letPass s_time s_tolerance s_E_rows s_E_cells v1 = some o) : mV l yX5_letPass wsX5_letPass { frames := 2, cells := 0, slots := 0, locals := 46 } G D (tyA c9) [.ref (ad 0), .int v1] (wX5 ad c9 s_time s_tolerance s_seed s_madeTickets s_cheesesOfText s_R_rows s_R_cells s_U_rows s_U_cells s_S_rows s_S_cells s_T_rows s_T_cells s_E_rows s_E_cells) [] 0 0 (wX5 ad c9 o.1 s_tolerance s_seed s_madeTickets s_cheesesOfText s_R_rows s_R_cells s_U_rows s_U_cells s_S_rows s_S_cells s_T_rows s_T_cells o.2.1 o.2.2) := by
  refine mV_of hG (cc := cX5_letPass) (maxL := 2) (by decide) rfl (Nat.le_of_ble_eq_true rfl) ?_
  intro p e s m args below meth c A hnm X
  have X : vX p s m args meth c cX5_letPass 2 none RX5 wsX5_letPass D (tyA c9) G A := X
  refine v_eq (lv2 := [(0, .ref (ad 0)), (1, .int v1)]) rfl rfl rfl rfl ?_
  rw [f_X5_letPass] at hf
  refine v_aload_n X dX5_letPass_0 0 rfl rfl 1 rfl ?_
  refine v_dup X dX5_letPass_1 rfl 2 rfl ?_
  refine v_get X (C := RX5) (T := TX5) (N := 10) (ci := 5) (v := _) dX5_letPass_2 k_X5_letPass_w5 0 rfl rfl 5 (by decide) k_X5_letPass_1 rfl rfl 5 rfl ?_
  refine v_iload_n X dX5_letPass_5 1 rfl rfl 6 rfl ?_
  refine v_iadd X dX5_letPass_6 7 rfl ?_
  refine v_put X (C := RX5) (T := TX5) (N := 10) (ci := 5) (ty := tyX5 5) (ws' := (wX5 ad c9 (s_time + v1) s_tolerance s_seed s_madeTickets s_cheesesOfText s_R_rows s_R_cells s_U_rows s_U_cells s_S_rows s_S_cells s_T_rows s_T_cells s_E_rows s_E_cells)) dX5_letPass_7 k_X5_letPass_w5 0 rfl rfl 5 (by decide) tyX5 tyX5_ok nmX5 k_X5_letPass_1 rfl rfl (tyX5_ok 5 (by decide)) rfl rfl (by decide) rfl 10 rfl ?_
  refine v_aload_n X dX5_letPass_10 0 rfl rfl 11 rfl ?_
  refine v_get X (C := RX5) (T := TX5) (N := 10) (ci := 5) (v := _) dX5_letPass_11 k_X5_letPass_w5 0 rfl rfl 4 (by decide) k_X5_letPass_2 rfl rfl 14 rfl ?_
  refine v_aload_n X dX5_letPass_14 0 rfl rfl 15 rfl ?_
  refine v_get X (C := RX5) (T := TX5) (N := 10) (ci := 5) (v := _) dX5_letPass_15 k_X5_letPass_w5 0 rfl rfl 5 (by decide) k_X5_letPass_1 rfl rfl 18 rfl ?_
  refine v_aload_n X dX5_letPass_18 0 rfl rfl 19 rfl ?_
  refine v_get X (C := RX5) (T := TX5) (N := 10) (ci := 5) (v := _) dX5_letPass_19 k_X5_letPass_w5 0 rfl rfl 6 (by decide) k_X5_letPass_3 rfl rfl 22 rfl ?_
  refine v_isub X dX5_letPass_22 23 rfl ?_
  obtain ⟨o1, ho1, hf⟩ := bnd hf
  refine v_callVv X (ci := 8) (T := TX9) (C := RX9) (As := [.int ((s_time + v1) - s_tolerance)]) (rest := []) (ws' := (wX5 ad c9 (s_time + v1) s_tolerance s_seed s_madeTickets s_cheesesOfText s_R_rows s_R_cells s_U_rows s_U_cells s_S_rows s_S_cells s_T_rows s_T_cells o1.1 o1.2)) (c_X9_forgetBefore l hG D c9 (fun k => ad ([9, 10].getD k 0)) s_E_rows s_E_cells ((s_time + v1) - s_tolerance) ho1) 1 gX5_letPass_X9_forgetBefore rfl rfl rfl ⟨rfl, pd_X9_forgetBefore⟩ ⟨Nat.le_of_ble_eq_true rfl, Nat.le_of_ble_eq_true rfl⟩ 9 rfl rfl rfl rfl (Nat.le_of_ble_eq_true rfl) ⟨Nat.zero_le _, Nat.zero_le _⟩ [9, 10] [0, 1, 2, 3, 4, 5, 6, 7, 8] [0, 1, 2, 3, 4, 5, 6, 7, 8, 9, 10] rfl rfl rfl rfl dX5_letPass_23 26 rfl ?_
  cases hf
  exact v_vret X (Nat.zero_le _) (Nat.zero_le _) dX5_letPass_26
theorem pd_X5_letPass : yX5_letPass.cls ≠ "java/lang/invoke/MethodHandle" ∧ yX5_letPass.cls ≠ "java/lang/invoke/VarHandle" ∧ (parseMethodDescriptor yX5_letPass.desc).map (fun d => d.parameters.length) = some 1 := by decide +kernel
theorem k_X1_take_w1 : ∀ w ∈ u_ws RX1 TX1 8, w ∈ wsX1_take := in_r _ [36, 37, 38, 39, 40, 41, 42, 43] rfl
theorem k_X1_take_1 : Cond.fieldLink RX1 151 "TicketGate$Parser" "value" "I" ∈ wsX1_take := List.mem_of_getElem? (i := 1) rfl
theorem k_X1_take_2 : Cond.fieldLink RX1 29 "TicketGate$Parser" "error" "I" ∈ wsX1_take := List.mem_of_getElem? (i := 2) rfl
theorem k_X1_take_3 : Cond.fieldLink RX1 22 "TicketGate$Parser" "text" "LTicketGate$Bytes;" ∈ wsX1_take := List.mem_of_getElem? (i := 3) rfl
theorem k_X1_take_4 : Cond.fieldLink RX1 26 "TicketGate$Parser" "end" "I" ∈ wsX1_take := List.mem_of_getElem? (i := 4) rfl
theorem k_X1_take_5 : Cond.fieldLink RX1 257 "TicketGate$Parser" "start" "I" ∈ wsX1_take := List.mem_of_getElem? (i := 5) rfl
theorem k_X1_take_6 : Cond.fieldLink RX1 43 "TicketGate$Parser" "kind" "I" ∈ wsX1_take := List.mem_of_getElem? (i := 6) rfl
def f_X1_take (p_start : Int32) (p_end : Int32) (p_kind : Int32) (p_value : Int32) (p_error : Int32) (p_t_count : Int32) (p_t_cells : Nat → Int32) : Option (Int32 × Int32 × Int32 × Int32 × Int32) :=
  if p_error = 0 then (
    (f_X0_endOfBlanks 600 p_t_count p_t_cells p_end).bind fun o1 =>
    (f_X0_at 600 p_t_count p_t_cells o1).bind fun o2 =>
    if o2 = (-1) then (
      some (p_value, o1, o1, 0, 0))
    else (
      if o2 < 97 then (
        if o2 < 48 then (
          some (p_value, o1, (o1 + 1), 3, o2))
        else (
          if 57 < o2 then (
            some (p_value, o1, (o1 + 1), 3, o2))
          else (
            (f_X0_endOfRun 600 p_t_count p_t_cells o1 48 57).bind fun o3 =>
            (f_X0_numberBetween 600 p_t_count p_t_cells o1 o3).bind fun o4 =>
            some (p_value, o1, o3, 2, o4))))
      else (
        if 122 < o2 then (
          if o2 < 48 then (
            some (p_value, o1, (o1 + 1), 3, o2))
          else (
            if 57 < o2 then (
              some (p_value, o1, (o1 + 1), 3, o2))
            else (
              (f_X0_endOfRun 600 p_t_count p_t_cells o1 48 57).bind fun o5 =>
              (f_X0_numberBetween 600 p_t_count p_t_cells o1 o5).bind fun o6 =>
              some (p_value, o1, o5, 2, o6))))
        else (
          (f_X0_endOfRun 600 p_t_count p_t_cells o1 97 122).bind fun o7 =>
          (f_X0_nameBetween 600 p_t_count p_t_cells o1 o7).bind fun o8 =>
          some (p_value, o1, o7, 1, o8)))))
  else (
    some (p_value, p_start, p_end, p_kind, p_value))
set_option maxRecDepth 100000 in
set_option maxHeartbeats 4000000 in
theorem c_X1_take (l : Launch) {G : (Nat → Prop) → State → Heap → Prop} (hG : vG G) (D : va_G) (c9 : Nat → ClassId) (ad : Nat → Nat) (p_start : Int32) (p_end : Int32) (p_kind : Int32) (p_value : Int32) (p_error : Int32) (p_errorAt : Int32) (p_t_count : Int32) (p_t_cells : Nat → Int32) (p_d_time : Int32) (p_d_tolerance : Int32) (p_d_seed : Int32) (p_d_madeTickets : Int32) (p_d_cheesesOfText : Int32) (p_d_R_rows : Int32) (p_d_R_cells : Nat → Int32) (p_d_U_rows : Int32) (p_d_U_cells : Nat → Int32) (p_d_S_rows : Int32) (p_d_S_cells : Nat → Int32) (p_d_T_rows : Int32) (p_d_T_cells : Nat → Int32) (p_d_E_rows : Int32) (p_d_E_cells : Nat → Int32)  {o : Int32 × Int32 × Int32 × Int32 × Int32} (hf : f_X1_take p_start p_end p_kind p_value p_error p_t_count p_t_cells = some o) : mI l yX1_take wsX1_take { frames := 2, cells := 0, slots := 0, locals := 64 } G D (tyA c9) [.ref (ad 0)] (wX1 ad c9 p_start p_end p_kind p_value p_error p_errorAt p_t_count p_t_cells p_d_time p_d_tolerance p_d_seed p_d_madeTickets p_d_cheesesOfText p_d_R_rows p_d_R_cells p_d_U_rows p_d_U_cells p_d_S_rows p_d_S_cells p_d_T_rows p_d_T_cells p_d_E_rows p_d_E_cells) [] 0 0 o.1 (wX1 ad c9 o.2.1 o.2.2.1 o.2.2.2.1 o.2.2.2.2 p_error p_errorAt p_t_count p_t_cells p_d_time p_d_tolerance p_d_seed p_d_madeTickets p_d_cheesesOfText p_d_R_rows p_d_R_cells p_d_U_rows p_d_U_cells p_d_S_rows p_d_S_cells p_d_T_rows p_d_T_cells p_d_E_rows p_d_E_cells) := by
  refine mI_of hG (cc := cX1_take) (maxL := 3) (ty := .int) (by decide) rfl (Nat.le_of_ble_eq_true rfl) ?_
  intro p e s m args below meth c A X
  have X : vX p s m args meth c cX1_take 3 (some .int) RX1 wsX1_take D (tyA c9) G A := X
  refine v_eq (lv2 := [(0, .ref (ad 0))]) rfl rfl rfl rfl ?_
  rw [f_X1_take] at hf
  refine v_aload_n X dX1_take_0 0 rfl rfl 1 rfl ?_
  refine v_get X (C := RX1) (T := TX1) (N := 8) (ci := 1) (v := _) dX1_take_1 k_X1_take_w1 0 rfl rfl 5 (by decide) k_X1_take_1 rfl rfl 4 rfl ?_
  refine v_istore_n X (lv' := [(1, .int p_value), (0, .ref (ad 0))]) dX1_take_4 rfl (by decide) rfl 5 rfl ?_
  refine v_aload_n X dX1_take_5 1 rfl rfl 6 rfl ?_
  refine v_get X (C := RX1) (T := TX1) (N := 8) (ci := 1) (v := _) dX1_take_6 k_X1_take_w1 0 rfl rfl 6 (by decide) k_X1_take_2 rfl rfl 9 rfl ?_
  refine v_if_eq X (tgt := 14) dX1_take_9 rfl 12 rfl hf (fun hf => ?_) (fun hf => ?_)
  · refine v_aload_n X dX1_take_14 1 rfl rfl 15 rfl ?_
    refine v_aload_n X dX1_take_15 1 rfl rfl 16 rfl ?_
    refine v_get X (C := RX1) (T := TX1) (N := 8) (ci := 1) (v := _) dX1_take_16 k_X1_take_w1 0 rfl rfl 0 (by decide) k_X1_take_3 rfl rfl 19 rfl ?_
    refine v_aload_n X dX1_take_19 1 rfl rfl 20 rfl ?_
    refine v_get X (C := RX1) (T := TX1) (N := 8) (ci := 1) (v := _) dX1_take_20 k_X1_take_w1 0 rfl rfl 3 (by decide) k_X1_take_4 rfl rfl 23 rfl ?_
    obtain ⟨o1, ho1, hf⟩ := bnd hf
    refine v_callVi X (ci := 0) (T := TX0) (C := RX0) (As := [.int p_end]) (rest := [.ref (ad 0)]) (ws' := (wX1 ad c9 p_start p_end p_kind p_value p_error p_errorAt p_t_count p_t_cells p_d_time p_d_tolerance p_d_seed p_d_madeTickets p_d_cheesesOfText p_d_R_rows p_d_R_cells p_d_U_rows p_d_U_cells p_d_S_rows p_d_S_cells p_d_T_rows p_d_T_cells p_d_E_rows p_d_E_cells)) (c_X0_endOfBlanks l hG D c9 (fun k => ad ([1, 2].getD k 0)) 600 p_t_count p_t_cells p_end ho1) 1 gX1_take_X0_endOfBlanks rfl rfl rfl ⟨rfl, pd_X0_endOfBlanks⟩ ⟨Nat.le_of_ble_eq_true rfl, Nat.le_of_ble_eq_true rfl⟩ 1 rfl rfl rfl rfl (Nat.le_of_ble_eq_true rfl) ⟨Nat.zero_le _, Nat.zero_le _⟩ [1, 2] [0, 3, 4, 5, 6, 7, 8, 9, 10, 11, 12, 13] [0, 12, 13, 1, 2, 3, 4, 5, 6, 7, 8, 9, 10, 11] rfl rfl rfl rfl dX1_take_23 26 rfl ?_
    refine v_put X (C := RX1) (T := TX1) (N := 8) (ci := 1) (ty := tyX1 2) (ws' := (wX1 ad c9 o1 p_end p_kind p_value p_error p_errorAt p_t_count p_t_cells p_d_time p_d_tolerance p_d_seed p_d_madeTickets p_d_cheesesOfText p_d_R_rows p_d_R_cells p_d_U_rows p_d_U_cells p_d_S_rows p_d_S_cells p_d_T_rows p_d_T_cells p_d_E_rows p_d_E_cells)) dX1_take_26 k_X1_take_w1 0 rfl rfl 2 (by decide) tyX1 tyX1_ok nmX1 k_X1_take_5 rfl rfl (tyX1_ok 2 (by decide)) rfl rfl (by decide) rfl 29 rfl ?_
    refine v_aload_n X dX1_take_29 1 rfl rfl 30 rfl ?_
    refine v_get X (C := RX1) (T := TX1) (N := 8) (ci := 1) (v := _) dX1_take_30 k_X1_take_w1 0 rfl rfl 0 (by decide) k_X1_take_3 rfl rfl 33 rfl ?_
    refine v_aload_n X dX1_take_33 1 rfl rfl 34 rfl ?_
    refine v_get X (C := RX1) (T := TX1) (N := 8) (ci := 1) (v := _) dX1_take_34 k_X1_take_w1 0 rfl rfl 2 (by decide) k_X1_take_5 rfl rfl 37 rfl ?_
    obtain ⟨o2, ho2, hf⟩ := bnd hf
    refine v_callVi X (ci := 0) (T := TX0) (C := RX0) (As := [.int o1]) (rest := []) (ws' := (wX1 ad c9 o1 p_end p_kind p_value p_error p_errorAt p_t_count p_t_cells p_d_time p_d_tolerance p_d_seed p_d_madeTickets p_d_cheesesOfText p_d_R_rows p_d_R_cells p_d_U_rows p_d_U_cells p_d_S_rows p_d_S_cells p_d_T_rows p_d_T_cells p_d_E_rows p_d_E_cells)) (c_X0_at l hG D c9 (fun k => ad ([1, 2].getD k 0)) 600 p_t_count p_t_cells o1 ho2) 1 gX1_take_X0_at rfl rfl rfl ⟨rfl, pd_X0_at⟩ ⟨Nat.le_of_ble_eq_true rfl, Nat.le_of_ble_eq_true rfl⟩ 1 rfl rfl rfl rfl (Nat.le_of_ble_eq_true rfl) ⟨Nat.zero_le _, Nat.zero_le _⟩ [1, 2] [0, 3, 4, 5, 6, 7, 8, 9, 10, 11, 12, 13] [0, 12, 13, 1, 2, 3, 4, 5, 6, 7, 8, 9, 10, 11] rfl rfl rfl rfl dX1_take_37 40 rfl ?_
    refine v_istore_n X (lv' := [(2, .int o2), (1, .int p_value), (0, .ref (ad 0))]) dX1_take_40 rfl (by decide) rfl 41 rfl ?_
    refine v_iload_n X dX1_take_41 0 rfl rfl 42 rfl ?_
    refine v_iconst X dX1_take_42 ic_m1 43 rfl ?_
    refine v_icmp_ne X (tgt := 67) dX1_take_43 rfl 46 rfl hf (fun hf => ?_) (fun hf => ?_)
    · refine v_iload_n X dX1_take_67 0 rfl rfl 68 rfl ?_
      refine v_bipush X dX1_take_68 bp_97 70 rfl ?_
      refine v_icmp_lt X (tgt := 125) dX1_take_70 rfl 73 rfl hf (fun hf => ?_) (fun hf => ?_)
      · refine v_iload_n X dX1_take_125 0 rfl rfl 126 rfl ?_
        refine v_bipush X dX1_take_126 bp_48 128 rfl ?_
        refine v_icmp_lt X (tgt := 183) dX1_take_128 rfl 131 rfl hf (fun hf => ?_) (fun hf => ?_)
        · refine v_aload_n X dX1_take_183 2 rfl rfl 184 rfl ?_
          refine v_iconst X dX1_take_184 ic_3 185 rfl ?_
          refine v_put X (C := RX1) (T := TX1) (N := 8) (ci := 1) (ty := tyX1 4) (ws' := (wX1 ad c9 o1 p_end 3 p_value p_error p_errorAt p_t_count p_t_cells p_d_time p_d_tolerance p_d_seed p_d_madeTickets p_d_cheesesOfText p_d_R_rows p_d_R_cells p_d_U_rows p_d_U_cells p_d_S_rows p_d_S_cells p_d_T_rows p_d_T_cells p_d_E_rows p_d_E_cells)) dX1_take_185 k_X1_take_w1 0 rfl rfl 4 (by decide) tyX1 tyX1_ok nmX1 k_X1_take_6 rfl rfl (tyX1_ok 4 (by decide)) rfl rfl (by decide) rfl 188 rfl ?_
          refine v_aload_n X dX1_take_188 2 rfl rfl 189 rfl ?_
          refine v_aload_n X dX1_take_189 2 rfl rfl 190 rfl ?_
          refine v_get X (C := RX1) (T := TX1) (N := 8) (ci := 1) (v := _) dX1_take_190 k_X1_take_w1 0 rfl rfl 2 (by decide) k_X1_take_5 rfl rfl 193 rfl ?_
          refine v_iconst X dX1_take_193 ic_1 194 rfl ?_
          refine v_iadd X dX1_take_194 195 rfl ?_
          refine v_put X (C := RX1) (T := TX1) (N := 8) (ci := 1) (ty := tyX1 3) (ws' := (wX1 ad c9 o1 (o1 + 1) 3 p_value p_error p_errorAt p_t_count p_t_cells p_d_time p_d_tolerance p_d_seed p_d_madeTickets p_d_cheesesOfText p_d_R_rows p_d_R_cells p_d_U_rows p_d_U_cells p_d_S_rows p_d_S_cells p_d_T_rows p_d_T_cells p_d_E_rows p_d_E_cells)) dX1_take_195 k_X1_take_w1 0 rfl rfl 3 (by decide) tyX1 tyX1_ok nmX1 k_X1_take_4 rfl rfl (tyX1_ok 3 (by decide)) rfl rfl (by decide) rfl 198 rfl ?_
          refine v_aload_n X dX1_take_198 2 rfl rfl 199 rfl ?_
          refine v_iload_n X dX1_take_199 0 rfl rfl 200 rfl ?_
          refine v_put X (C := RX1) (T := TX1) (N := 8) (ci := 1) (ty := tyX1 5) (ws' := (wX1 ad c9 o1 (o1 + 1) 3 o2 p_error p_errorAt p_t_count p_t_cells p_d_time p_d_tolerance p_d_seed p_d_madeTickets p_d_cheesesOfText p_d_R_rows p_d_R_cells p_d_U_rows p_d_U_cells p_d_S_rows p_d_S_cells p_d_T_rows p_d_T_cells p_d_E_rows p_d_E_cells)) dX1_take_200 k_X1_take_w1 0 rfl rfl 5 (by decide) tyX1 tyX1_ok nmX1 k_X1_take_1 rfl rfl (tyX1_ok 5 (by decide)) rfl rfl (by decide) rfl 203 rfl ?_
          refine v_iload_n X dX1_take_203 1 rfl rfl 204 rfl ?_
          cases hf
          exact v_iret X (Nat.zero_le _) (Nat.zero_le _) dX1_take_204
        · refine v_iload_n X dX1_take_131 0 rfl rfl 132 rfl ?_
          refine v_bipush X dX1_take_132 bp_57 134 rfl ?_
          refine v_icmp_gt X (tgt := 183) dX1_take_134 rfl 137 rfl hf (fun hf => ?_) (fun hf => ?_)
          · refine v_aload_n X dX1_take_183 2 rfl rfl 184 rfl ?_
            refine v_iconst X dX1_take_184 ic_3 185 rfl ?_
            refine v_put X (C := RX1) (T := TX1) (N := 8) (ci := 1) (ty := tyX1 4) (ws' := (wX1 ad c9 o1 p_end 3 p_value p_error p_errorAt p_t_count p_t_cells p_d_time p_d_tolerance p_d_seed p_d_madeTickets p_d_cheesesOfText p_d_R_rows p_d_R_cells p_d_U_rows p_d_U_cells p_d_S_rows p_d_S_cells p_d_T_rows p_d_T_cells p_d_E_rows p_d_E_cells)) dX1_take_185 k_X1_take_w1 0 rfl rfl 4 (by decide) tyX1 tyX1_ok nmX1 k_X1_take_6 rfl rfl (tyX1_ok 4 (by decide)) rfl rfl (by decide) rfl 188 rfl ?_
            refine v_aload_n X dX1_take_188 2 rfl rfl 189 rfl ?_
            refine v_aload_n X dX1_take_189 2 rfl rfl 190 rfl ?_
            refine v_get X (C := RX1) (T := TX1) (N := 8) (ci := 1) (v := _) dX1_take_190 k_X1_take_w1 0 rfl rfl 2 (by decide) k_X1_take_5 rfl rfl 193 rfl ?_
            refine v_iconst X dX1_take_193 ic_1 194 rfl ?_
            refine v_iadd X dX1_take_194 195 rfl ?_
            refine v_put X (C := RX1) (T := TX1) (N := 8) (ci := 1) (ty := tyX1 3) (ws' := (wX1 ad c9 o1 (o1 + 1) 3 p_value p_error p_errorAt p_t_count p_t_cells p_d_time p_d_tolerance p_d_seed p_d_madeTickets p_d_cheesesOfText p_d_R_rows p_d_R_cells p_d_U_rows p_d_U_cells p_d_S_rows p_d_S_cells p_d_T_rows p_d_T_cells p_d_E_rows p_d_E_cells)) dX1_take_195 k_X1_take_w1 0 rfl rfl 3 (by decide) tyX1 tyX1_ok nmX1 k_X1_take_4 rfl rfl (tyX1_ok 3 (by decide)) rfl rfl (by decide) rfl 198 rfl ?_
            refine v_aload_n X dX1_take_198 2 rfl rfl 199 rfl ?_
            refine v_iload_n X dX1_take_199 0 rfl rfl 200 rfl ?_
            refine v_put X (C := RX1) (T := TX1) (N := 8) (ci := 1) (ty := tyX1 5) (ws' := (wX1 ad c9 o1 (o1 + 1) 3 o2 p_error p_errorAt p_t_count p_t_cells p_d_time p_d_tolerance p_d_seed p_d_madeTickets p_d_cheesesOfText p_d_R_rows p_d_R_cells p_d_U_rows p_d_U_cells p_d_S_rows p_d_S_cells p_d_T_rows p_d_T_cells p_d_E_rows p_d_E_cells)) dX1_take_200 k_X1_take_w1 0 rfl rfl 5 (by decide) tyX1 tyX1_ok nmX1 k_X1_take_1 rfl rfl (tyX1_ok 5 (by decide)) rfl rfl (by decide) rfl 203 rfl ?_
            refine v_iload_n X dX1_take_203 1 rfl rfl 204 rfl ?_
            cases hf
            exact v_iret X (Nat.zero_le _) (Nat.zero_le _) dX1_take_204
          · refine v_aload_n X dX1_take_137 2 rfl rfl 138 rfl ?_
            refine v_iconst X dX1_take_138 ic_2 139 rfl ?_
            refine v_put X (C := RX1) (T := TX1) (N := 8) (ci := 1) (ty := tyX1 4) (ws' := (wX1 ad c9 o1 p_end 2 p_value p_error p_errorAt p_t_count p_t_cells p_d_time p_d_tolerance p_d_seed p_d_madeTickets p_d_cheesesOfText p_d_R_rows p_d_R_cells p_d_U_rows p_d_U_cells p_d_S_rows p_d_S_cells p_d_T_rows p_d_T_cells p_d_E_rows p_d_E_cells)) dX1_take_139 k_X1_take_w1 0 rfl rfl 4 (by decide) tyX1 tyX1_ok nmX1 k_X1_take_6 rfl rfl (tyX1_ok 4 (by decide)) rfl rfl (by decide) rfl 142 rfl ?_
            refine v_aload_n X dX1_take_142 2 rfl rfl 143 rfl ?_
            refine v_aload_n X dX1_take_143 2 rfl rfl 144 rfl ?_
            refine v_get X (C := RX1) (T := TX1) (N := 8) (ci := 1) (v := _) dX1_take_144 k_X1_take_w1 0 rfl rfl 0 (by decide) k_X1_take_3 rfl rfl 147 rfl ?_
            refine v_aload_n X dX1_take_147 2 rfl rfl 148 rfl ?_
            refine v_get X (C := RX1) (T := TX1) (N := 8) (ci := 1) (v := _) dX1_take_148 k_X1_take_w1 0 rfl rfl 2 (by decide) k_X1_take_5 rfl rfl 151 rfl ?_
            refine v_bipush X dX1_take_151 bp_48 153 rfl ?_
            refine v_bipush X dX1_take_153 bp_57 155 rfl ?_
            obtain ⟨o3, ho3, hf⟩ := bnd hf
            refine v_callVi X (ci := 0) (T := TX0) (C := RX0) (As := [.int o1, .int 48, .int 57]) (rest := [.ref (ad 0)]) (ws' := (wX1 ad c9 o1 p_end 2 p_value p_error p_errorAt p_t_count p_t_cells p_d_time p_d_tolerance p_d_seed p_d_madeTickets p_d_cheesesOfText p_d_R_rows p_d_R_cells p_d_U_rows p_d_U_cells p_d_S_rows p_d_S_cells p_d_T_rows p_d_T_cells p_d_E_rows p_d_E_cells)) (c_X0_endOfRun l hG D c9 (fun k => ad ([1, 2].getD k 0)) 600 p_t_count p_t_cells o1 48 57 ho3) 3 gX1_take_X0_endOfRun rfl rfl rfl ⟨rfl, pd_X0_endOfRun⟩ ⟨Nat.le_of_ble_eq_true rfl, Nat.le_of_ble_eq_true rfl⟩ 1 rfl rfl rfl rfl (Nat.le_of_ble_eq_true rfl) ⟨Nat.zero_le _, Nat.zero_le _⟩ [1, 2] [0, 3, 4, 5, 6, 7, 8, 9, 10, 11, 12, 13] [0, 12, 13, 1, 2, 3, 4, 5, 6, 7, 8, 9, 10, 11] rfl rfl rfl rfl dX1_take_155 158 rfl ?_
            refine v_put X (C := RX1) (T := TX1) (N := 8) (ci := 1) (ty := tyX1 3) (ws' := (wX1 ad c9 o1 o3 2 p_value p_error p_errorAt p_t_count p_t_cells p_d_time p_d_tolerance p_d_seed p_d_madeTickets p_d_cheesesOfText p_d_R_rows p_d_R_cells p_d_U_rows p_d_U_cells p_d_S_rows p_d_S_cells p_d_T_rows p_d_T_cells p_d_E_rows p_d_E_cells)) dX1_take_158 k_X1_take_w1 0 rfl rfl 3 (by decide) tyX1 tyX1_ok nmX1 k_X1_take_4 rfl rfl (tyX1_ok 3 (by decide)) rfl rfl (by decide) rfl 161 rfl ?_
            refine v_aload_n X dX1_take_161 2 rfl rfl 162 rfl ?_
            refine v_aload_n X dX1_take_162 2 rfl rfl 163 rfl ?_
            refine v_get X (C := RX1) (T := TX1) (N := 8) (ci := 1) (v := _) dX1_take_163 k_X1_take_w1 0 rfl rfl 0 (by decide) k_X1_take_3 rfl rfl 166 rfl ?_
            refine v_aload_n X dX1_take_166 2 rfl rfl 167 rfl ?_
            refine v_get X (C := RX1) (T := TX1) (N := 8) (ci := 1) (v := _) dX1_take_167 k_X1_take_w1 0 rfl rfl 2 (by decide) k_X1_take_5 rfl rfl 170 rfl ?_
            refine v_aload_n X dX1_take_170 2 rfl rfl 171 rfl ?_
            refine v_get X (C := RX1) (T := TX1) (N := 8) (ci := 1) (v := _) dX1_take_171 k_X1_take_w1 0 rfl rfl 3 (by decide) k_X1_take_4 rfl rfl 174 rfl ?_
            obtain ⟨o4, ho4, hf⟩ := bnd hf
            refine v_callVi X (ci := 0) (T := TX0) (C := RX0) (As := [.int o1, .int o3]) (rest := [.ref (ad 0)]) (ws' := (wX1 ad c9 o1 o3 2 p_value p_error p_errorAt p_t_count p_t_cells p_d_time p_d_tolerance p_d_seed p_d_madeTickets p_d_cheesesOfText p_d_R_rows p_d_R_cells p_d_U_rows p_d_U_cells p_d_S_rows p_d_S_cells p_d_T_rows p_d_T_cells p_d_E_rows p_d_E_cells)) (c_X0_numberBetween l hG D c9 (fun k => ad ([1, 2].getD k 0)) 600 p_t_count p_t_cells o1 o3 ho4) 2 gX1_take_X0_numberBetween rfl rfl rfl ⟨rfl, pd_X0_numberBetween⟩ ⟨Nat.le_of_ble_eq_true rfl, Nat.le_of_ble_eq_true rfl⟩ 1 rfl rfl rfl rfl (Nat.le_of_ble_eq_true rfl) ⟨Nat.zero_le _, Nat.zero_le _⟩ [1, 2] [0, 3, 4, 5, 6, 7, 8, 9, 10, 11, 12, 13] [0, 12, 13, 1, 2, 3, 4, 5, 6, 7, 8, 9, 10, 11] rfl rfl rfl rfl dX1_take_174 177 rfl ?_
            refine v_put X (C := RX1) (T := TX1) (N := 8) (ci := 1) (ty := tyX1 5) (ws' := (wX1 ad c9 o1 o3 2 o4 p_error p_errorAt p_t_count p_t_cells p_d_time p_d_tolerance p_d_seed p_d_madeTickets p_d_cheesesOfText p_d_R_rows p_d_R_cells p_d_U_rows p_d_U_cells p_d_S_rows p_d_S_cells p_d_T_rows p_d_T_cells p_d_E_rows p_d_E_cells)) dX1_take_177 k_X1_take_w1 0 rfl rfl 5 (by decide) tyX1 tyX1_ok nmX1 k_X1_take_1 rfl rfl (tyX1_ok 5 (by decide)) rfl rfl (by decide) rfl 180 rfl ?_
            refine v_goto X (tgt := 203) dX1_take_180 rfl ?_
            refine v_iload_n X dX1_take_203 1 rfl rfl 204 rfl ?_
            cases hf
            exact v_iret X (Nat.zero_le _) (Nat.zero_le _) dX1_take_204
      · refine v_iload_n X dX1_take_73 0 rfl rfl 74 rfl ?_
        refine v_bipush X dX1_take_74 bp_122 76 rfl ?_
        refine v_icmp_gt X (tgt := 125) dX1_take_76 rfl 79 rfl hf (fun hf => ?_) (fun hf => ?_)
        · refine v_iload_n X dX1_take_125 0 rfl rfl 126 rfl ?_
          refine v_bipush X dX1_take_126 bp_48 128 rfl ?_
          refine v_icmp_lt X (tgt := 183) dX1_take_128 rfl 131 rfl hf (fun hf => ?_) (fun hf => ?_)
          · refine v_aload_n X dX1_take_183 2 rfl rfl 184 rfl ?_
            refine v_iconst X dX1_take_184 ic_3 185 rfl ?_
            refine v_put X (C := RX1) (T := TX1) (N := 8) (ci := 1) (ty := tyX1 4) (ws' := (wX1 ad c9 o1 p_end 3 p_value p_error p_errorAt p_t_count p_t_cells p_d_time p_d_tolerance p_d_seed p_d_madeTickets p_d_cheesesOfText p_d_R_rows p_d_R_cells p_d_U_rows p_d_U_cells p_d_S_rows p_d_S_cells p_d_T_rows p_d_T_cells p_d_E_rows p_d_E_cells)) dX1_take_185 k_X1_take_w1 0 rfl rfl 4 (by decide) tyX1 tyX1_ok nmX1 k_X1_take_6 rfl rfl (tyX1_ok 4 (by decide)) rfl rfl (by decide) rfl 188 rfl ?_
            refine v_aload_n X dX1_take_188 2 rfl rfl 189 rfl ?_
            refine v_aload_n X dX1_take_189 2 rfl rfl 190 rfl ?_
            refine v_get X (C := RX1) (T := TX1) (N := 8) (ci := 1) (v := _) dX1_take_190 k_X1_take_w1 0 rfl rfl 2 (by decide) k_X1_take_5 rfl rfl 193 rfl ?_
            refine v_iconst X dX1_take_193 ic_1 194 rfl ?_
            refine v_iadd X dX1_take_194 195 rfl ?_
            refine v_put X (C := RX1) (T := TX1) (N := 8) (ci := 1) (ty := tyX1 3) (ws' := (wX1 ad c9 o1 (o1 + 1) 3 p_value p_error p_errorAt p_t_count p_t_cells p_d_time p_d_tolerance p_d_seed p_d_madeTickets p_d_cheesesOfText p_d_R_rows p_d_R_cells p_d_U_rows p_d_U_cells p_d_S_rows p_d_S_cells p_d_T_rows p_d_T_cells p_d_E_rows p_d_E_cells)) dX1_take_195 k_X1_take_w1 0 rfl rfl 3 (by decide) tyX1 tyX1_ok nmX1 k_X1_take_4 rfl rfl (tyX1_ok 3 (by decide)) rfl rfl (by decide) rfl 198 rfl ?_
            refine v_aload_n X dX1_take_198 2 rfl rfl 199 rfl ?_
            refine v_iload_n X dX1_take_199 0 rfl rfl 200 rfl ?_
            refine v_put X (C := RX1) (T := TX1) (N := 8) (ci := 1) (ty := tyX1 5) (ws' := (wX1 ad c9 o1 (o1 + 1) 3 o2 p_error p_errorAt p_t_count p_t_cells p_d_time p_d_tolerance p_d_seed p_d_madeTickets p_d_cheesesOfText p_d_R_rows p_d_R_cells p_d_U_rows p_d_U_cells p_d_S_rows p_d_S_cells p_d_T_rows p_d_T_cells p_d_E_rows p_d_E_cells)) dX1_take_200 k_X1_take_w1 0 rfl rfl 5 (by decide) tyX1 tyX1_ok nmX1 k_X1_take_1 rfl rfl (tyX1_ok 5 (by decide)) rfl rfl (by decide) rfl 203 rfl ?_
            refine v_iload_n X dX1_take_203 1 rfl rfl 204 rfl ?_
            cases hf
            exact v_iret X (Nat.zero_le _) (Nat.zero_le _) dX1_take_204
          · refine v_iload_n X dX1_take_131 0 rfl rfl 132 rfl ?_
            refine v_bipush X dX1_take_132 bp_57 134 rfl ?_
            refine v_icmp_gt X (tgt := 183) dX1_take_134 rfl 137 rfl hf (fun hf => ?_) (fun hf => ?_)
            · refine v_aload_n X dX1_take_183 2 rfl rfl 184 rfl ?_
              refine v_iconst X dX1_take_184 ic_3 185 rfl ?_
              refine v_put X (C := RX1) (T := TX1) (N := 8) (ci := 1) (ty := tyX1 4) (ws' := (wX1 ad c9 o1 p_end 3 p_value p_error p_errorAt p_t_count p_t_cells p_d_time p_d_tolerance p_d_seed p_d_madeTickets p_d_cheesesOfText p_d_R_rows p_d_R_cells p_d_U_rows p_d_U_cells p_d_S_rows p_d_S_cells p_d_T_rows p_d_T_cells p_d_E_rows p_d_E_cells)) dX1_take_185 k_X1_take_w1 0 rfl rfl 4 (by decide) tyX1 tyX1_ok nmX1 k_X1_take_6 rfl rfl (tyX1_ok 4 (by decide)) rfl rfl (by decide) rfl 188 rfl ?_
              refine v_aload_n X dX1_take_188 2 rfl rfl 189 rfl ?_
              refine v_aload_n X dX1_take_189 2 rfl rfl 190 rfl ?_
              refine v_get X (C := RX1) (T := TX1) (N := 8) (ci := 1) (v := _) dX1_take_190 k_X1_take_w1 0 rfl rfl 2 (by decide) k_X1_take_5 rfl rfl 193 rfl ?_
              refine v_iconst X dX1_take_193 ic_1 194 rfl ?_
              refine v_iadd X dX1_take_194 195 rfl ?_
              refine v_put X (C := RX1) (T := TX1) (N := 8) (ci := 1) (ty := tyX1 3) (ws' := (wX1 ad c9 o1 (o1 + 1) 3 p_value p_error p_errorAt p_t_count p_t_cells p_d_time p_d_tolerance p_d_seed p_d_madeTickets p_d_cheesesOfText p_d_R_rows p_d_R_cells p_d_U_rows p_d_U_cells p_d_S_rows p_d_S_cells p_d_T_rows p_d_T_cells p_d_E_rows p_d_E_cells)) dX1_take_195 k_X1_take_w1 0 rfl rfl 3 (by decide) tyX1 tyX1_ok nmX1 k_X1_take_4 rfl rfl (tyX1_ok 3 (by decide)) rfl rfl (by decide) rfl 198 rfl ?_
              refine v_aload_n X dX1_take_198 2 rfl rfl 199 rfl ?_
              refine v_iload_n X dX1_take_199 0 rfl rfl 200 rfl ?_
              refine v_put X (C := RX1) (T := TX1) (N := 8) (ci := 1) (ty := tyX1 5) (ws' := (wX1 ad c9 o1 (o1 + 1) 3 o2 p_error p_errorAt p_t_count p_t_cells p_d_time p_d_tolerance p_d_seed p_d_madeTickets p_d_cheesesOfText p_d_R_rows p_d_R_cells p_d_U_rows p_d_U_cells p_d_S_rows p_d_S_cells p_d_T_rows p_d_T_cells p_d_E_rows p_d_E_cells)) dX1_take_200 k_X1_take_w1 0 rfl rfl 5 (by decide) tyX1 tyX1_ok nmX1 k_X1_take_1 rfl rfl (tyX1_ok 5 (by decide)) rfl rfl (by decide) rfl 203 rfl ?_
              refine v_iload_n X dX1_take_203 1 rfl rfl 204 rfl ?_
              cases hf
              exact v_iret X (Nat.zero_le _) (Nat.zero_le _) dX1_take_204
            · refine v_aload_n X dX1_take_137 2 rfl rfl 138 rfl ?_
              refine v_iconst X dX1_take_138 ic_2 139 rfl ?_
              refine v_put X (C := RX1) (T := TX1) (N := 8) (ci := 1) (ty := tyX1 4) (ws' := (wX1 ad c9 o1 p_end 2 p_value p_error p_errorAt p_t_count p_t_cells p_d_time p_d_tolerance p_d_seed p_d_madeTickets p_d_cheesesOfText p_d_R_rows p_d_R_cells p_d_U_rows p_d_U_cells p_d_S_rows p_d_S_cells p_d_T_rows p_d_T_cells p_d_E_rows p_d_E_cells)) dX1_take_139 k_X1_take_w1 0 rfl rfl 4 (by decide) tyX1 tyX1_ok nmX1 k_X1_take_6 rfl rfl (tyX1_ok 4 (by decide)) rfl rfl (by decide) rfl 142 rfl ?_
              refine v_aload_n X dX1_take_142 2 rfl rfl 143 rfl ?_
              refine v_aload_n X dX1_take_143 2 rfl rfl 144 rfl ?_
              refine v_get X (C := RX1) (T := TX1) (N := 8) (ci := 1) (v := _) dX1_take_144 k_X1_take_w1 0 rfl rfl 0 (by decide) k_X1_take_3 rfl rfl 147 rfl ?_
              refine v_aload_n X dX1_take_147 2 rfl rfl 148 rfl ?_
              refine v_get X (C := RX1) (T := TX1) (N := 8) (ci := 1) (v := _) dX1_take_148 k_X1_take_w1 0 rfl rfl 2 (by decide) k_X1_take_5 rfl rfl 151 rfl ?_
              refine v_bipush X dX1_take_151 bp_48 153 rfl ?_
              refine v_bipush X dX1_take_153 bp_57 155 rfl ?_
              obtain ⟨o5, ho5, hf⟩ := bnd hf
              refine v_callVi X (ci := 0) (T := TX0) (C := RX0) (As := [.int o1, .int 48, .int 57]) (rest := [.ref (ad 0)]) (ws' := (wX1 ad c9 o1 p_end 2 p_value p_error p_errorAt p_t_count p_t_cells p_d_time p_d_tolerance p_d_seed p_d_madeTickets p_d_cheesesOfText p_d_R_rows p_d_R_cells p_d_U_rows p_d_U_cells p_d_S_rows p_d_S_cells p_d_T_rows p_d_T_cells p_d_E_rows p_d_E_cells)) (c_X0_endOfRun l hG D c9 (fun k => ad ([1, 2].getD k 0)) 600 p_t_count p_t_cells o1 48 57 ho5) 3 gX1_take_X0_endOfRun rfl rfl rfl ⟨rfl, pd_X0_endOfRun⟩ ⟨Nat.le_of_ble_eq_true rfl, Nat.le_of_ble_eq_true rfl⟩ 1 rfl rfl rfl rfl (Nat.le_of_ble_eq_true rfl) ⟨Nat.zero_le _, Nat.zero_le _⟩ [1, 2] [0, 3, 4, 5, 6, 7, 8, 9, 10, 11, 12, 13] [0, 12, 13, 1, 2, 3, 4, 5, 6, 7, 8, 9, 10, 11] rfl rfl rfl rfl dX1_take_155 158 rfl ?_
              refine v_put X (C := RX1) (T := TX1) (N := 8) (ci := 1) (ty := tyX1 3) (ws' := (wX1 ad c9 o1 o5 2 p_value p_error p_errorAt p_t_count p_t_cells p_d_time p_d_tolerance p_d_seed p_d_madeTickets p_d_cheesesOfText p_d_R_rows p_d_R_cells p_d_U_rows p_d_U_cells p_d_S_rows p_d_S_cells p_d_T_rows p_d_T_cells p_d_E_rows p_d_E_cells)) dX1_take_158 k_X1_take_w1 0 rfl rfl 3 (by decide) tyX1 tyX1_ok nmX1 k_X1_take_4 rfl rfl (tyX1_ok 3 (by decide)) rfl rfl (by decide) rfl 161 rfl ?_
              refine v_aload_n X dX1_take_161 2 rfl rfl 162 rfl ?_
              refine v_aload_n X dX1_take_162 2 rfl rfl 163 rfl ?_
              refine v_get X (C := RX1) (T := TX1) (N := 8) (ci := 1) (v := _) dX1_take_163 k_X1_take_w1 0 rfl rfl 0 (by decide) k_X1_take_3 rfl rfl 166 rfl ?_
              refine v_aload_n X dX1_take_166 2 rfl rfl 167 rfl ?_
              refine v_get X (C := RX1) (T := TX1) (N := 8) (ci := 1) (v := _) dX1_take_167 k_X1_take_w1 0 rfl rfl 2 (by decide) k_X1_take_5 rfl rfl 170 rfl ?_
              refine v_aload_n X dX1_take_170 2 rfl rfl 171 rfl ?_
              refine v_get X (C := RX1) (T := TX1) (N := 8) (ci := 1) (v := _) dX1_take_171 k_X1_take_w1 0 rfl rfl 3 (by decide) k_X1_take_4 rfl rfl 174 rfl ?_
              obtain ⟨o6, ho6, hf⟩ := bnd hf
              refine v_callVi X (ci := 0) (T := TX0) (C := RX0) (As := [.int o1, .int o5]) (rest := [.ref (ad 0)]) (ws' := (wX1 ad c9 o1 o5 2 p_value p_error p_errorAt p_t_count p_t_cells p_d_time p_d_tolerance p_d_seed p_d_madeTickets p_d_cheesesOfText p_d_R_rows p_d_R_cells p_d_U_rows p_d_U_cells p_d_S_rows p_d_S_cells p_d_T_rows p_d_T_cells p_d_E_rows p_d_E_cells)) (c_X0_numberBetween l hG D c9 (fun k => ad ([1, 2].getD k 0)) 600 p_t_count p_t_cells o1 o5 ho6) 2 gX1_take_X0_numberBetween rfl rfl rfl ⟨rfl, pd_X0_numberBetween⟩ ⟨Nat.le_of_ble_eq_true rfl, Nat.le_of_ble_eq_true rfl⟩ 1 rfl rfl rfl rfl (Nat.le_of_ble_eq_true rfl) ⟨Nat.zero_le _, Nat.zero_le _⟩ [1, 2] [0, 3, 4, 5, 6, 7, 8, 9, 10, 11, 12, 13] [0, 12, 13, 1, 2, 3, 4, 5, 6, 7, 8, 9, 10, 11] rfl rfl rfl rfl dX1_take_174 177 rfl ?_
              refine v_put X (C := RX1) (T := TX1) (N := 8) (ci := 1) (ty := tyX1 5) (ws' := (wX1 ad c9 o1 o5 2 o6 p_error p_errorAt p_t_count p_t_cells p_d_time p_d_tolerance p_d_seed p_d_madeTickets p_d_cheesesOfText p_d_R_rows p_d_R_cells p_d_U_rows p_d_U_cells p_d_S_rows p_d_S_cells p_d_T_rows p_d_T_cells p_d_E_rows p_d_E_cells)) dX1_take_177 k_X1_take_w1 0 rfl rfl 5 (by decide) tyX1 tyX1_ok nmX1 k_X1_take_1 rfl rfl (tyX1_ok 5 (by decide)) rfl rfl (by decide) rfl 180 rfl ?_
              refine v_goto X (tgt := 203) dX1_take_180 rfl ?_
              refine v_iload_n X dX1_take_203 1 rfl rfl 204 rfl ?_
              cases hf
              exact v_iret X (Nat.zero_le _) (Nat.zero_le _) dX1_take_204
        · refine v_aload_n X dX1_take_79 2 rfl rfl 80 rfl ?_
          refine v_iconst X dX1_take_80 ic_1 81 rfl ?_
          refine v_put X (C := RX1) (T := TX1) (N := 8) (ci := 1) (ty := tyX1 4) (ws' := (wX1 ad c9 o1 p_end 1 p_value p_error p_errorAt p_t_count p_t_cells p_d_time p_d_tolerance p_d_seed p_d_madeTickets p_d_cheesesOfText p_d_R_rows p_d_R_cells p_d_U_rows p_d_U_cells p_d_S_rows p_d_S_cells p_d_T_rows p_d_T_cells p_d_E_rows p_d_E_cells)) dX1_take_81 k_X1_take_w1 0 rfl rfl 4 (by decide) tyX1 tyX1_ok nmX1 k_X1_take_6 rfl rfl (tyX1_ok 4 (by decide)) rfl rfl (by decide) rfl 84 rfl ?_
          refine v_aload_n X dX1_take_84 2 rfl rfl 85 rfl ?_
          refine v_aload_n X dX1_take_85 2 rfl rfl 86 rfl ?_
          refine v_get X (C := RX1) (T := TX1) (N := 8) (ci := 1) (v := _) dX1_take_86 k_X1_take_w1 0 rfl rfl 0 (by decide) k_X1_take_3 rfl rfl 89 rfl ?_
          refine v_aload_n X dX1_take_89 2 rfl rfl 90 rfl ?_
          refine v_get X (C := RX1) (T := TX1) (N := 8) (ci := 1) (v := _) dX1_take_90 k_X1_take_w1 0 rfl rfl 2 (by decide) k_X1_take_5 rfl rfl 93 rfl ?_
          refine v_bipush X dX1_take_93 bp_97 95 rfl ?_
          refine v_bipush X dX1_take_95 bp_122 97 rfl ?_
          obtain ⟨o7, ho7, hf⟩ := bnd hf
          refine v_callVi X (ci := 0) (T := TX0) (C := RX0) (As := [.int o1, .int 97, .int 122]) (rest := [.ref (ad 0)]) (ws' := (wX1 ad c9 o1 p_end 1 p_value p_error p_errorAt p_t_count p_t_cells p_d_time p_d_tolerance p_d_seed p_d_madeTickets p_d_cheesesOfText p_d_R_rows p_d_R_cells p_d_U_rows p_d_U_cells p_d_S_rows p_d_S_cells p_d_T_rows p_d_T_cells p_d_E_rows p_d_E_cells)) (c_X0_endOfRun l hG D c9 (fun k => ad ([1, 2].getD k 0)) 600 p_t_count p_t_cells o1 97 122 ho7) 3 gX1_take_X0_endOfRun rfl rfl rfl ⟨rfl, pd_X0_endOfRun⟩ ⟨Nat.le_of_ble_eq_true rfl, Nat.le_of_ble_eq_true rfl⟩ 1 rfl rfl rfl rfl (Nat.le_of_ble_eq_true rfl) ⟨Nat.zero_le _, Nat.zero_le _⟩ [1, 2] [0, 3, 4, 5, 6, 7, 8, 9, 10, 11, 12, 13] [0, 12, 13, 1, 2, 3, 4, 5, 6, 7, 8, 9, 10, 11] rfl rfl rfl rfl dX1_take_97 100 rfl ?_
          refine v_put X (C := RX1) (T := TX1) (N := 8) (ci := 1) (ty := tyX1 3) (ws' := (wX1 ad c9 o1 o7 1 p_value p_error p_errorAt p_t_count p_t_cells p_d_time p_d_tolerance p_d_seed p_d_madeTickets p_d_cheesesOfText p_d_R_rows p_d_R_cells p_d_U_rows p_d_U_cells p_d_S_rows p_d_S_cells p_d_T_rows p_d_T_cells p_d_E_rows p_d_E_cells)) dX1_take_100 k_X1_take_w1 0 rfl rfl 3 (by decide) tyX1 tyX1_ok nmX1 k_X1_take_4 rfl rfl (tyX1_ok 3 (by decide)) rfl rfl (by decide) rfl 103 rfl ?_
          refine v_aload_n X dX1_take_103 2 rfl rfl 104 rfl ?_
          refine v_aload_n X dX1_take_104 2 rfl rfl 105 rfl ?_
          refine v_get X (C := RX1) (T := TX1) (N := 8) (ci := 1) (v := _) dX1_take_105 k_X1_take_w1 0 rfl rfl 0 (by decide) k_X1_take_3 rfl rfl 108 rfl ?_
          refine v_aload_n X dX1_take_108 2 rfl rfl 109 rfl ?_
          refine v_get X (C := RX1) (T := TX1) (N := 8) (ci := 1) (v := _) dX1_take_109 k_X1_take_w1 0 rfl rfl 2 (by decide) k_X1_take_5 rfl rfl 112 rfl ?_
          refine v_aload_n X dX1_take_112 2 rfl rfl 113 rfl ?_
          refine v_get X (C := RX1) (T := TX1) (N := 8) (ci := 1) (v := _) dX1_take_113 k_X1_take_w1 0 rfl rfl 3 (by decide) k_X1_take_4 rfl rfl 116 rfl ?_
          obtain ⟨o8, ho8, hf⟩ := bnd hf
          refine v_callVi X (ci := 0) (T := TX0) (C := RX0) (As := [.int o1, .int o7]) (rest := [.ref (ad 0)]) (ws' := (wX1 ad c9 o1 o7 1 p_value p_error p_errorAt p_t_count p_t_cells p_d_time p_d_tolerance p_d_seed p_d_madeTickets p_d_cheesesOfText p_d_R_rows p_d_R_cells p_d_U_rows p_d_U_cells p_d_S_rows p_d_S_cells p_d_T_rows p_d_T_cells p_d_E_rows p_d_E_cells)) (c_X0_nameBetween l hG D c9 (fun k => ad ([1, 2].getD k 0)) 600 p_t_count p_t_cells o1 o7 ho8) 2 gX1_take_X0_nameBetween rfl rfl rfl ⟨rfl, pd_X0_nameBetween⟩ ⟨Nat.le_of_ble_eq_true rfl, Nat.le_of_ble_eq_true rfl⟩ 1 rfl rfl rfl rfl (Nat.le_of_ble_eq_true rfl) ⟨Nat.zero_le _, Nat.zero_le _⟩ [1, 2] [0, 3, 4, 5, 6, 7, 8, 9, 10, 11, 12, 13] [0, 12, 13, 1, 2, 3, 4, 5, 6, 7, 8, 9, 10, 11] rfl rfl rfl rfl dX1_take_116 119 rfl ?_
          refine v_put X (C := RX1) (T := TX1) (N := 8) (ci := 1) (ty := tyX1 5) (ws' := (wX1 ad c9 o1 o7 1 o8 p_error p_errorAt p_t_count p_t_cells p_d_time p_d_tolerance p_d_seed p_d_madeTickets p_d_cheesesOfText p_d_R_rows p_d_R_cells p_d_U_rows p_d_U_cells p_d_S_rows p_d_S_cells p_d_T_rows p_d_T_cells p_d_E_rows p_d_E_cells)) dX1_take_119 k_X1_take_w1 0 rfl rfl 5 (by decide) tyX1 tyX1_ok nmX1 k_X1_take_1 rfl rfl (tyX1_ok 5 (by decide)) rfl rfl (by decide) rfl 122 rfl ?_
          refine v_goto X (tgt := 203) dX1_take_122 rfl ?_
          refine v_iload_n X dX1_take_203 1 rfl rfl 204 rfl ?_
          cases hf
          exact v_iret X (Nat.zero_le _) (Nat.zero_le _) dX1_take_204
    · refine v_aload_n X dX1_take_46 2 rfl rfl 47 rfl ?_
      refine v_iconst X dX1_take_47 ic_0 48 rfl ?_
      refine v_put X (C := RX1) (T := TX1) (N := 8) (ci := 1) (ty := tyX1 4) (ws' := (wX1 ad c9 o1 p_end 0 p_value p_error p_errorAt p_t_count p_t_cells p_d_time p_d_tolerance p_d_seed p_d_madeTickets p_d_cheesesOfText p_d_R_rows p_d_R_cells p_d_U_rows p_d_U_cells p_d_S_rows p_d_S_cells p_d_T_rows p_d_T_cells p_d_E_rows p_d_E_cells)) dX1_take_48 k_X1_take_w1 0 rfl rfl 4 (by decide) tyX1 tyX1_ok nmX1 k_X1_take_6 rfl rfl (tyX1_ok 4 (by decide)) rfl rfl (by decide) rfl 51 rfl ?_
      refine v_aload_n X dX1_take_51 2 rfl rfl 52 rfl ?_
      refine v_aload_n X dX1_take_52 2 rfl rfl 53 rfl ?_
      refine v_get X (C := RX1) (T := TX1) (N := 8) (ci := 1) (v := _) dX1_take_53 k_X1_take_w1 0 rfl rfl 2 (by decide) k_X1_take_5 rfl rfl 56 rfl ?_
      refine v_put X (C := RX1) (T := TX1) (N := 8) (ci := 1) (ty := tyX1 3) (ws' := (wX1 ad c9 o1 o1 0 p_value p_error p_errorAt p_t_count p_t_cells p_d_time p_d_tolerance p_d_seed p_d_madeTickets p_d_cheesesOfText p_d_R_rows p_d_R_cells p_d_U_rows p_d_U_cells p_d_S_rows p_d_S_cells p_d_T_rows p_d_T_cells p_d_E_rows p_d_E_cells)) dX1_take_56 k_X1_take_w1 0 rfl rfl 3 (by decide) tyX1 tyX1_ok nmX1 k_X1_take_4 rfl rfl (tyX1_ok 3 (by decide)) rfl rfl (by decide) rfl 59 rfl ?_
      refine v_aload_n X dX1_take_59 2 rfl rfl 60 rfl ?_
      refine v_iconst X dX1_take_60 ic_0 61 rfl ?_
      refine v_put X (C := RX1) (T := TX1) (N := 8) (ci := 1) (ty := tyX1 5) (ws' := (wX1 ad c9 o1 o1 0 0 p_error p_errorAt p_t_count p_t_cells p_d_time p_d_tolerance p_d_seed p_d_madeTickets p_d_cheesesOfText p_d_R_rows p_d_R_cells p_d_U_rows p_d_U_cells p_d_S_rows p_d_S_cells p_d_T_rows p_d_T_cells p_d_E_rows p_d_E_cells)) dX1_take_61 k_X1_take_w1 0 rfl rfl 5 (by decide) tyX1 tyX1_ok nmX1 k_X1_take_1 rfl rfl (tyX1_ok 5 (by decide)) rfl rfl (by decide) rfl 64 rfl ?_
      refine v_goto X (tgt := 203) dX1_take_64 rfl ?_
      refine v_iload_n X dX1_take_203 1 rfl rfl 204 rfl ?_
      cases hf
      exact v_iret X (Nat.zero_le _) (Nat.zero_le _) dX1_take_204
  · refine v_iload_n X dX1_take_12 0 rfl rfl 13 rfl ?_
    cases hf
    exact v_iret X (Nat.zero_le _) (Nat.zero_le _) dX1_take_13
theorem pd_X1_take : yX1_take.cls ≠ "java/lang/invoke/MethodHandle" ∧ yX1_take.cls ≠ "java/lang/invoke/VarHandle" ∧ (parseMethodDescriptor yX1_take.desc).map (fun d => d.parameters.length) = some 0 := by decide +kernel
theorem k_X1_require_w1 : ∀ w ∈ u_ws RX1 TX1 8, w ∈ wsX1_require := in_r _ [4, 5, 6, 7, 8, 9, 10, 11] rfl
theorem k_X1_require_1 : Cond.fieldLink RX1 29 "TicketGate$Parser" "error" "I" ∈ wsX1_require := List.mem_of_getElem? (i := 1) rfl
theorem k_X1_require_2 : Cond.fieldLink RX1 257 "TicketGate$Parser" "start" "I" ∈ wsX1_require := List.mem_of_getElem? (i := 2) rfl
theorem k_X1_require_3 : Cond.fieldLink RX1 18 "TicketGate$Parser" "errorAt" "I" ∈ wsX1_require := List.mem_of_getElem? (i := 3) rfl
def f_X1_require (p_start : Int32) (p_error : Int32) (p_errorAt : Int32) (v1 : Int32) (v2 : Int32) : Option (Int32 × Int32) :=
  if p_error = 0 then (
    if v1 = 0 then (
      some (v2, p_start))
    else (
      some (p_error, p_errorAt)))
  else (
    some (p_error, p_errorAt))
set_option maxRecDepth 100000 in
set_option maxHeartbeats 4000000 in
theorem c_X1_require (l : Launch) {G : (Nat → Prop) → State → Heap → Prop} (hG : vG G) (D : va_G) (c9 : Nat → ClassId) (ad : Nat → Nat) (p_start : Int32) (p_end : Int32) (p_kind : Int32) (p_value : Int32) (p_error : Int32) (p_errorAt : Int32) (p_t_count : Int32) (p_t_cells : Nat → Int32) (p_d_time : Int32) (p_d_tolerance : Int32) (p_d_seed : Int32) (p_d_madeTickets : Int32) (p_d_cheesesOfText : Int32) (p_d_R_rows : Int32) (p_d_R_cells : Nat → Int32) (p_d_U_rows : Int32) (p_d_U_cells : Nat → Int32) (p_d_S_rows : Int32) (p_d_S_cells : Nat → Int32) (p_d_T_rows : Int32) (p_d_T_cells : Nat → Int32) (p_d_E_rows : Int32) (p_d_E_cells : Nat → Int32) (v1 : Int32) (v2 : Int32) {o : Int32 × Int32} (hf : f_X1_require p_start p_error p_errorAt v1 v2 = some o) : mV l yX1_require wsX1_require { frames := 0, cells := 0, slots := 0, locals := 0 } G D (tyA c9) [.ref (ad 0), .int v1, .int v2] (wX1 ad c9 p_start p_end p_kind p_value p_error p_errorAt p_t_count p_t_cells p_d_time p_d_tolerance p_d_seed p_d_madeTickets p_d_cheesesOfText p_d_R_rows p_d_R_cells p_d_U_rows p_d_U_cells p_d_S_rows p_d_S_cells p_d_T_rows p_d_T_cells p_d_E_rows p_d_E_cells) [] 0 0 (wX1 ad c9 p_start p_end p_kind p_value o.1 o.2 p_t_count p_t_cells p_d_time p_d_tolerance p_d_seed p_d_madeTickets p_d_cheesesOfText p_d_R_rows p_d_R_cells p_d_U_rows p_d_U_cells p_d_S_rows p_d_S_cells p_d_T_rows p_d_T_cells p_d_E_rows p_d_E_cells) := by
  refine mV_of hG (cc := cX1_require) (maxL := 3) (by decide) rfl (Nat.le_of_ble_eq_true rfl) ?_
  intro p e s m args below meth c A hnm X
  have X : vX p s m args meth c cX1_require 3 none RX1 wsX1_require D (tyA c9) G A := X
  refine v_eq (lv2 := [(0, .ref (ad 0)), (1, .int v1), (2, .int v2)]) rfl rfl rfl rfl ?_
  rw [f_X1_require] at hf
  refine v_aload_n X dX1_require_0 0 rfl rfl 1 rfl ?_
  refine v_get X (C := RX1) (T := TX1) (N := 8) (ci := 1) (v := _) dX1_require_1 k_X1_require_w1 0 rfl rfl 6 (by decide) k_X1_require_1 rfl rfl 4 rfl ?_
  refine v_if_ne X (tgt := 24) dX1_require_4 rfl 7 rfl hf (fun hf => ?_) (fun hf => ?_)
  · cases hf
    exact v_vret X (Nat.zero_le _) (Nat.zero_le _) dX1_require_24
  · refine v_iload_n X dX1_require_7 1 rfl rfl 8 rfl ?_
    refine v_if_ne X (tgt := 24) dX1_require_8 rfl 11 rfl hf (fun hf => ?_) (fun hf => ?_)
    · cases hf
      exact v_vret X (Nat.zero_le _) (Nat.zero_le _) dX1_require_24
    · refine v_aload_n X dX1_require_11 0 rfl rfl 12 rfl ?_
      refine v_iload_n X dX1_require_12 2 rfl rfl 13 rfl ?_
      refine v_put X (C := RX1) (T := TX1) (N := 8) (ci := 1) (ty := tyX1 6) (ws' := (wX1 ad c9 p_start p_end p_kind p_value v2 p_errorAt p_t_count p_t_cells p_d_time p_d_tolerance p_d_seed p_d_madeTickets p_d_cheesesOfText p_d_R_rows p_d_R_cells p_d_U_rows p_d_U_cells p_d_S_rows p_d_S_cells p_d_T_rows p_d_T_cells p_d_E_rows p_d_E_cells)) dX1_require_13 k_X1_require_w1 0 rfl rfl 6 (by decide) tyX1 tyX1_ok nmX1 k_X1_require_1 rfl rfl (tyX1_ok 6 (by decide)) rfl rfl (by decide) rfl 16 rfl ?_
      refine v_aload_n X dX1_require_16 0 rfl rfl 17 rfl ?_
      refine v_aload_n X dX1_require_17 0 rfl rfl 18 rfl ?_
      refine v_get X (C := RX1) (T := TX1) (N := 8) (ci := 1) (v := _) dX1_require_18 k_X1_require_w1 0 rfl rfl 2 (by decide) k_X1_require_2 rfl rfl 21 rfl ?_
      refine v_put X (C := RX1) (T := TX1) (N := 8) (ci := 1) (ty := tyX1 7) (ws' := (wX1 ad c9 p_start p_end p_kind p_value v2 p_start p_t_count p_t_cells p_d_time p_d_tolerance p_d_seed p_d_madeTickets p_d_cheesesOfText p_d_R_rows p_d_R_cells p_d_U_rows p_d_U_cells p_d_S_rows p_d_S_cells p_d_T_rows p_d_T_cells p_d_E_rows p_d_E_cells)) dX1_require_21 k_X1_require_w1 0 rfl rfl 7 (by decide) tyX1 tyX1_ok nmX1 k_X1_require_3 rfl rfl (tyX1_ok 7 (by decide)) rfl rfl (by decide) rfl 24 rfl ?_
      cases hf
      exact v_vret X (Nat.zero_le _) (Nat.zero_le _) dX1_require_24
theorem pd_X1_require : yX1_require.cls ≠ "java/lang/invoke/MethodHandle" ∧ yX1_require.cls ≠ "java/lang/invoke/VarHandle" ∧ (parseMethodDescriptor yX1_require.desc).map (fun d => d.parameters.length) = some 2 := by decide +kernel
theorem k_X1_knownName_realms_w1 : ∀ w ∈ u_ws RX1 TX1 8, w ∈ wsX1_knownName := in_r _ [70, 71, 72, 73, 74, 75, 76, 77] rfl
theorem k_X1_knownName_realms_1 : Cond.fieldLink RX1 151 "TicketGate$Parser" "value" "I" ∈ wsX1_knownName := List.mem_of_getElem? (i := 1) rfl
theorem pd_X6_rowWith_UX1_knownName_247 : "TicketGate$Table" ≠ "java/lang/invoke/MethodHandle" ∧ "TicketGate$Table" ≠ "java/lang/invoke/VarHandle" ∧ (parseMethodDescriptor "(II)I").map (fun d => d.parameters.length) = some 2 := by decide +kernel
theorem k_X1_knownName_realms_2 : Cond.fieldLink RX1 43 "TicketGate$Parser" "kind" "I" ∈ wsX1_knownName := List.mem_of_getElem? (i := 2) rfl
def f_X1_knownName_realms (p_start : Int32) (p_end : Int32) (p_kind : Int32) (p_value : Int32) (p_error : Int32) (p_errorAt : Int32) (p_t_count : Int32) (p_t_cells : Nat → Int32) (p_d_R_rows : Int32) (p_d_R_cells : Nat → Int32) (v2 : Int32) : Option (Int32 × Int32 × Int32 × Int32 × Int32 × Int32 × Int32) :=
  (f_X6_rowWith 25 5 p_d_R_rows p_d_R_cells v2 p_value).bind fun o1 =>
  Option.bind (if p_kind = 1 then (
    some (1))
  else (
    some (0)) : Option (Int32)) fun j2 =>
  (f_X1_require p_start p_error p_errorAt j2 1).bind fun o3 =>
  Option.bind (if o1 = (-1) then (
    some (0))
  else (
    some (1)) : Option (Int32)) fun j4 =>
  (f_X1_require p_start o3.1 o3.2 j4 4).bind fun o5 =>
  (f_X1_take p_start p_end p_kind p_value o5.1 p_t_count p_t_cells).bind fun o6 =>
  some (o1, o6.2.1, o6.2.2.1, o6.2.2.2.1, o6.2.2.2.2, o5.1, o5.2)
set_option maxRecDepth 100000 in
set_option maxHeartbeats 4000000 in
theorem c_X1_knownName_realms (l : Launch) {G : (Nat → Prop) → State → Heap → Prop} (hG : vG G) (D : va_G) (c9 : Nat → ClassId) (ad : Nat → Nat) (p_start : Int32) (p_end : Int32) (p_kind : Int32) (p_value : Int32) (p_error : Int32) (p_errorAt : Int32) (p_t_count : Int32) (p_t_cells : Nat → Int32) (p_d_time : Int32) (p_d_tolerance : Int32) (p_d_seed : Int32) (p_d_madeTickets : Int32) (p_d_cheesesOfText : Int32) (p_d_R_rows : Int32) (p_d_R_cells : Nat → Int32) (p_d_U_rows : Int32) (p_d_U_cells : Nat → Int32) (p_d_S_rows : Int32) (p_d_S_cells : Nat → Int32) (p_d_T_rows : Int32) (p_d_T_cells : Nat → Int32) (p_d_E_rows : Int32) (p_d_E_cells : Nat → Int32) (v2 : Int32) {o : Int32 × Int32 × Int32 × Int32 × Int32 × Int32 × Int32} (hf : f_X1_knownName_realms p_start p_end p_kind p_value p_error p_errorAt p_t_count p_t_cells p_d_R_rows p_d_R_cells v2 = some o) : mI l yX1_knownName wsX1_knownName { frames := 3, cells := 0, slots := 0, locals := 86 } G D (tyA c9) [.ref (ad 0), .ref (ad 4), .int v2] (wX1 ad c9 p_start p_end p_kind p_value p_error p_errorAt p_t_count p_t_cells p_d_time p_d_tolerance p_d_seed p_d_madeTickets p_d_cheesesOfText p_d_R_rows p_d_R_cells p_d_U_rows p_d_U_cells p_d_S_rows p_d_S_cells p_d_T_rows p_d_T_cells p_d_E_rows p_d_E_cells) [] 0 0 o.1 (wX1 ad c9 o.2.1 o.2.2.1 o.2.2.2.1 o.2.2.2.2.1 o.2.2.2.2.2.1 o.2.2.2.2.2.2 p_t_count p_t_cells p_d_time p_d_tolerance p_d_seed p_d_madeTickets p_d_cheesesOfText p_d_R_rows p_d_R_cells p_d_U_rows p_d_U_cells p_d_S_rows p_d_S_cells p_d_T_rows p_d_T_cells p_d_E_rows p_d_E_cells) := by
  refine mI_of hG (cc := cX1_knownName) (maxL := 4) (ty := .int) (by decide) rfl (Nat.le_of_ble_eq_true rfl) ?_
  intro p e s m args below meth c A X
  have X : vX p s m args meth c cX1_knownName 4 (some .int) RX1 wsX1_knownName D (tyA c9) G A := X
  refine v_eq (lv2 := [(0, .ref (ad 0)), (1, .ref (ad 4)), (2, .int v2)]) rfl rfl rfl rfl ?_
  rw [f_X1_knownName_realms] at hf
  refine v_aload_n X dX1_knownName_0 1 rfl rfl 1 rfl ?_
  refine v_iload_n X dX1_knownName_1 2 rfl rfl 2 rfl ?_
  refine v_aload_n X dX1_knownName_2 0 rfl rfl 3 rfl ?_
  refine v_get X (C := RX1) (T := TX1) (N := 8) (ci := 1) (v := _) dX1_knownName_3 k_X1_knownName_realms_w1 0 rfl rfl 5 (by decide) k_X1_knownName_realms_1 rfl rfl 6 rfl ?_
  obtain ⟨o1, ho1, hf⟩ := bnd hf
  refine v_callUi X (ci := 2) (T := TX2) (C := RX2) (owner := "TicketGate$Table") (As := [.int v2, .int p_value]) (rest := []) (ws' := (wX1 ad c9 p_start p_end p_kind p_value p_error p_errorAt p_t_count p_t_cells p_d_time p_d_tolerance p_d_seed p_d_madeTickets p_d_cheesesOfText p_d_R_rows p_d_R_cells p_d_U_rows p_d_U_cells p_d_S_rows p_d_S_cells p_d_T_rows p_d_T_cells p_d_E_rows p_d_E_cells)) (c_X6_rowWith l hG D c9 (fun k => ad ([4, 5].getD k 0)) 25 2 RX2 rfl kt_rowWith_X2 kt_get_X2 gX6_rowWith_X6_get_u31X2 5 5 p_d_R_rows p_d_R_cells v2 p_value ho1) 2 gX1_knownName_X6_rowWith_u247X2 rfl rfl rfl rfl pd_X6_rowWith_UX1_knownName_247 ⟨Nat.le_of_ble_eq_true rfl, Nat.le_of_ble_eq_true rfl⟩ 4 rfl rfl rfl rfl (Nat.le_of_ble_eq_true rfl) ⟨Nat.zero_le _, Nat.zero_le _⟩ [4, 5] [0, 1, 2, 3, 6, 7, 8, 9, 10, 11, 12, 13] [0, 1, 2, 3, 12, 13, 4, 5, 6, 7, 8, 9, 10, 11] rfl rfl rfl rfl dX1_knownName_6 9 rfl ?_
  refine v_istore_n X (lv' := [(3, .int o1), (0, .ref (ad 0)), (1, .ref (ad 4)), (2, .int v2)]) dX1_knownName_9 rfl (by decide) rfl 10 rfl ?_
  refine v_aload_n X dX1_knownName_10 1 rfl rfl 11 rfl ?_
  refine v_aload_n X dX1_knownName_11 1 rfl rfl 12 rfl ?_
  refine v_get X (C := RX1) (T := TX1) (N := 8) (ci := 1) (v := _) dX1_knownName_12 k_X1_knownName_realms_w1 0 rfl rfl 4 (by decide) k_X1_knownName_realms_2 rfl rfl 15 rfl ?_
  refine v_iconst X dX1_knownName_15 ic_1 16 rfl ?_
  obtain ⟨j2, hj2, hf⟩ := bnd hf
  have Jj2 : vW p l e { frames := 3, cells := 0, slots := 0, locals := 86 } s m args below meth c 4 D A [] 0 0 (MQ below (eI D (tyA c9) A o.1 ((wX1 ad c9 o.2.1 o.2.2.1 o.2.2.2.1 o.2.2.2.2.1 o.2.2.2.2.2.1 o.2.2.2.2.2.2 p_t_count p_t_cells p_d_time p_d_tolerance p_d_seed p_d_madeTickets p_d_cheesesOfText p_d_R_rows p_d_R_cells p_d_U_rows p_d_U_cells p_d_S_rows p_d_S_cells p_d_T_rows p_d_T_cells p_d_E_rows p_d_E_cells) ++ [])) args s 0 0 A) (wX1 ad c9 p_start p_end p_kind p_value p_error p_errorAt p_t_count p_t_cells p_d_time p_d_tolerance p_d_seed p_d_madeTickets p_d_cheesesOfText p_d_R_rows p_d_R_cells p_d_U_rows p_d_U_cells p_d_S_rows p_d_S_cells p_d_T_rows p_d_T_cells p_d_E_rows p_d_E_cells) 24 [(0, .ref (ad 0)), (3, .int o1)] [.int j2, .ref (ad 0)] := by
    refine v_iconst X dX1_knownName_24 ic_1 25 rfl ?_
    obtain ⟨o3, ho3, hf⟩ := bnd hf
    refine v_callVv X (ci := 1) (T := TX1) (C := RX1) (As := [.int j2, .int 1]) (rest := []) (ws' := (wX1 ad c9 p_start p_end p_kind p_value o3.1 o3.2 p_t_count p_t_cells p_d_time p_d_tolerance p_d_seed p_d_madeTickets p_d_cheesesOfText p_d_R_rows p_d_R_cells p_d_U_rows p_d_U_cells p_d_S_rows p_d_S_cells p_d_T_rows p_d_T_cells p_d_E_rows p_d_E_cells)) (c_X1_require l hG D c9 ad p_start p_end p_kind p_value p_error p_errorAt p_t_count p_t_cells p_d_time p_d_tolerance p_d_seed p_d_madeTickets p_d_cheesesOfText p_d_R_rows p_d_R_cells p_d_U_rows p_d_U_cells p_d_S_rows p_d_S_cells p_d_T_rows p_d_T_cells p_d_E_rows p_d_E_cells j2 1 ho3) 2 gX1_knownName_X1_require rfl rfl rfl ⟨rfl, pd_X1_require⟩ ⟨Nat.le_of_ble_eq_true rfl, Nat.le_of_ble_eq_true rfl⟩ 0 rfl rfl rfl rfl (Nat.le_of_ble_eq_true rfl) ⟨Nat.zero_le _, Nat.zero_le _⟩ [0, 1, 2, 3, 4, 5, 6, 7, 8, 9, 10, 11, 12, 13] [] [0, 1, 2, 3, 4, 5, 6, 7, 8, 9, 10, 11, 12, 13] rfl rfl rfl rfl dX1_knownName_25 28 rfl ?_
    refine v_aload_n X dX1_knownName_28 0 rfl rfl 29 rfl ?_
    refine v_iload_n X dX1_knownName_29 1 rfl rfl 30 rfl ?_
    refine v_iconst X dX1_knownName_30 ic_m1 31 rfl ?_
    obtain ⟨j4, hj4, hf⟩ := bnd hf
    have Jj4 : vW p l e { frames := 3, cells := 0, slots := 0, locals := 86 } s m args below meth c 4 D A [] 0 0 (MQ below (eI D (tyA c9) A o.1 ((wX1 ad c9 o.2.1 o.2.2.1 o.2.2.2.1 o.2.2.2.2.1 o.2.2.2.2.2.1 o.2.2.2.2.2.2 p_t_count p_t_cells p_d_time p_d_tolerance p_d_seed p_d_madeTickets p_d_cheesesOfText p_d_R_rows p_d_R_cells p_d_U_rows p_d_U_cells p_d_S_rows p_d_S_cells p_d_T_rows p_d_T_cells p_d_E_rows p_d_E_cells) ++ [])) args s 0 0 A) (wX1 ad c9 p_start p_end p_kind p_value o3.1 o3.2 p_t_count p_t_cells p_d_time p_d_tolerance p_d_seed p_d_madeTickets p_d_cheesesOfText p_d_R_rows p_d_R_cells p_d_U_rows p_d_U_cells p_d_S_rows p_d_S_cells p_d_T_rows p_d_T_cells p_d_E_rows p_d_E_cells) 39 [(0, .ref (ad 0)), (3, .int o1)] [.int j4, .ref (ad 0)] := by
      refine v_iconst X dX1_knownName_39 ic_4 40 rfl ?_
      obtain ⟨o5, ho5, hf⟩ := bnd hf
      refine v_callVv X (ci := 1) (T := TX1) (C := RX1) (As := [.int j4, .int 4]) (rest := []) (ws' := (wX1 ad c9 p_start p_end p_kind p_value o5.1 o5.2 p_t_count p_t_cells p_d_time p_d_tolerance p_d_seed p_d_madeTickets p_d_cheesesOfText p_d_R_rows p_d_R_cells p_d_U_rows p_d_U_cells p_d_S_rows p_d_S_cells p_d_T_rows p_d_T_cells p_d_E_rows p_d_E_cells)) (c_X1_require l hG D c9 ad p_start p_end p_kind p_value o3.1 o3.2 p_t_count p_t_cells p_d_time p_d_tolerance p_d_seed p_d_madeTickets p_d_cheesesOfText p_d_R_rows p_d_R_cells p_d_U_rows p_d_U_cells p_d_S_rows p_d_S_cells p_d_T_rows p_d_T_cells p_d_E_rows p_d_E_cells j4 4 ho5) 2 gX1_knownName_X1_require rfl rfl rfl ⟨rfl, pd_X1_require⟩ ⟨Nat.le_of_ble_eq_true rfl, Nat.le_of_ble_eq_true rfl⟩ 0 rfl rfl rfl rfl (Nat.le_of_ble_eq_true rfl) ⟨Nat.zero_le _, Nat.zero_le _⟩ [0, 1, 2, 3, 4, 5, 6, 7, 8, 9, 10, 11, 12, 13] [] [0, 1, 2, 3, 4, 5, 6, 7, 8, 9, 10, 11, 12, 13] rfl rfl rfl rfl dX1_knownName_40 43 rfl ?_
      refine v_aload_n X dX1_knownName_43 0 rfl rfl 44 rfl ?_
      obtain ⟨o6, ho6, hf⟩ := bnd hf
      refine v_callVi X (ci := 1) (T := TX1) (C := RX1) (As := []) (rest := []) (ws' := (wX1 ad c9 o6.2.1 o6.2.2.1 o6.2.2.2.1 o6.2.2.2.2 o5.1 o5.2 p_t_count p_t_cells p_d_time p_d_tolerance p_d_seed p_d_madeTickets p_d_cheesesOfText p_d_R_rows p_d_R_cells p_d_U_rows p_d_U_cells p_d_S_rows p_d_S_cells p_d_T_rows p_d_T_cells p_d_E_rows p_d_E_cells)) (c_X1_take l hG D c9 ad p_start p_end p_kind p_value o5.1 o5.2 p_t_count p_t_cells p_d_time p_d_tolerance p_d_seed p_d_madeTickets p_d_cheesesOfText p_d_R_rows p_d_R_cells p_d_U_rows p_d_U_cells p_d_S_rows p_d_S_cells p_d_T_rows p_d_T_cells p_d_E_rows p_d_E_cells ho6) 0 gX1_knownName_X1_take rfl rfl rfl ⟨rfl, pd_X1_take⟩ ⟨Nat.le_of_ble_eq_true rfl, Nat.le_of_ble_eq_true rfl⟩ 0 rfl rfl rfl rfl (Nat.le_of_ble_eq_true rfl) ⟨Nat.zero_le _, Nat.zero_le _⟩ [0, 1, 2, 3, 4, 5, 6, 7, 8, 9, 10, 11, 12, 13] [] [0, 1, 2, 3, 4, 5, 6, 7, 8, 9, 10, 11, 12, 13] rfl rfl rfl rfl dX1_knownName_44 47 rfl ?_
      refine v_pop X dX1_knownName_47 rfl 48 rfl ?_
      refine v_iload_n X dX1_knownName_48 1 rfl rfl 49 rfl ?_
      cases hf
      exact v_iret X (Nat.zero_le _) (Nat.zero_le _) dX1_knownName_49
    clear hf
    refine v_icmp_eq X (tgt := 38) dX1_knownName_31 rfl 34 rfl hj4 (fun hf => ?_) (fun hf => ?_)
    · refine v_iconst X dX1_knownName_38 ic_0 39 rfl ?_
      cases hf
      exact Jj4
    · refine v_iconst X dX1_knownName_34 ic_1 35 rfl ?_
      refine v_goto X (tgt := 39) dX1_knownName_35 rfl ?_
      cases hf
      exact Jj4
  clear hf
  refine v_icmp_ne X (tgt := 23) dX1_knownName_16 rfl 19 rfl hj2 (fun hf => ?_) (fun hf => ?_)
  · refine v_iconst X dX1_knownName_23 ic_0 24 rfl ?_
    cases hf
    refine v_sub (lv' := [(0, .ref (ad 0)), (3, .int o1)]) [1, 0] rfl ?_
    exact Jj2
  · refine v_iconst X dX1_knownName_19 ic_1 20 rfl ?_
    refine v_goto X (tgt := 24) dX1_knownName_20 rfl ?_
    cases hf
    refine v_sub (lv' := [(0, .ref (ad 0)), (3, .int o1)]) [1, 0] rfl ?_
    exact Jj2
theorem pd_X1_knownName : yX1_knownName.cls ≠ "java/lang/invoke/MethodHandle" ∧ yX1_knownName.cls ≠ "java/lang/invoke/VarHandle" ∧ (parseMethodDescriptor yX1_knownName.desc).map (fun d => d.parameters.length) = some 2 := by decide +kernel
theorem k_X1_semicolon_w1 : ∀ w ∈ u_ws RX1 TX1 8, w ∈ wsX1_semicolon := in_r _ [46, 47, 48, 49, 50, 51, 52, 53] rfl
theorem k_X1_semicolon_1 : Cond.fieldLink RX1 43 "TicketGate$Parser" "kind" "I" ∈ wsX1_semicolon := List.mem_of_getElem? (i := 1) rfl
theorem k_X1_semicolon_2 : Cond.fieldLink RX1 151 "TicketGate$Parser" "value" "I" ∈ wsX1_semicolon := List.mem_of_getElem? (i := 2) rfl
theorem k_X1_semicolon_3 : Cond.fieldLink RX1 29 "TicketGate$Parser" "error" "I" ∈ wsX1_semicolon := List.mem_of_getElem? (i := 3) rfl
def f_X1_semicolon (p_start : Int32) (p_end : Int32) (p_kind : Int32) (p_value : Int32) (p_error : Int32) (p_errorAt : Int32) (p_t_count : Int32) (p_t_cells : Nat → Int32) (v1 : Int32) : Option (Int32 × Int32 × Int32 × Int32 × Int32 × Int32 × Int32) :=
  Option.bind (if p_kind = 3 then (
    if p_value = 59 then (
      some (1))
    else (
      some (0)))
  else (
    some (0)) : Option (Int32)) fun j1 =>
  (f_X1_require p_start p_error p_errorAt j1 1).bind fun o2 =>
  (f_X1_require p_start o2.1 o2.2 v1 6).bind fun o3 =>
  (f_X1_take p_start p_end p_kind p_value o3.1 p_t_count p_t_cells).bind fun o4 =>
  if o3.1 = 0 then (
    some (1, o4.2.1, o4.2.2.1, o4.2.2.2.1, o4.2.2.2.2, o3.1, o3.2))
  else (
    some (0, o4.2.1, o4.2.2.1, o4.2.2.2.1, o4.2.2.2.2, o3.1, o3.2))
set_option maxRecDepth 100000 in
set_option maxHeartbeats 4000000 in
theorem c_X1_semicolon (l : Launch) {G : (Nat → Prop) → State → Heap → Prop} (hG : vG G) (D : va_G) (c9 : Nat → ClassId) (ad : Nat → Nat) (p_start : Int32) (p_end : Int32) (p_kind : Int32) (p_value : Int32) (p_error : Int32) (p_errorAt : Int32) (p_t_count : Int32) (p_t_cells : Nat → Int32) (p_d_time : Int32) (p_d_tolerance : Int32) (p_d_seed : Int32) (p_d_madeTickets : Int32) (p_d_cheesesOfText : Int32) (p_d_R_rows : Int32) (p_d_R_cells : Nat → Int32) (p_d_U_rows : Int32) (p_d_U_cells : Nat → Int32) (p_d_S_rows : Int32) (p_d_S_cells : Nat → Int32) (p_d_T_rows : Int32) (p_d_T_cells : Nat → Int32) (p_d_E_rows : Int32) (p_d_E_cells : Nat → Int32) (v1 : Int32) {o : Int32 × Int32 × Int32 × Int32 × Int32 × Int32 × Int32} (hf : f_X1_semicolon p_start p_end p_kind p_value p_error p_errorAt p_t_count p_t_cells v1 = some o) : mI l yX1_semicolon wsX1_semicolon { frames := 3, cells := 0, slots := 0, locals := 86 } G D (tyA c9) [.ref (ad 0), .int v1] (wX1 ad c9 p_start p_end p_kind p_value p_error p_errorAt p_t_count p_t_cells p_d_time p_d_tolerance p_d_seed p_d_madeTickets p_d_cheesesOfText p_d_R_rows p_d_R_cells p_d_U_rows p_d_U_cells p_d_S_rows p_d_S_cells p_d_T_rows p_d_T_cells p_d_E_rows p_d_E_cells) [] 0 0 o.1 (wX1 ad c9 o.2.1 o.2.2.1 o.2.2.2.1 o.2.2.2.2.1 o.2.2.2.2.2.1 o.2.2.2.2.2.2 p_t_count p_t_cells p_d_time p_d_tolerance p_d_seed p_d_madeTickets p_d_cheesesOfText p_d_R_rows p_d_R_cells p_d_U_rows p_d_U_cells p_d_S_rows p_d_S_cells p_d_T_rows p_d_T_cells p_d_E_rows p_d_E_cells) := by
  refine mI_of hG (cc := cX1_semicolon) (maxL := 2) (ty := .boolean) (by decide) rfl (Nat.le_of_ble_eq_true rfl) ?_
  intro p e s m args below meth c A X
  have X : vX p s m args meth c cX1_semicolon 2 (some .boolean) RX1 wsX1_semicolon D (tyA c9) G A := X
  refine v_eq (lv2 := [(0, .ref (ad 0)), (1, .int v1)]) rfl rfl rfl rfl ?_
  rw [f_X1_semicolon] at hf
  refine v_aload_n X dX1_semicolon_0 0 rfl rfl 1 rfl ?_
  refine v_aload_n X dX1_semicolon_1 0 rfl rfl 2 rfl ?_
  refine v_get X (C := RX1) (T := TX1) (N := 8) (ci := 1) (v := _) dX1_semicolon_2 k_X1_semicolon_w1 0 rfl rfl 4 (by decide) k_X1_semicolon_1 rfl rfl 5 rfl ?_
  refine v_iconst X dX1_semicolon_5 ic_3 6 rfl ?_
  obtain ⟨j1, hj1, hf⟩ := bnd hf
  have Jj1 : vW p l e { frames := 3, cells := 0, slots := 0, locals := 86 } s m args below meth c 2 D A [] 0 0 (MQ below (eI D (tyA c9) A o.1 ((wX1 ad c9 o.2.1 o.2.2.1 o.2.2.2.1 o.2.2.2.2.1 o.2.2.2.2.2.1 o.2.2.2.2.2.2 p_t_count p_t_cells p_d_time p_d_tolerance p_d_seed p_d_madeTickets p_d_cheesesOfText p_d_R_rows p_d_R_cells p_d_U_rows p_d_U_cells p_d_S_rows p_d_S_cells p_d_T_rows p_d_T_cells p_d_E_rows p_d_E_cells) ++ [])) args s 0 0 A) (wX1 ad c9 p_start p_end p_kind p_value p_error p_errorAt p_t_count p_t_cells p_d_time p_d_tolerance p_d_seed p_d_madeTickets p_d_cheesesOfText p_d_R_rows p_d_R_cells p_d_U_rows p_d_U_cells p_d_S_rows p_d_S_cells p_d_T_rows p_d_T_cells p_d_E_rows p_d_E_cells) 23 [(0, .ref (ad 0)), (1, .int v1)] [.int j1, .ref (ad 0)] := by
    refine v_iconst X dX1_semicolon_23 ic_1 24 rfl ?_
    obtain ⟨o2, ho2, hf⟩ := bnd hf
    refine v_callVv X (ci := 1) (T := TX1) (C := RX1) (As := [.int j1, .int 1]) (rest := []) (ws' := (wX1 ad c9 p_start p_end p_kind p_value o2.1 o2.2 p_t_count p_t_cells p_d_time p_d_tolerance p_d_seed p_d_madeTickets p_d_cheesesOfText p_d_R_rows p_d_R_cells p_d_U_rows p_d_U_cells p_d_S_rows p_d_S_cells p_d_T_rows p_d_T_cells p_d_E_rows p_d_E_cells)) (c_X1_require l hG D c9 ad p_start p_end p_kind p_value p_error p_errorAt p_t_count p_t_cells p_d_time p_d_tolerance p_d_seed p_d_madeTickets p_d_cheesesOfText p_d_R_rows p_d_R_cells p_d_U_rows p_d_U_cells p_d_S_rows p_d_S_cells p_d_T_rows p_d_T_cells p_d_E_rows p_d_E_cells j1 1 ho2) 2 gX1_semicolon_X1_require rfl rfl rfl ⟨rfl, pd_X1_require⟩ ⟨Nat.le_of_ble_eq_true rfl, Nat.le_of_ble_eq_true rfl⟩ 0 rfl rfl rfl rfl (Nat.le_of_ble_eq_true rfl) ⟨Nat.zero_le _, Nat.zero_le _⟩ [0, 1, 2, 3, 4, 5, 6, 7, 8, 9, 10, 11, 12, 13] [] [0, 1, 2, 3, 4, 5, 6, 7, 8, 9, 10, 11, 12, 13] rfl rfl rfl rfl dX1_semicolon_24 27 rfl ?_
    refine v_aload_n X dX1_semicolon_27 0 rfl rfl 28 rfl ?_
    refine v_iload_n X dX1_semicolon_28 1 rfl rfl 29 rfl ?_
    refine v_bipush X dX1_semicolon_29 bp_6 31 rfl ?_
    obtain ⟨o3, ho3, hf⟩ := bnd hf
    refine v_callVv X (ci := 1) (T := TX1) (C := RX1) (As := [.int v1, .int 6]) (rest := []) (ws' := (wX1 ad c9 p_start p_end p_kind p_value o3.1 o3.2 p_t_count p_t_cells p_d_time p_d_tolerance p_d_seed p_d_madeTickets p_d_cheesesOfText p_d_R_rows p_d_R_cells p_d_U_rows p_d_U_cells p_d_S_rows p_d_S_cells p_d_T_rows p_d_T_cells p_d_E_rows p_d_E_cells)) (c_X1_require l hG D c9 ad p_start p_end p_kind p_value o2.1 o2.2 p_t_count p_t_cells p_d_time p_d_tolerance p_d_seed p_d_madeTickets p_d_cheesesOfText p_d_R_rows p_d_R_cells p_d_U_rows p_d_U_cells p_d_S_rows p_d_S_cells p_d_T_rows p_d_T_cells p_d_E_rows p_d_E_cells v1 6 ho3) 2 gX1_semicolon_X1_require rfl rfl rfl ⟨rfl, pd_X1_require⟩ ⟨Nat.le_of_ble_eq_true rfl, Nat.le_of_ble_eq_true rfl⟩ 0 rfl rfl rfl rfl (Nat.le_of_ble_eq_true rfl) ⟨Nat.zero_le _, Nat.zero_le _⟩ [0, 1, 2, 3, 4, 5, 6, 7, 8, 9, 10, 11, 12, 13] [] [0, 1, 2, 3, 4, 5, 6, 7, 8, 9, 10, 11, 12, 13] rfl rfl rfl rfl dX1_semicolon_31 34 rfl ?_
    refine v_aload_n X dX1_semicolon_34 0 rfl rfl 35 rfl ?_
    obtain ⟨o4, ho4, hf⟩ := bnd hf
    refine v_callVi X (ci := 1) (T := TX1) (C := RX1) (As := []) (rest := []) (ws' := (wX1 ad c9 o4.2.1 o4.2.2.1 o4.2.2.2.1 o4.2.2.2.2 o3.1 o3.2 p_t_count p_t_cells p_d_time p_d_tolerance p_d_seed p_d_madeTickets p_d_cheesesOfText p_d_R_rows p_d_R_cells p_d_U_rows p_d_U_cells p_d_S_rows p_d_S_cells p_d_T_rows p_d_T_cells p_d_E_rows p_d_E_cells)) (c_X1_take l hG D c9 ad p_start p_end p_kind p_value o3.1 o3.2 p_t_count p_t_cells p_d_time p_d_tolerance p_d_seed p_d_madeTickets p_d_cheesesOfText p_d_R_rows p_d_R_cells p_d_U_rows p_d_U_cells p_d_S_rows p_d_S_cells p_d_T_rows p_d_T_cells p_d_E_rows p_d_E_cells ho4) 0 gX1_semicolon_X1_take rfl rfl rfl ⟨rfl, pd_X1_take⟩ ⟨Nat.le_of_ble_eq_true rfl, Nat.le_of_ble_eq_true rfl⟩ 0 rfl rfl rfl rfl (Nat.le_of_ble_eq_true rfl) ⟨Nat.zero_le _, Nat.zero_le _⟩ [0, 1, 2, 3, 4, 5, 6, 7, 8, 9, 10, 11, 12, 13] [] [0, 1, 2, 3, 4, 5, 6, 7, 8, 9, 10, 11, 12, 13] rfl rfl rfl rfl dX1_semicolon_35 38 rfl ?_
    refine v_pop X dX1_semicolon_38 rfl 39 rfl ?_
    refine v_aload_n X dX1_semicolon_39 0 rfl rfl 40 rfl ?_
    refine v_get X (C := RX1) (T := TX1) (N := 8) (ci := 1) (v := _) dX1_semicolon_40 k_X1_semicolon_w1 0 rfl rfl 6 (by decide) k_X1_semicolon_3 rfl rfl 43 rfl ?_
    refine v_if_ne X (tgt := 50) dX1_semicolon_43 rfl 46 rfl hf (fun hf => ?_) (fun hf => ?_)
    · refine v_iconst X dX1_semicolon_50 ic_0 51 rfl ?_
      cases hf
      exact v_zret X (Nat.zero_le _) (Nat.zero_le _) rfl dX1_semicolon_51
    · refine v_iconst X dX1_semicolon_46 ic_1 47 rfl ?_
      refine v_goto X (tgt := 51) dX1_semicolon_47 rfl ?_
      cases hf
      exact v_zret X (Nat.zero_le _) (Nat.zero_le _) rfl dX1_semicolon_51
  clear hf
  refine v_icmp_ne X (tgt := 22) dX1_semicolon_6 rfl 9 rfl hj1 (fun hf => ?_) (fun hf => ?_)
  · refine v_iconst X dX1_semicolon_22 ic_0 23 rfl ?_
    cases hf
    exact Jj1
  · refine v_aload_n X dX1_semicolon_9 0 rfl rfl 10 rfl ?_
    refine v_get X (C := RX1) (T := TX1) (N := 8) (ci := 1) (v := _) dX1_semicolon_10 k_X1_semicolon_w1 0 rfl rfl 5 (by decide) k_X1_semicolon_2 rfl rfl 13 rfl ?_
    refine v_bipush X dX1_semicolon_13 bp_59 15 rfl ?_
    refine v_icmp_ne X (tgt := 22) dX1_semicolon_15 rfl 18 rfl hf (fun hf => ?_) (fun hf => ?_)
    · refine v_iconst X dX1_semicolon_22 ic_0 23 rfl ?_
      cases hf
      exact Jj1
    · refine v_iconst X dX1_semicolon_18 ic_1 19 rfl ?_
      refine v_goto X (tgt := 23) dX1_semicolon_19 rfl ?_
      cases hf
      exact Jj1
theorem pd_X1_semicolon : yX1_semicolon.cls ≠ "java/lang/invoke/MethodHandle" ∧ yX1_semicolon.cls ≠ "java/lang/invoke/VarHandle" ∧ (parseMethodDescriptor yX1_semicolon.desc).map (fun d => d.parameters.length) = some 1 := by decide +kernel
theorem k_X1_readTrust_w1 : ∀ w ∈ u_ws RX1 TX1 8, w ∈ wsX1_readTrust := in_r _ [99, 100, 101, 102, 103, 104, 105, 106] rfl
theorem k_X1_readTrust_1 : Cond.fieldLink RX1 12 "TicketGate$Parser" "draft" "LTicketGate$State;" ∈ wsX1_readTrust := List.mem_of_getElem? (i := 1) rfl
theorem k_X1_readTrust_w5 : ∀ w ∈ u_ws RX5 TX5 10, w ∈ wsX1_readTrust := in_r _ [107, 108, 109, 110, 111, 112, 113, 114, 115, 116] rfl
theorem k_X1_readTrust_2 : Cond.fieldLink RX1 151 "TicketGate$Parser" "value" "I" ∈ wsX1_readTrust := List.mem_of_getElem? (i := 2) rfl
theorem pd_X6_rowWith_UX1_readTrust_154 : "TicketGate$Table" ≠ "java/lang/invoke/MethodHandle" ∧ "TicketGate$Table" ≠ "java/lang/invoke/VarHandle" ∧ (parseMethodDescriptor "(II)I").map (fun d => d.parameters.length) = some 2 := by decide +kernel
theorem k_X1_readTrust_3 : Cond.fieldLink RX1 43 "TicketGate$Parser" "kind" "I" ∈ wsX1_readTrust := List.mem_of_getElem? (i := 3) rfl
def f_X1_readTrust (p_start : Int32) (p_end : Int32) (p_kind : Int32) (p_value : Int32) (p_error : Int32) (p_errorAt : Int32) (p_t_count : Int32) (p_t_cells : Nat → Int32) (p_d_R_rows : Int32) (p_d_R_cells : Nat → Int32) : Option (Int32 × Int32 × Int32 × Int32 × Int32 × Int32 × (Nat → Int32)) :=
  (f_X1_take p_start p_end p_kind p_value p_error p_t_count p_t_cells).bind fun o1 =>
  (f_X1_knownName_realms o1.2.1 o1.2.2.1 o1.2.2.2.1 o1.2.2.2.2 p_error p_errorAt p_t_count p_t_cells p_d_R_rows p_d_R_cells 0).bind fun o2 =>
  (f_X6_rowWith 25 5 p_d_R_rows p_d_R_cells 0 o2.2.2.2.2.1).bind fun o3 =>
  Option.bind (if o2.2.2.2.1 = 1 then (
    some (1))
  else (
    some (0)) : Option (Int32)) fun j4 =>
  (f_X1_require o2.2.1 o2.2.2.2.2.2.1 o2.2.2.2.2.2.2 j4 1).bind fun o5 =>
  Option.bind (if o3 = o2.1 then (
    some (0))
  else (
    some (1)) : Option (Int32)) fun j6 =>
  (f_X1_require o2.2.1 o5.1 o5.2 j6 3).bind fun o7 =>
  Option.bind (if o3 = (-1) then (
    some (0))
  else (
    some (1)) : Option (Int32)) fun j8 =>
  (f_X1_require o2.2.1 o7.1 o7.2 j8 4).bind fun o9 =>
  (f_X1_take o2.2.1 o2.2.2.1 o2.2.2.2.1 o2.2.2.2.2.1 o9.1 p_t_count p_t_cells).bind fun o10 =>
  (f_X2_hasTrust p_d_R_rows p_d_R_cells o2.1 o3).bind fun o11 =>
  Option.bind (if o11 = 0 then (
    some (1))
  else (
    some (0)) : Option (Int32)) fun j12 =>
  (f_X1_semicolon o10.2.1 o10.2.2.1 o10.2.2.2.1 o10.2.2.2.2 o9.1 o9.2 p_t_count p_t_cells j12).bind fun o13 =>
  if o13.1 = 0 then (
    some (o13.2.1, o13.2.2.1, o13.2.2.2.1, o13.2.2.2.2.1, o13.2.2.2.2.2.1, o13.2.2.2.2.2.2, p_d_R_cells))
  else (
    (f_X2_addTrust p_d_R_rows p_d_R_cells o2.1 o3).bind fun o14 =>
    some (o13.2.1, o13.2.2.1, o13.2.2.2.1, o13.2.2.2.2.1, o13.2.2.2.2.2.1, o13.2.2.2.2.2.2, o14))
set_option maxRecDepth 100000 in
set_option maxHeartbeats 4000000 in
theorem c_X1_readTrust (l : Launch) {G : (Nat → Prop) → State → Heap → Prop} (hG : vG G) (D : va_G) (c9 : Nat → ClassId) (ad : Nat → Nat) (p_start : Int32) (p_end : Int32) (p_kind : Int32) (p_value : Int32) (p_error : Int32) (p_errorAt : Int32) (p_t_count : Int32) (p_t_cells : Nat → Int32) (p_d_time : Int32) (p_d_tolerance : Int32) (p_d_seed : Int32) (p_d_madeTickets : Int32) (p_d_cheesesOfText : Int32) (p_d_R_rows : Int32) (p_d_R_cells : Nat → Int32) (p_d_U_rows : Int32) (p_d_U_cells : Nat → Int32) (p_d_S_rows : Int32) (p_d_S_cells : Nat → Int32) (p_d_T_rows : Int32) (p_d_T_cells : Nat → Int32) (p_d_E_rows : Int32) (p_d_E_cells : Nat → Int32)  {o : Int32 × Int32 × Int32 × Int32 × Int32 × Int32 × (Nat → Int32)} (hf : f_X1_readTrust p_start p_end p_kind p_value p_error p_errorAt p_t_count p_t_cells p_d_R_rows p_d_R_cells = some o) : mV l yX1_readTrust wsX1_readTrust { frames := 4, cells := 0, slots := 0, locals := 109 } G D (tyA c9) [.ref (ad 0)] (wX1 ad c9 p_start p_end p_kind p_value p_error p_errorAt p_t_count p_t_cells p_d_time p_d_tolerance p_d_seed p_d_madeTickets p_d_cheesesOfText p_d_R_rows p_d_R_cells p_d_U_rows p_d_U_cells p_d_S_rows p_d_S_cells p_d_T_rows p_d_T_cells p_d_E_rows p_d_E_cells) [] 0 0 (wX1 ad c9 o.1 o.2.1 o.2.2.1 o.2.2.2.1 o.2.2.2.2.1 o.2.2.2.2.2.1 p_t_count p_t_cells p_d_time p_d_tolerance p_d_seed p_d_madeTickets p_d_cheesesOfText p_d_R_rows o.2.2.2.2.2.2 p_d_U_rows p_d_U_cells p_d_S_rows p_d_S_cells p_d_T_rows p_d_T_cells p_d_E_rows p_d_E_cells) := by
  refine mV_of hG (cc := cX1_readTrust) (maxL := 3) (by decide) rfl (Nat.le_of_ble_eq_true rfl) ?_
  intro p e s m args below meth c A hnm X
  have X : vX p s m args meth c cX1_readTrust 3 none RX1 wsX1_readTrust D (tyA c9) G A := X
  refine v_eq (lv2 := [(0, .ref (ad 0))]) rfl rfl rfl rfl ?_
  rw [f_X1_readTrust] at hf
  refine v_aload_n X dX1_readTrust_0 0 rfl rfl 1 rfl ?_
  obtain ⟨o1, ho1, hf⟩ := bnd hf
  refine v_callVi X (ci := 1) (T := TX1) (C := RX1) (As := []) (rest := []) (ws' := (wX1 ad c9 o1.2.1 o1.2.2.1 o1.2.2.2.1 o1.2.2.2.2 p_error p_errorAt p_t_count p_t_cells p_d_time p_d_tolerance p_d_seed p_d_madeTickets p_d_cheesesOfText p_d_R_rows p_d_R_cells p_d_U_rows p_d_U_cells p_d_S_rows p_d_S_cells p_d_T_rows p_d_T_cells p_d_E_rows p_d_E_cells)) (c_X1_take l hG D c9 ad p_start p_end p_kind p_value p_error p_errorAt p_t_count p_t_cells p_d_time p_d_tolerance p_d_seed p_d_madeTickets p_d_cheesesOfText p_d_R_rows p_d_R_cells p_d_U_rows p_d_U_cells p_d_S_rows p_d_S_cells p_d_T_rows p_d_T_cells p_d_E_rows p_d_E_cells ho1) 0 gX1_readTrust_X1_take rfl rfl rfl ⟨rfl, pd_X1_take⟩ ⟨Nat.le_of_ble_eq_true rfl, Nat.le_of_ble_eq_true rfl⟩ 0 rfl rfl rfl rfl (Nat.le_of_ble_eq_true rfl) ⟨Nat.zero_le _, Nat.zero_le _⟩ [0, 1, 2, 3, 4, 5, 6, 7, 8, 9, 10, 11, 12, 13] [] [0, 1, 2, 3, 4, 5, 6, 7, 8, 9, 10, 11, 12, 13] rfl rfl rfl rfl dX1_readTrust_1 4 rfl ?_
  refine v_pop X dX1_readTrust_4 rfl 5 rfl ?_
  refine v_aload_n X dX1_readTrust_5 0 rfl rfl 6 rfl ?_
  refine v_aload_n X dX1_readTrust_6 0 rfl rfl 7 rfl ?_
  refine v_get X (C := RX1) (T := TX1) (N := 8) (ci := 1) (v := _) dX1_readTrust_7 k_X1_readTrust_w1 0 rfl rfl 1 (by decide) k_X1_readTrust_1 rfl rfl 10 rfl ?_
  refine v_getN X (C := RX5) (T := TX5) (N := 10) (ci := 5) (v := _) dX1_readTrust_10 k_X1_readTrust_w5 3 rfl rfl 0 (by decide) nest_RX1_127 rfl rfl 13 rfl ?_
  refine v_iconst X dX1_readTrust_13 ic_0 14 rfl ?_
  obtain ⟨o2, ho2, hf⟩ := bnd hf
  refine v_callVi X (ci := 1) (T := TX1) (C := RX1) (As := [.ref (ad 4), .int 0]) (rest := []) (ws' := (wX1 ad c9 o2.2.1 o2.2.2.1 o2.2.2.2.1 o2.2.2.2.2.1 o2.2.2.2.2.2.1 o2.2.2.2.2.2.2 p_t_count p_t_cells p_d_time p_d_tolerance p_d_seed p_d_madeTickets p_d_cheesesOfText p_d_R_rows p_d_R_cells p_d_U_rows p_d_U_cells p_d_S_rows p_d_S_cells p_d_T_rows p_d_T_cells p_d_E_rows p_d_E_cells)) (c_X1_knownName_realms l hG D c9 ad o1.2.1 o1.2.2.1 o1.2.2.2.1 o1.2.2.2.2 p_error p_errorAt p_t_count p_t_cells p_d_time p_d_tolerance p_d_seed p_d_madeTickets p_d_cheesesOfText p_d_R_rows p_d_R_cells p_d_U_rows p_d_U_cells p_d_S_rows p_d_S_cells p_d_T_rows p_d_T_cells p_d_E_rows p_d_E_cells 0 ho2) 2 gX1_readTrust_X1_knownName rfl rfl rfl ⟨rfl, pd_X1_knownName⟩ ⟨Nat.le_of_ble_eq_true rfl, Nat.le_of_ble_eq_true rfl⟩ 0 rfl rfl rfl rfl (Nat.le_of_ble_eq_true rfl) ⟨Nat.zero_le _, Nat.zero_le _⟩ [0, 1, 2, 3, 4, 5, 6, 7, 8, 9, 10, 11, 12, 13] [] [0, 1, 2, 3, 4, 5, 6, 7, 8, 9, 10, 11, 12, 13] rfl rfl rfl rfl dX1_readTrust_14 17 rfl ?_
  refine v_istore_n X (lv' := [(1, .int o2.1), (0, .ref (ad 0))]) dX1_readTrust_17 rfl (by decide) rfl 18 rfl ?_
  refine v_aload_n X dX1_readTrust_18 1 rfl rfl 19 rfl ?_
  refine v_get X (C := RX1) (T := TX1) (N := 8) (ci := 1) (v := _) dX1_readTrust_19 k_X1_readTrust_w1 0 rfl rfl 1 (by decide) k_X1_readTrust_1 rfl rfl 22 rfl ?_
  refine v_getN X (C := RX5) (T := TX5) (N := 10) (ci := 5) (v := _) dX1_readTrust_22 k_X1_readTrust_w5 3 rfl rfl 0 (by decide) nest_RX1_127 rfl rfl 25 rfl ?_
  refine v_iconst X dX1_readTrust_25 ic_0 26 rfl ?_
  refine v_aload_n X dX1_readTrust_26 1 rfl rfl 27 rfl ?_
  refine v_get X (C := RX1) (T := TX1) (N := 8) (ci := 1) (v := _) dX1_readTrust_27 k_X1_readTrust_w1 0 rfl rfl 5 (by decide) k_X1_readTrust_2 rfl rfl 30 rfl ?_
  obtain ⟨o3, ho3, hf⟩ := bnd hf
  refine v_callUi X (ci := 2) (T := TX2) (C := RX2) (owner := "TicketGate$Table") (As := [.int 0, .int o2.2.2.2.2.1]) (rest := []) (ws' := (wX1 ad c9 o2.2.1 o2.2.2.1 o2.2.2.2.1 o2.2.2.2.2.1 o2.2.2.2.2.2.1 o2.2.2.2.2.2.2 p_t_count p_t_cells p_d_time p_d_tolerance p_d_seed p_d_madeTickets p_d_cheesesOfText p_d_R_rows p_d_R_cells p_d_U_rows p_d_U_cells p_d_S_rows p_d_S_cells p_d_T_rows p_d_T_cells p_d_E_rows p_d_E_cells)) (c_X6_rowWith l hG D c9 (fun k => ad ([4, 5].getD k 0)) 25 2 RX2 rfl kt_rowWith_X2 kt_get_X2 gX6_rowWith_X6_get_u31X2 5 5 p_d_R_rows p_d_R_cells 0 o2.2.2.2.2.1 ho3) 2 gX1_readTrust_X6_rowWith_u154X2 rfl rfl rfl rfl pd_X6_rowWith_UX1_readTrust_154 ⟨Nat.le_of_ble_eq_true rfl, Nat.le_of_ble_eq_true rfl⟩ 4 rfl rfl rfl rfl (Nat.le_of_ble_eq_true rfl) ⟨Nat.zero_le _, Nat.zero_le _⟩ [4, 5] [0, 1, 2, 3, 6, 7, 8, 9, 10, 11, 12, 13] [0, 1, 2, 3, 12, 13, 4, 5, 6, 7, 8, 9, 10, 11] rfl rfl rfl rfl dX1_readTrust_30 33 rfl ?_
  refine v_istore_n X (lv' := [(2, .int o3), (1, .int o2.1), (0, .ref (ad 0))]) dX1_readTrust_33 rfl (by decide) rfl 34 rfl ?_
  refine v_aload_n X dX1_readTrust_34 2 rfl rfl 35 rfl ?_
  refine v_aload_n X dX1_readTrust_35 2 rfl rfl 36 rfl ?_
  refine v_get X (C := RX1) (T := TX1) (N := 8) (ci := 1) (v := _) dX1_readTrust_36 k_X1_readTrust_w1 0 rfl rfl 4 (by decide) k_X1_readTrust_3 rfl rfl 39 rfl ?_
  refine v_iconst X dX1_readTrust_39 ic_1 40 rfl ?_
  obtain ⟨j4, hj4, hf⟩ := bnd hf
  have Jj4 : vW p l e { frames := 4, cells := 0, slots := 0, locals := 109 } s m args below meth c 3 D A [] 0 0 (MQ below (eV D (tyA c9) A ((wX1 ad c9 o.1 o.2.1 o.2.2.1 o.2.2.2.1 o.2.2.2.2.1 o.2.2.2.2.2.1 p_t_count p_t_cells p_d_time p_d_tolerance p_d_seed p_d_madeTickets p_d_cheesesOfText p_d_R_rows o.2.2.2.2.2.2 p_d_U_rows p_d_U_cells p_d_S_rows p_d_S_cells p_d_T_rows p_d_T_cells p_d_E_rows p_d_E_cells) ++ [])) args s 0 0 A) (wX1 ad c9 o2.2.1 o2.2.2.1 o2.2.2.2.1 o2.2.2.2.2.1 o2.2.2.2.2.2.1 o2.2.2.2.2.2.2 p_t_count p_t_cells p_d_time p_d_tolerance p_d_seed p_d_madeTickets p_d_cheesesOfText p_d_R_rows p_d_R_cells p_d_U_rows p_d_U_cells p_d_S_rows p_d_S_cells p_d_T_rows p_d_T_cells p_d_E_rows p_d_E_cells) 48 [(0, .ref (ad 0)), (1, .int o2.1), (2, .int o3)] [.int j4, .ref (ad 0)] := by
    refine v_iconst X dX1_readTrust_48 ic_1 49 rfl ?_
    obtain ⟨o5, ho5, hf⟩ := bnd hf
    refine v_callVv X (ci := 1) (T := TX1) (C := RX1) (As := [.int j4, .int 1]) (rest := []) (ws' := (wX1 ad c9 o2.2.1 o2.2.2.1 o2.2.2.2.1 o2.2.2.2.2.1 o5.1 o5.2 p_t_count p_t_cells p_d_time p_d_tolerance p_d_seed p_d_madeTickets p_d_cheesesOfText p_d_R_rows p_d_R_cells p_d_U_rows p_d_U_cells p_d_S_rows p_d_S_cells p_d_T_rows p_d_T_cells p_d_E_rows p_d_E_cells)) (c_X1_require l hG D c9 ad o2.2.1 o2.2.2.1 o2.2.2.2.1 o2.2.2.2.2.1 o2.2.2.2.2.2.1 o2.2.2.2.2.2.2 p_t_count p_t_cells p_d_time p_d_tolerance p_d_seed p_d_madeTickets p_d_cheesesOfText p_d_R_rows p_d_R_cells p_d_U_rows p_d_U_cells p_d_S_rows p_d_S_cells p_d_T_rows p_d_T_cells p_d_E_rows p_d_E_cells j4 1 ho5) 2 gX1_readTrust_X1_require rfl rfl rfl ⟨rfl, pd_X1_require⟩ ⟨Nat.le_of_ble_eq_true rfl, Nat.le_of_ble_eq_true rfl⟩ 0 rfl rfl rfl rfl (Nat.le_of_ble_eq_true rfl) ⟨Nat.zero_le _, Nat.zero_le _⟩ [0, 1, 2, 3, 4, 5, 6, 7, 8, 9, 10, 11, 12, 13] [] [0, 1, 2, 3, 4, 5, 6, 7, 8, 9, 10, 11, 12, 13] rfl rfl rfl rfl dX1_readTrust_49 52 rfl ?_
    refine v_aload_n X dX1_readTrust_52 0 rfl rfl 53 rfl ?_
    refine v_iload_n X dX1_readTrust_53 2 rfl rfl 54 rfl ?_
    refine v_iload_n X dX1_readTrust_54 1 rfl rfl 55 rfl ?_
    obtain ⟨j6, hj6, hf⟩ := bnd hf
    have Jj6 : vW p l e { frames := 4, cells := 0, slots := 0, locals := 109 } s m args below meth c 3 D A [] 0 0 (MQ below (eV D (tyA c9) A ((wX1 ad c9 o.1 o.2.1 o.2.2.1 o.2.2.2.1 o.2.2.2.2.1 o.2.2.2.2.2.1 p_t_count p_t_cells p_d_time p_d_tolerance p_d_seed p_d_madeTickets p_d_cheesesOfText p_d_R_rows o.2.2.2.2.2.2 p_d_U_rows p_d_U_cells p_d_S_rows p_d_S_cells p_d_T_rows p_d_T_cells p_d_E_rows p_d_E_cells) ++ [])) args s 0 0 A) (wX1 ad c9 o2.2.1 o2.2.2.1 o2.2.2.2.1 o2.2.2.2.2.1 o5.1 o5.2 p_t_count p_t_cells p_d_time p_d_tolerance p_d_seed p_d_madeTickets p_d_cheesesOfText p_d_R_rows p_d_R_cells p_d_U_rows p_d_U_cells p_d_S_rows p_d_S_cells p_d_T_rows p_d_T_cells p_d_E_rows p_d_E_cells) 63 [(0, .ref (ad 0)), (1, .int o2.1), (2, .int o3)] [.int j6, .ref (ad 0)] := by
      refine v_iconst X dX1_readTrust_63 ic_3 64 rfl ?_
      obtain ⟨o7, ho7, hf⟩ := bnd hf
      refine v_callVv X (ci := 1) (T := TX1) (C := RX1) (As := [.int j6, .int 3]) (rest := []) (ws' := (wX1 ad c9 o2.2.1 o2.2.2.1 o2.2.2.2.1 o2.2.2.2.2.1 o7.1 o7.2 p_t_count p_t_cells p_d_time p_d_tolerance p_d_seed p_d_madeTickets p_d_cheesesOfText p_d_R_rows p_d_R_cells p_d_U_rows p_d_U_cells p_d_S_rows p_d_S_cells p_d_T_rows p_d_T_cells p_d_E_rows p_d_E_cells)) (c_X1_require l hG D c9 ad o2.2.1 o2.2.2.1 o2.2.2.2.1 o2.2.2.2.2.1 o5.1 o5.2 p_t_count p_t_cells p_d_time p_d_tolerance p_d_seed p_d_madeTickets p_d_cheesesOfText p_d_R_rows p_d_R_cells p_d_U_rows p_d_U_cells p_d_S_rows p_d_S_cells p_d_T_rows p_d_T_cells p_d_E_rows p_d_E_cells j6 3 ho7) 2 gX1_readTrust_X1_require rfl rfl rfl ⟨rfl, pd_X1_require⟩ ⟨Nat.le_of_ble_eq_true rfl, Nat.le_of_ble_eq_true rfl⟩ 0 rfl rfl rfl rfl (Nat.le_of_ble_eq_true rfl) ⟨Nat.zero_le _, Nat.zero_le _⟩ [0, 1, 2, 3, 4, 5, 6, 7, 8, 9, 10, 11, 12, 13] [] [0, 1, 2, 3, 4, 5, 6, 7, 8, 9, 10, 11, 12, 13] rfl rfl rfl rfl dX1_readTrust_64 67 rfl ?_
      refine v_aload_n X dX1_readTrust_67 0 rfl rfl 68 rfl ?_
      refine v_iload_n X dX1_readTrust_68 2 rfl rfl 69 rfl ?_
      refine v_iconst X dX1_readTrust_69 ic_m1 70 rfl ?_
      obtain ⟨j8, hj8, hf⟩ := bnd hf
      have Jj8 : vW p l e { frames := 4, cells := 0, slots := 0, locals := 109 } s m args below meth c 3 D A [] 0 0 (MQ below (eV D (tyA c9) A ((wX1 ad c9 o.1 o.2.1 o.2.2.1 o.2.2.2.1 o.2.2.2.2.1 o.2.2.2.2.2.1 p_t_count p_t_cells p_d_time p_d_tolerance p_d_seed p_d_madeTickets p_d_cheesesOfText p_d_R_rows o.2.2.2.2.2.2 p_d_U_rows p_d_U_cells p_d_S_rows p_d_S_cells p_d_T_rows p_d_T_cells p_d_E_rows p_d_E_cells) ++ [])) args s 0 0 A) (wX1 ad c9 o2.2.1 o2.2.2.1 o2.2.2.2.1 o2.2.2.2.2.1 o7.1 o7.2 p_t_count p_t_cells p_d_time p_d_tolerance p_d_seed p_d_madeTickets p_d_cheesesOfText p_d_R_rows p_d_R_cells p_d_U_rows p_d_U_cells p_d_S_rows p_d_S_cells p_d_T_rows p_d_T_cells p_d_E_rows p_d_E_cells) 78 [(0, .ref (ad 0)), (1, .int o2.1), (2, .int o3)] [.int j8, .ref (ad 0)] := by
        refine v_iconst X dX1_readTrust_78 ic_4 79 rfl ?_
        obtain ⟨o9, ho9, hf⟩ := bnd hf
        refine v_callVv X (ci := 1) (T := TX1) (C := RX1) (As := [.int j8, .int 4]) (rest := []) (ws' := (wX1 ad c9 o2.2.1 o2.2.2.1 o2.2.2.2.1 o2.2.2.2.2.1 o9.1 o9.2 p_t_count p_t_cells p_d_time p_d_tolerance p_d_seed p_d_madeTickets p_d_cheesesOfText p_d_R_rows p_d_R_cells p_d_U_rows p_d_U_cells p_d_S_rows p_d_S_cells p_d_T_rows p_d_T_cells p_d_E_rows p_d_E_cells)) (c_X1_require l hG D c9 ad o2.2.1 o2.2.2.1 o2.2.2.2.1 o2.2.2.2.2.1 o7.1 o7.2 p_t_count p_t_cells p_d_time p_d_tolerance p_d_seed p_d_madeTickets p_d_cheesesOfText p_d_R_rows p_d_R_cells p_d_U_rows p_d_U_cells p_d_S_rows p_d_S_cells p_d_T_rows p_d_T_cells p_d_E_rows p_d_E_cells j8 4 ho9) 2 gX1_readTrust_X1_require rfl rfl rfl ⟨rfl, pd_X1_require⟩ ⟨Nat.le_of_ble_eq_true rfl, Nat.le_of_ble_eq_true rfl⟩ 0 rfl rfl rfl rfl (Nat.le_of_ble_eq_true rfl) ⟨Nat.zero_le _, Nat.zero_le _⟩ [0, 1, 2, 3, 4, 5, 6, 7, 8, 9, 10, 11, 12, 13] [] [0, 1, 2, 3, 4, 5, 6, 7, 8, 9, 10, 11, 12, 13] rfl rfl rfl rfl dX1_readTrust_79 82 rfl ?_
        refine v_aload_n X dX1_readTrust_82 0 rfl rfl 83 rfl ?_
        obtain ⟨o10, ho10, hf⟩ := bnd hf
        refine v_callVi X (ci := 1) (T := TX1) (C := RX1) (As := []) (rest := []) (ws' := (wX1 ad c9 o10.2.1 o10.2.2.1 o10.2.2.2.1 o10.2.2.2.2 o9.1 o9.2 p_t_count p_t_cells p_d_time p_d_tolerance p_d_seed p_d_madeTickets p_d_cheesesOfText p_d_R_rows p_d_R_cells p_d_U_rows p_d_U_cells p_d_S_rows p_d_S_cells p_d_T_rows p_d_T_cells p_d_E_rows p_d_E_cells)) (c_X1_take l hG D c9 ad o2.2.1 o2.2.2.1 o2.2.2.2.1 o2.2.2.2.2.1 o9.1 o9.2 p_t_count p_t_cells p_d_time p_d_tolerance p_d_seed p_d_madeTickets p_d_cheesesOfText p_d_R_rows p_d_R_cells p_d_U_rows p_d_U_cells p_d_S_rows p_d_S_cells p_d_T_rows p_d_T_cells p_d_E_rows p_d_E_cells ho10) 0 gX1_readTrust_X1_take rfl rfl rfl ⟨rfl, pd_X1_take⟩ ⟨Nat.le_of_ble_eq_true rfl, Nat.le_of_ble_eq_true rfl⟩ 0 rfl rfl rfl rfl (Nat.le_of_ble_eq_true rfl) ⟨Nat.zero_le _, Nat.zero_le _⟩ [0, 1, 2, 3, 4, 5, 6, 7, 8, 9, 10, 11, 12, 13] [] [0, 1, 2, 3, 4, 5, 6, 7, 8, 9, 10, 11, 12, 13] rfl rfl rfl rfl dX1_readTrust_83 86 rfl ?_
        refine v_pop X dX1_readTrust_86 rfl 87 rfl ?_
        refine v_aload_n X dX1_readTrust_87 0 rfl rfl 88 rfl ?_
        refine v_aload_n X dX1_readTrust_88 0 rfl rfl 89 rfl ?_
        refine v_get X (C := RX1) (T := TX1) (N := 8) (ci := 1) (v := _) dX1_readTrust_89 k_X1_readTrust_w1 0 rfl rfl 1 (by decide) k_X1_readTrust_1 rfl rfl 92 rfl ?_
        refine v_getN X (C := RX5) (T := TX5) (N := 10) (ci := 5) (v := _) dX1_readTrust_92 k_X1_readTrust_w5 3 rfl rfl 0 (by decide) nest_RX1_127 rfl rfl 95 rfl ?_
        refine v_iload_n X dX1_readTrust_95 1 rfl rfl 96 rfl ?_
        refine v_iload_n X dX1_readTrust_96 2 rfl rfl 97 rfl ?_
        obtain ⟨o11, ho11, hf⟩ := bnd hf
        refine v_callVi X (ci := 2) (T := TX2) (C := RX2) (As := [.int o2.1, .int o3]) (rest := [.ref (ad 0)]) (ws' := (wX1 ad c9 o10.2.1 o10.2.2.1 o10.2.2.2.1 o10.2.2.2.2 o9.1 o9.2 p_t_count p_t_cells p_d_time p_d_tolerance p_d_seed p_d_madeTickets p_d_cheesesOfText p_d_R_rows p_d_R_cells p_d_U_rows p_d_U_cells p_d_S_rows p_d_S_cells p_d_T_rows p_d_T_cells p_d_E_rows p_d_E_cells)) (c_X2_hasTrust l hG D c9 (fun k => ad ([4, 5].getD k 0)) p_d_R_rows p_d_R_cells o2.1 o3 ho11) 2 gX1_readTrust_X2_hasTrust rfl rfl rfl ⟨rfl, pd_X2_hasTrust⟩ ⟨Nat.le_of_ble_eq_true rfl, Nat.le_of_ble_eq_true rfl⟩ 4 rfl rfl rfl rfl (Nat.le_of_ble_eq_true rfl) ⟨Nat.zero_le _, Nat.zero_le _⟩ [4, 5] [0, 1, 2, 3, 6, 7, 8, 9, 10, 11, 12, 13] [0, 1, 2, 3, 12, 13, 4, 5, 6, 7, 8, 9, 10, 11] rfl rfl rfl rfl dX1_readTrust_97 100 rfl ?_
        obtain ⟨j12, hj12, hf⟩ := bnd hf
        have Jj12 : vW p l e { frames := 4, cells := 0, slots := 0, locals := 109 } s m args below meth c 3 D A [] 0 0 (MQ below (eV D (tyA c9) A ((wX1 ad c9 o.1 o.2.1 o.2.2.1 o.2.2.2.1 o.2.2.2.2.1 o.2.2.2.2.2.1 p_t_count p_t_cells p_d_time p_d_tolerance p_d_seed p_d_madeTickets p_d_cheesesOfText p_d_R_rows o.2.2.2.2.2.2 p_d_U_rows p_d_U_cells p_d_S_rows p_d_S_cells p_d_T_rows p_d_T_cells p_d_E_rows p_d_E_cells) ++ [])) args s 0 0 A) (wX1 ad c9 o10.2.1 o10.2.2.1 o10.2.2.2.1 o10.2.2.2.2 o9.1 o9.2 p_t_count p_t_cells p_d_time p_d_tolerance p_d_seed p_d_madeTickets p_d_cheesesOfText p_d_R_rows p_d_R_cells p_d_U_rows p_d_U_cells p_d_S_rows p_d_S_cells p_d_T_rows p_d_T_cells p_d_E_rows p_d_E_cells) 108 [(0, .ref (ad 0)), (1, .int o2.1), (2, .int o3)] [.int j12, .ref (ad 0)] := by
          obtain ⟨o13, ho13, hf⟩ := bnd hf
          refine v_callVi X (ci := 1) (T := TX1) (C := RX1) (As := [.int j12]) (rest := []) (ws' := (wX1 ad c9 o13.2.1 o13.2.2.1 o13.2.2.2.1 o13.2.2.2.2.1 o13.2.2.2.2.2.1 o13.2.2.2.2.2.2 p_t_count p_t_cells p_d_time p_d_tolerance p_d_seed p_d_madeTickets p_d_cheesesOfText p_d_R_rows p_d_R_cells p_d_U_rows p_d_U_cells p_d_S_rows p_d_S_cells p_d_T_rows p_d_T_cells p_d_E_rows p_d_E_cells)) (c_X1_semicolon l hG D c9 ad o10.2.1 o10.2.2.1 o10.2.2.2.1 o10.2.2.2.2 o9.1 o9.2 p_t_count p_t_cells p_d_time p_d_tolerance p_d_seed p_d_madeTickets p_d_cheesesOfText p_d_R_rows p_d_R_cells p_d_U_rows p_d_U_cells p_d_S_rows p_d_S_cells p_d_T_rows p_d_T_cells p_d_E_rows p_d_E_cells j12 ho13) 1 gX1_readTrust_X1_semicolon rfl rfl rfl ⟨rfl, pd_X1_semicolon⟩ ⟨Nat.le_of_ble_eq_true rfl, Nat.le_of_ble_eq_true rfl⟩ 0 rfl rfl rfl rfl (Nat.le_of_ble_eq_true rfl) ⟨Nat.zero_le _, Nat.zero_le _⟩ [0, 1, 2, 3, 4, 5, 6, 7, 8, 9, 10, 11, 12, 13] [] [0, 1, 2, 3, 4, 5, 6, 7, 8, 9, 10, 11, 12, 13] rfl rfl rfl rfl dX1_readTrust_108 111 rfl ?_
          refine v_if_eq X (tgt := 126) dX1_readTrust_111 rfl 114 rfl hf (fun hf => ?_) (fun hf => ?_)
          · cases hf
            exact v_vret X (Nat.zero_le _) (Nat.zero_le _) dX1_readTrust_126
          · refine v_aload_n X dX1_readTrust_114 0 rfl rfl 115 rfl ?_
            refine v_get X (C := RX1) (T := TX1) (N := 8) (ci := 1) (v := _) dX1_readTrust_115 k_X1_readTrust_w1 0 rfl rfl 1 (by decide) k_X1_readTrust_1 rfl rfl 118 rfl ?_
            refine v_getN X (C := RX5) (T := TX5) (N := 10) (ci := 5) (v := _) dX1_readTrust_118 k_X1_readTrust_w5 3 rfl rfl 0 (by decide) nest_RX1_127 rfl rfl 121 rfl ?_
            refine v_iload_n X dX1_readTrust_121 1 rfl rfl 122 rfl ?_
            refine v_iload_n X dX1_readTrust_122 2 rfl rfl 123 rfl ?_
            obtain ⟨o14, ho14, hf⟩ := bnd hf
            refine v_callVv X (ci := 2) (T := TX2) (C := RX2) (As := [.int o2.1, .int o3]) (rest := []) (ws' := (wX1 ad c9 o13.2.1 o13.2.2.1 o13.2.2.2.1 o13.2.2.2.2.1 o13.2.2.2.2.2.1 o13.2.2.2.2.2.2 p_t_count p_t_cells p_d_time p_d_tolerance p_d_seed p_d_madeTickets p_d_cheesesOfText p_d_R_rows o14 p_d_U_rows p_d_U_cells p_d_S_rows p_d_S_cells p_d_T_rows p_d_T_cells p_d_E_rows p_d_E_cells)) (c_X2_addTrust l hG D c9 (fun k => ad ([4, 5].getD k 0)) p_d_R_rows p_d_R_cells o2.1 o3 ho14) 2 gX1_readTrust_X2_addTrust rfl rfl rfl ⟨rfl, pd_X2_addTrust⟩ ⟨Nat.le_of_ble_eq_true rfl, Nat.le_of_ble_eq_true rfl⟩ 4 rfl rfl rfl rfl (Nat.le_of_ble_eq_true rfl) ⟨Nat.zero_le _, Nat.zero_le _⟩ [4, 5] [0, 1, 2, 3, 6, 7, 8, 9, 10, 11, 12, 13] [0, 1, 2, 3, 12, 13, 4, 5, 6, 7, 8, 9, 10, 11] rfl rfl rfl rfl dX1_readTrust_123 126 rfl ?_
            cases hf
            exact v_vret X (Nat.zero_le _) (Nat.zero_le _) dX1_readTrust_126
        clear hf
        refine v_if_ne X (tgt := 107) dX1_readTrust_100 rfl 103 rfl hj12 (fun hf => ?_) (fun hf => ?_)
        · refine v_iconst X dX1_readTrust_107 ic_0 108 rfl ?_
          cases hf
          exact Jj12
        · refine v_iconst X dX1_readTrust_103 ic_1 104 rfl ?_
          refine v_goto X (tgt := 108) dX1_readTrust_104 rfl ?_
          cases hf
          exact Jj12
      clear hf
      refine v_icmp_eq X (tgt := 77) dX1_readTrust_70 rfl 73 rfl hj8 (fun hf => ?_) (fun hf => ?_)
      · refine v_iconst X dX1_readTrust_77 ic_0 78 rfl ?_
        cases hf
        exact Jj8
      · refine v_iconst X dX1_readTrust_73 ic_1 74 rfl ?_
        refine v_goto X (tgt := 78) dX1_readTrust_74 rfl ?_
        cases hf
        exact Jj8
    clear hf
    refine v_icmp_eq X (tgt := 62) dX1_readTrust_55 rfl 58 rfl hj6 (fun hf => ?_) (fun hf => ?_)
    · refine v_iconst X dX1_readTrust_62 ic_0 63 rfl ?_
      cases hf
      exact Jj6
    · refine v_iconst X dX1_readTrust_58 ic_1 59 rfl ?_
      refine v_goto X (tgt := 63) dX1_readTrust_59 rfl ?_
      cases hf
      exact Jj6
  clear hf
  refine v_icmp_ne X (tgt := 47) dX1_readTrust_40 rfl 43 rfl hj4 (fun hf => ?_) (fun hf => ?_)
  · refine v_iconst X dX1_readTrust_47 ic_0 48 rfl ?_
    cases hf
    refine v_sub (lv' := [(0, .ref (ad 0)), (1, .int o2.1), (2, .int o3)]) [2, 1, 0] rfl ?_
    exact Jj4
  · refine v_iconst X dX1_readTrust_43 ic_1 44 rfl ?_
    refine v_goto X (tgt := 48) dX1_readTrust_44 rfl ?_
    cases hf
    refine v_sub (lv' := [(0, .ref (ad 0)), (1, .int o2.1), (2, .int o3)]) [2, 1, 0] rfl ?_
    exact Jj4
theorem pd_X1_readTrust : yX1_readTrust.cls ≠ "java/lang/invoke/MethodHandle" ∧ yX1_readTrust.cls ≠ "java/lang/invoke/VarHandle" ∧ (parseMethodDescriptor yX1_readTrust.desc).map (fun d => d.parameters.length) = some 0 := by decide +kernel
theorem k_X1_newName_w1 : ∀ w ∈ u_ws RX1 TX1 8, w ∈ wsX1_newName := in_r _ [80, 81, 82, 83, 84, 85, 86, 87] rfl
theorem k_X1_newName_1 : Cond.fieldLink RX1 43 "TicketGate$Parser" "kind" "I" ∈ wsX1_newName := List.mem_of_getElem? (i := 1) rfl
theorem k_X1_newName_2 : Cond.fieldLink RX1 151 "TicketGate$Parser" "value" "I" ∈ wsX1_newName := List.mem_of_getElem? (i := 2) rfl
theorem k_X1_newName_3 : Cond.fieldLink RX1 12 "TicketGate$Parser" "draft" "LTicketGate$State;" ∈ wsX1_newName := List.mem_of_getElem? (i := 3) rfl
def f_X1_newName (p_start : Int32) (p_end : Int32) (p_kind : Int32) (p_value : Int32) (p_error : Int32) (p_errorAt : Int32) (p_t_count : Int32) (p_t_cells : Nat → Int32) (p_d_R_rows : Int32) (p_d_R_cells : Nat → Int32) (p_d_U_rows : Int32) (p_d_U_cells : Nat → Int32) (p_d_S_rows : Int32) (p_d_S_cells : Nat → Int32) : Option (Int32 × Int32 × Int32 × Int32 × Int32 × Int32 × Int32) :=
  Option.bind (if p_kind = 1 then (
    some (1))
  else (
    some (0)) : Option (Int32)) fun j1 =>
  (f_X1_require p_start p_error p_errorAt j1 1).bind fun o2 =>
  Option.bind (if p_value = 0 then (
    some (0))
  else (
    some (1)) : Option (Int32)) fun j3 =>
  (f_X1_require p_start o2.1 o2.2 j3 2).bind fun o4 =>
  (f_X5_codeOfName p_d_R_rows p_d_R_cells p_d_U_rows p_d_U_cells p_d_S_rows p_d_S_cells p_value).bind fun o5 =>
  Option.bind (if o5 = (-1) then (
    some (1))
  else (
    some (0)) : Option (Int32)) fun j6 =>
  (f_X1_require p_start o4.1 o4.2 j6 3).bind fun o7 =>
  (f_X1_take p_start p_end p_kind p_value o7.1 p_t_count p_t_cells).bind fun o8 =>
  some (o8.1, o8.2.1, o8.2.2.1, o8.2.2.2.1, o8.2.2.2.2, o7.1, o7.2)
set_option maxRecDepth 100000 in
set_option maxHeartbeats 4000000 in
theorem c_X1_newName (l : Launch) {G : (Nat → Prop) → State → Heap → Prop} (hG : vG G) (D : va_G) (c9 : Nat → ClassId) (ad : Nat → Nat) (p_start : Int32) (p_end : Int32) (p_kind : Int32) (p_value : Int32) (p_error : Int32) (p_errorAt : Int32) (p_t_count : Int32) (p_t_cells : Nat → Int32) (p_d_time : Int32) (p_d_tolerance : Int32) (p_d_seed : Int32) (p_d_madeTickets : Int32) (p_d_cheesesOfText : Int32) (p_d_R_rows : Int32) (p_d_R_cells : Nat → Int32) (p_d_U_rows : Int32) (p_d_U_cells : Nat → Int32) (p_d_S_rows : Int32) (p_d_S_cells : Nat → Int32) (p_d_T_rows : Int32) (p_d_T_cells : Nat → Int32) (p_d_E_rows : Int32) (p_d_E_cells : Nat → Int32)  {o : Int32 × Int32 × Int32 × Int32 × Int32 × Int32 × Int32} (hf : f_X1_newName p_start p_end p_kind p_value p_error p_errorAt p_t_count p_t_cells p_d_R_rows p_d_R_cells p_d_U_rows p_d_U_cells p_d_S_rows p_d_S_cells = some o) : mI l yX1_newName wsX1_newName { frames := 3, cells := 0, slots := 0, locals := 86 } G D (tyA c9) [.ref (ad 0)] (wX1 ad c9 p_start p_end p_kind p_value p_error p_errorAt p_t_count p_t_cells p_d_time p_d_tolerance p_d_seed p_d_madeTickets p_d_cheesesOfText p_d_R_rows p_d_R_cells p_d_U_rows p_d_U_cells p_d_S_rows p_d_S_cells p_d_T_rows p_d_T_cells p_d_E_rows p_d_E_cells) [] 0 0 o.1 (wX1 ad c9 o.2.1 o.2.2.1 o.2.2.2.1 o.2.2.2.2.1 o.2.2.2.2.2.1 o.2.2.2.2.2.2 p_t_count p_t_cells p_d_time p_d_tolerance p_d_seed p_d_madeTickets p_d_cheesesOfText p_d_R_rows p_d_R_cells p_d_U_rows p_d_U_cells p_d_S_rows p_d_S_cells p_d_T_rows p_d_T_cells p_d_E_rows p_d_E_cells) := by
  refine mI_of hG (cc := cX1_newName) (maxL := 1) (ty := .int) (by decide) rfl (Nat.le_of_ble_eq_true rfl) ?_
  intro p e s m args below meth c A X
  have X : vX p s m args meth c cX1_newName 1 (some .int) RX1 wsX1_newName D (tyA c9) G A := X
  refine v_eq (lv2 := [(0, .ref (ad 0))]) rfl rfl rfl rfl ?_
  rw [f_X1_newName] at hf
  refine v_aload_n X dX1_newName_0 0 rfl rfl 1 rfl ?_
  refine v_aload_n X dX1_newName_1 0 rfl rfl 2 rfl ?_
  refine v_get X (C := RX1) (T := TX1) (N := 8) (ci := 1) (v := _) dX1_newName_2 k_X1_newName_w1 0 rfl rfl 4 (by decide) k_X1_newName_1 rfl rfl 5 rfl ?_
  refine v_iconst X dX1_newName_5 ic_1 6 rfl ?_
  obtain ⟨j1, hj1, hf⟩ := bnd hf
  have Jj1 : vW p l e { frames := 3, cells := 0, slots := 0, locals := 86 } s m args below meth c 1 D A [] 0 0 (MQ below (eI D (tyA c9) A o.1 ((wX1 ad c9 o.2.1 o.2.2.1 o.2.2.2.1 o.2.2.2.2.1 o.2.2.2.2.2.1 o.2.2.2.2.2.2 p_t_count p_t_cells p_d_time p_d_tolerance p_d_seed p_d_madeTickets p_d_cheesesOfText p_d_R_rows p_d_R_cells p_d_U_rows p_d_U_cells p_d_S_rows p_d_S_cells p_d_T_rows p_d_T_cells p_d_E_rows p_d_E_cells) ++ [])) args s 0 0 A) (wX1 ad c9 p_start p_end p_kind p_value p_error p_errorAt p_t_count p_t_cells p_d_time p_d_tolerance p_d_seed p_d_madeTickets p_d_cheesesOfText p_d_R_rows p_d_R_cells p_d_U_rows p_d_U_cells p_d_S_rows p_d_S_cells p_d_T_rows p_d_T_cells p_d_E_rows p_d_E_cells) 14 [(0, .ref (ad 0))] [.int j1, .ref (ad 0)] := by
    refine v_iconst X dX1_newName_14 ic_1 15 rfl ?_
    obtain ⟨o2, ho2, hf⟩ := bnd hf
    refine v_callVv X (ci := 1) (T := TX1) (C := RX1) (As := [.int j1, .int 1]) (rest := []) (ws' := (wX1 ad c9 p_start p_end p_kind p_value o2.1 o2.2 p_t_count p_t_cells p_d_time p_d_tolerance p_d_seed p_d_madeTickets p_d_cheesesOfText p_d_R_rows p_d_R_cells p_d_U_rows p_d_U_cells p_d_S_rows p_d_S_cells p_d_T_rows p_d_T_cells p_d_E_rows p_d_E_cells)) (c_X1_require l hG D c9 ad p_start p_end p_kind p_value p_error p_errorAt p_t_count p_t_cells p_d_time p_d_tolerance p_d_seed p_d_madeTickets p_d_cheesesOfText p_d_R_rows p_d_R_cells p_d_U_rows p_d_U_cells p_d_S_rows p_d_S_cells p_d_T_rows p_d_T_cells p_d_E_rows p_d_E_cells j1 1 ho2) 2 gX1_newName_X1_require rfl rfl rfl ⟨rfl, pd_X1_require⟩ ⟨Nat.le_of_ble_eq_true rfl, Nat.le_of_ble_eq_true rfl⟩ 0 rfl rfl rfl rfl (Nat.le_of_ble_eq_true rfl) ⟨Nat.zero_le _, Nat.zero_le _⟩ [0, 1, 2, 3, 4, 5, 6, 7, 8, 9, 10, 11, 12, 13] [] [0, 1, 2, 3, 4, 5, 6, 7, 8, 9, 10, 11, 12, 13] rfl rfl rfl rfl dX1_newName_15 18 rfl ?_
    refine v_aload_n X dX1_newName_18 0 rfl rfl 19 rfl ?_
    refine v_aload_n X dX1_newName_19 0 rfl rfl 20 rfl ?_
    refine v_get X (C := RX1) (T := TX1) (N := 8) (ci := 1) (v := _) dX1_newName_20 k_X1_newName_w1 0 rfl rfl 5 (by decide) k_X1_newName_2 rfl rfl 23 rfl ?_
    obtain ⟨j3, hj3, hf⟩ := bnd hf
    have Jj3 : vW p l e { frames := 3, cells := 0, slots := 0, locals := 86 } s m args below meth c 1 D A [] 0 0 (MQ below (eI D (tyA c9) A o.1 ((wX1 ad c9 o.2.1 o.2.2.1 o.2.2.2.1 o.2.2.2.2.1 o.2.2.2.2.2.1 o.2.2.2.2.2.2 p_t_count p_t_cells p_d_time p_d_tolerance p_d_seed p_d_madeTickets p_d_cheesesOfText p_d_R_rows p_d_R_cells p_d_U_rows p_d_U_cells p_d_S_rows p_d_S_cells p_d_T_rows p_d_T_cells p_d_E_rows p_d_E_cells) ++ [])) args s 0 0 A) (wX1 ad c9 p_start p_end p_kind p_value o2.1 o2.2 p_t_count p_t_cells p_d_time p_d_tolerance p_d_seed p_d_madeTickets p_d_cheesesOfText p_d_R_rows p_d_R_cells p_d_U_rows p_d_U_cells p_d_S_rows p_d_S_cells p_d_T_rows p_d_T_cells p_d_E_rows p_d_E_cells) 31 [(0, .ref (ad 0))] [.int j3, .ref (ad 0)] := by
      refine v_iconst X dX1_newName_31 ic_2 32 rfl ?_
      obtain ⟨o4, ho4, hf⟩ := bnd hf
      refine v_callVv X (ci := 1) (T := TX1) (C := RX1) (As := [.int j3, .int 2]) (rest := []) (ws' := (wX1 ad c9 p_start p_end p_kind p_value o4.1 o4.2 p_t_count p_t_cells p_d_time p_d_tolerance p_d_seed p_d_madeTickets p_d_cheesesOfText p_d_R_rows p_d_R_cells p_d_U_rows p_d_U_cells p_d_S_rows p_d_S_cells p_d_T_rows p_d_T_cells p_d_E_rows p_d_E_cells)) (c_X1_require l hG D c9 ad p_start p_end p_kind p_value o2.1 o2.2 p_t_count p_t_cells p_d_time p_d_tolerance p_d_seed p_d_madeTickets p_d_cheesesOfText p_d_R_rows p_d_R_cells p_d_U_rows p_d_U_cells p_d_S_rows p_d_S_cells p_d_T_rows p_d_T_cells p_d_E_rows p_d_E_cells j3 2 ho4) 2 gX1_newName_X1_require rfl rfl rfl ⟨rfl, pd_X1_require⟩ ⟨Nat.le_of_ble_eq_true rfl, Nat.le_of_ble_eq_true rfl⟩ 0 rfl rfl rfl rfl (Nat.le_of_ble_eq_true rfl) ⟨Nat.zero_le _, Nat.zero_le _⟩ [0, 1, 2, 3, 4, 5, 6, 7, 8, 9, 10, 11, 12, 13] [] [0, 1, 2, 3, 4, 5, 6, 7, 8, 9, 10, 11, 12, 13] rfl rfl rfl rfl dX1_newName_32 35 rfl ?_
      refine v_aload_n X dX1_newName_35 0 rfl rfl 36 rfl ?_
      refine v_aload_n X dX1_newName_36 0 rfl rfl 37 rfl ?_
      refine v_get X (C := RX1) (T := TX1) (N := 8) (ci := 1) (v := _) dX1_newName_37 k_X1_newName_w1 0 rfl rfl 1 (by decide) k_X1_newName_3 rfl rfl 40 rfl ?_
      refine v_aload_n X dX1_newName_40 0 rfl rfl 41 rfl ?_
      refine v_get X (C := RX1) (T := TX1) (N := 8) (ci := 1) (v := _) dX1_newName_41 k_X1_newName_w1 0 rfl rfl 5 (by decide) k_X1_newName_2 rfl rfl 44 rfl ?_
      obtain ⟨o5, ho5, hf⟩ := bnd hf
      refine v_callVi X (ci := 5) (T := TX5) (C := RX5) (As := [.int p_value]) (rest := [.ref (ad 0)]) (ws' := (wX1 ad c9 p_start p_end p_kind p_value o4.1 o4.2 p_t_count p_t_cells p_d_time p_d_tolerance p_d_seed p_d_madeTickets p_d_cheesesOfText p_d_R_rows p_d_R_cells p_d_U_rows p_d_U_cells p_d_S_rows p_d_S_cells p_d_T_rows p_d_T_cells p_d_E_rows p_d_E_cells)) (c_X5_codeOfName l hG D c9 (fun k => ad ([3, 4, 5, 6, 7, 8, 9, 10, 11, 12, 13].getD k 0)) p_d_time p_d_tolerance p_d_seed p_d_madeTickets p_d_cheesesOfText p_d_R_rows p_d_R_cells p_d_U_rows p_d_U_cells p_d_S_rows p_d_S_cells p_d_T_rows p_d_T_cells p_d_E_rows p_d_E_cells p_value ho5) 1 gX1_newName_X5_codeOfName rfl rfl rfl ⟨rfl, pd_X5_codeOfName⟩ ⟨Nat.le_of_ble_eq_true rfl, Nat.le_of_ble_eq_true rfl⟩ 3 rfl rfl rfl rfl (Nat.le_of_ble_eq_true rfl) ⟨Nat.zero_le _, Nat.zero_le _⟩ [3, 4, 5, 6, 7, 8, 9, 10, 11, 12, 13] [0, 1, 2] [0, 1, 2, 3, 4, 5, 6, 7, 8, 9, 10, 11, 12, 13] rfl rfl rfl rfl dX1_newName_44 47 rfl ?_
      refine v_iconst X dX1_newName_47 ic_m1 48 rfl ?_
      obtain ⟨j6, hj6, hf⟩ := bnd hf
      have Jj6 : vW p l e { frames := 3, cells := 0, slots := 0, locals := 86 } s m args below meth c 1 D A [] 0 0 (MQ below (eI D (tyA c9) A o.1 ((wX1 ad c9 o.2.1 o.2.2.1 o.2.2.2.1 o.2.2.2.2.1 o.2.2.2.2.2.1 o.2.2.2.2.2.2 p_t_count p_t_cells p_d_time p_d_tolerance p_d_seed p_d_madeTickets p_d_cheesesOfText p_d_R_rows p_d_R_cells p_d_U_rows p_d_U_cells p_d_S_rows p_d_S_cells p_d_T_rows p_d_T_cells p_d_E_rows p_d_E_cells) ++ [])) args s 0 0 A) (wX1 ad c9 p_start p_end p_kind p_value o4.1 o4.2 p_t_count p_t_cells p_d_time p_d_tolerance p_d_seed p_d_madeTickets p_d_cheesesOfText p_d_R_rows p_d_R_cells p_d_U_rows p_d_U_cells p_d_S_rows p_d_S_cells p_d_T_rows p_d_T_cells p_d_E_rows p_d_E_cells) 56 [(0, .ref (ad 0))] [.int j6, .ref (ad 0)] := by
        refine v_iconst X dX1_newName_56 ic_3 57 rfl ?_
        obtain ⟨o7, ho7, hf⟩ := bnd hf
        refine v_callVv X (ci := 1) (T := TX1) (C := RX1) (As := [.int j6, .int 3]) (rest := []) (ws' := (wX1 ad c9 p_start p_end p_kind p_value o7.1 o7.2 p_t_count p_t_cells p_d_time p_d_tolerance p_d_seed p_d_madeTickets p_d_cheesesOfText p_d_R_rows p_d_R_cells p_d_U_rows p_d_U_cells p_d_S_rows p_d_S_cells p_d_T_rows p_d_T_cells p_d_E_rows p_d_E_cells)) (c_X1_require l hG D c9 ad p_start p_end p_kind p_value o4.1 o4.2 p_t_count p_t_cells p_d_time p_d_tolerance p_d_seed p_d_madeTickets p_d_cheesesOfText p_d_R_rows p_d_R_cells p_d_U_rows p_d_U_cells p_d_S_rows p_d_S_cells p_d_T_rows p_d_T_cells p_d_E_rows p_d_E_cells j6 3 ho7) 2 gX1_newName_X1_require rfl rfl rfl ⟨rfl, pd_X1_require⟩ ⟨Nat.le_of_ble_eq_true rfl, Nat.le_of_ble_eq_true rfl⟩ 0 rfl rfl rfl rfl (Nat.le_of_ble_eq_true rfl) ⟨Nat.zero_le _, Nat.zero_le _⟩ [0, 1, 2, 3, 4, 5, 6, 7, 8, 9, 10, 11, 12, 13] [] [0, 1, 2, 3, 4, 5, 6, 7, 8, 9, 10, 11, 12, 13] rfl rfl rfl rfl dX1_newName_57 60 rfl ?_
        refine v_aload_n X dX1_newName_60 0 rfl rfl 61 rfl ?_
        obtain ⟨o8, ho8, hf⟩ := bnd hf
        refine v_callVi X (ci := 1) (T := TX1) (C := RX1) (As := []) (rest := []) (ws' := (wX1 ad c9 o8.2.1 o8.2.2.1 o8.2.2.2.1 o8.2.2.2.2 o7.1 o7.2 p_t_count p_t_cells p_d_time p_d_tolerance p_d_seed p_d_madeTickets p_d_cheesesOfText p_d_R_rows p_d_R_cells p_d_U_rows p_d_U_cells p_d_S_rows p_d_S_cells p_d_T_rows p_d_T_cells p_d_E_rows p_d_E_cells)) (c_X1_take l hG D c9 ad p_start p_end p_kind p_value o7.1 o7.2 p_t_count p_t_cells p_d_time p_d_tolerance p_d_seed p_d_madeTickets p_d_cheesesOfText p_d_R_rows p_d_R_cells p_d_U_rows p_d_U_cells p_d_S_rows p_d_S_cells p_d_T_rows p_d_T_cells p_d_E_rows p_d_E_cells ho8) 0 gX1_newName_X1_take rfl rfl rfl ⟨rfl, pd_X1_take⟩ ⟨Nat.le_of_ble_eq_true rfl, Nat.le_of_ble_eq_true rfl⟩ 0 rfl rfl rfl rfl (Nat.le_of_ble_eq_true rfl) ⟨Nat.zero_le _, Nat.zero_le _⟩ [0, 1, 2, 3, 4, 5, 6, 7, 8, 9, 10, 11, 12, 13] [] [0, 1, 2, 3, 4, 5, 6, 7, 8, 9, 10, 11, 12, 13] rfl rfl rfl rfl dX1_newName_61 64 rfl ?_
        cases hf
        exact v_iret X (Nat.zero_le _) (Nat.zero_le _) dX1_newName_64
      clear hf
      refine v_icmp_ne X (tgt := 55) dX1_newName_48 rfl 51 rfl hj6 (fun hf => ?_) (fun hf => ?_)
      · refine v_iconst X dX1_newName_55 ic_0 56 rfl ?_
        cases hf
        exact Jj6
      · refine v_iconst X dX1_newName_51 ic_1 52 rfl ?_
        refine v_goto X (tgt := 56) dX1_newName_52 rfl ?_
        cases hf
        exact Jj6
    clear hf
    refine v_if_eq X (tgt := 30) dX1_newName_23 rfl 26 rfl hj3 (fun hf => ?_) (fun hf => ?_)
    · refine v_iconst X dX1_newName_30 ic_0 31 rfl ?_
      cases hf
      exact Jj3
    · refine v_iconst X dX1_newName_26 ic_1 27 rfl ?_
      refine v_goto X (tgt := 31) dX1_newName_27 rfl ?_
      cases hf
      exact Jj3
  clear hf
  refine v_icmp_ne X (tgt := 13) dX1_newName_6 rfl 9 rfl hj1 (fun hf => ?_) (fun hf => ?_)
  · refine v_iconst X dX1_newName_13 ic_0 14 rfl ?_
    cases hf
    exact Jj1
  · refine v_iconst X dX1_newName_9 ic_1 10 rfl ?_
    refine v_goto X (tgt := 14) dX1_newName_10 rfl ?_
    cases hf
    exact Jj1
theorem pd_X1_newName : yX1_newName.cls ≠ "java/lang/invoke/MethodHandle" ∧ yX1_newName.cls ≠ "java/lang/invoke/VarHandle" ∧ (parseMethodDescriptor yX1_newName.desc).map (fun d => d.parameters.length) = some 0 := by decide +kernel
