theorem pd_X6_get_UX5_giveCheese_93 : "TicketGate$Table" ≠ "java/lang/invoke/MethodHandle" ∧ "TicketGate$Table" ≠ "java/lang/invoke/VarHandle" ∧ (parseMethodDescriptor "(II)I").map (fun d => d.parameters.length) = some 2 := by decide +kernel
theorem pd_X6_get_UX5_giveCheese_83 : "TicketGate$Table" ≠ "java/lang/invoke/MethodHandle" ∧ "TicketGate$Table" ≠ "java/lang/invoke/VarHandle" ∧ (parseMethodDescriptor "(II)I").map (fun d => d.parameters.length) = some 2 := by decide +kernel
theorem pd_X6_get_UX5_giveCheese_112 : "TicketGate$Table" ≠ "java/lang/invoke/MethodHandle" ∧ "TicketGate$Table" ≠ "java/lang/invoke/VarHandle" ∧ (parseMethodDescriptor "(II)I").map (fun d => d.parameters.length) = some 2 := by decide +kernel
theorem pd_X6_set_UX5_giveCheese_148 : "TicketGate$Table" ≠ "java/lang/invoke/MethodHandle" ∧ "TicketGate$Table" ≠ "java/lang/invoke/VarHandle" ∧ (parseMethodDescriptor "(III)V").map (fun d => d.parameters.length) = some 3 := by decide +kernel
theorem pd_X6_set_UX5_giveCheese_149 : "TicketGate$Table" ≠ "java/lang/invoke/MethodHandle" ∧ "TicketGate$Table" ≠ "java/lang/invoke/VarHandle" ∧ (parseMethodDescriptor "(III)V").map (fun d => d.parameters.length) = some 3 := by decide +kernel
def f_X5_giveCheese (s_time : Int32) (s_U_rows : Int32) (s_U_cells : Nat → Int32) (s_S_rows : Int32) (s_S_cells : Nat → Int32) (s_T_rows : Int32) (s_T_cells : Nat → Int32) (s_E_rows : Int32) (s_E_cells : Nat → Int32) (v1 : Int32) : Option (Int32 × (Nat → Int32) × (Nat → Int32) × Int32 × (Nat → Int32)) :=
  (f_X6_get 240 10 s_T_rows s_T_cells v1 2).bind fun o1 =>
  (f_X6_get 240 10 s_T_rows s_T_cells v1 4).bind fun o2 =>
  (f_X6_get 30 5 s_U_rows s_U_cells o1 4).bind fun o3 =>
  (f_X6_get 30 5 s_U_rows s_U_cells o1 3).bind fun o4 =>
  (f_X9_addUse s_E_rows s_E_cells o1 o2 (s_time + o4) s_time).bind fun o5 =>
  (f_X6_get 18 3 s_S_rows s_S_cells o2 2).bind fun o6 =>
  (f_X6_set 18 3 s_S_rows s_S_cells o2 2 (o6 - 1)).bind fun o7 =>
  (f_X6_set 30 5 s_U_rows s_U_cells o1 4 (o3 + 1)).bind fun o8 =>
  some ((o3 + 1), o8, o7, o5.1, o5.2)
set_option maxRecDepth 100000 in
set_option maxHeartbeats 4000000 in
theorem c_X5_giveCheese (l : Launch) {G : (Nat → Prop) → State → Heap → Prop} (hG : vG G) (D : va_G) (c9 : Nat → ClassId) (ad : Nat → Nat) (s_time : Int32) (s_tolerance : Int32) (s_seed : Int32) (s_madeTickets : Int32) (s_cheesesOfText : Int32) (s_R_rows : Int32) (s_R_cells : Nat → Int32) (s_U_rows : Int32) (s_U_cells : Nat → Int32) (s_S_rows : Int32) (s_S_cells : Nat → Int32) (s_T_rows : Int32) (s_T_cells : Nat → Int32) (s_E_rows : Int32) (s_E_cells : Nat → Int32) (v1 : Int32) {o : Int32 × (Nat → Int32) × (Nat → Int32) × Int32 × (Nat → Int32)} (hf : f_X5_giveCheese s_time s_U_rows s_U_cells s_S_rows s_S_cells s_T_rows s_T_cells s_E_rows s_E_cells v1 = some o) : mI l yX5_giveCheese (wq yX5_giveCheese cX5_giveCheese 5 (some .int)) { frames := 2, cells := 0, slots := 0, locals := 49 } G D (tyA c9) [.ref (ad 0), .int v1] (wX5 ad c9 s_time s_tolerance s_seed s_madeTickets s_cheesesOfText s_R_rows s_R_cells s_U_rows s_U_cells s_S_rows s_S_cells s_T_rows s_T_cells s_E_rows s_E_cells) [] 0 0 o.1 (wX5 ad c9 s_time s_tolerance s_seed s_madeTickets s_cheesesOfText s_R_rows s_R_cells s_U_rows o.2.1 s_S_rows o.2.2.1 s_T_rows s_T_cells o.2.2.2.1 o.2.2.2.2) := by
  refine mI_of hG (cc := cX5_giveCheese) (maxL := 5) (ty := .int) (by decide) rfl (Nat.le_of_ble_eq_true rfl) ?_
  intro p e s m args below meth c A X
  have X : vX p s m args meth c cX5_giveCheese 5 (some .int) RX5 (wq yX5_giveCheese cX5_giveCheese 5 (some .int)) D (tyA c9) G A := X
  refine v_eq (lv2 := [(0, .ref (ad 0)), (1, .int v1)]) rfl rfl rfl rfl ?_
  rw [f_X5_giveCheese] at hf
  refine v_aload_n X dX5_giveCheese_0 0 rfl rfl 1 rfl ?_
  refine v_get X (C := RX5) (T := TX5) (N := 10) (ci := 5) (v := _) dX5_giveCheese_1 (lay_of layc_X5) 0 rfl rfl 3 (by decide) (mw wc_184) rfl rfl 4 rfl ?_
  refine v_iload_n X dX5_giveCheese_4 1 rfl rfl 5 rfl ?_
  refine v_iconst X dX5_giveCheese_5 ic_2 6 rfl ?_
  obtain ⟨o1, ho1, hf⟩ := bnd hf
  refine v_callUi X (ci := 6) (T := TX7) (C := RX7) (owner := "TicketGate$Table") (As := [.int v1, .int 2]) (rest := []) (ws' := (wX5 ad c9 s_time s_tolerance s_seed s_madeTickets s_cheesesOfText s_R_rows s_R_cells s_U_rows s_U_cells s_S_rows s_S_cells s_T_rows s_T_cells s_E_rows s_E_cells)) (c_X6_get l hG D c9 (fun k => ad ([7, 8].getD k 0)) 240 6 RX7 rfl layc_X7 24 10 s_T_rows s_T_cells v1 2 ho1) 2 (gU wc_235 wc_92 wc_93 wc_34 wc_35 wc_36) rfl rfl rfl rfl pd_X6_get_UX5_giveCheese_93 ⟨Nat.le_of_ble_eq_true rfl, Nat.le_of_ble_eq_true rfl⟩ 7 rfl rfl rfl rfl (Nat.le_of_ble_eq_true rfl) ⟨Nat.zero_le _, Nat.zero_le _⟩ [7, 8] [0, 1, 2, 3, 4, 5, 6, 9, 10] [0, 1, 2, 3, 4, 5, 6, 9, 10, 7, 8] rfl rfl rfl rfl dX5_giveCheese_6 9 rfl ?_
  refine v_istore_n X (lv' := [(2, .int o1), (0, .ref (ad 0)), (1, .int v1)]) dX5_giveCheese_9 rfl (by decide) rfl 10 rfl ?_
  refine v_aload_n X dX5_giveCheese_10 1 rfl rfl 11 rfl ?_
  refine v_get X (C := RX5) (T := TX5) (N := 10) (ci := 5) (v := _) dX5_giveCheese_11 (lay_of layc_X5) 0 rfl rfl 3 (by decide) (mw wc_184) rfl rfl 14 rfl ?_
  refine v_iload_n X dX5_giveCheese_14 2 rfl rfl 15 rfl ?_
  refine v_iconst X dX5_giveCheese_15 ic_4 16 rfl ?_
  obtain ⟨o2, ho2, hf⟩ := bnd hf
  refine v_callUi X (ci := 6) (T := TX7) (C := RX7) (owner := "TicketGate$Table") (As := [.int v1, .int 4]) (rest := []) (ws' := (wX5 ad c9 s_time s_tolerance s_seed s_madeTickets s_cheesesOfText s_R_rows s_R_cells s_U_rows s_U_cells s_S_rows s_S_cells s_T_rows s_T_cells s_E_rows s_E_cells)) (c_X6_get l hG D c9 (fun k => ad ([7, 8].getD k 0)) 240 6 RX7 rfl layc_X7 24 10 s_T_rows s_T_cells v1 4 ho2) 2 (gU wc_235 wc_92 wc_93 wc_34 wc_35 wc_36) rfl rfl rfl rfl pd_X6_get_UX5_giveCheese_93 ⟨Nat.le_of_ble_eq_true rfl, Nat.le_of_ble_eq_true rfl⟩ 7 rfl rfl rfl rfl (Nat.le_of_ble_eq_true rfl) ⟨Nat.zero_le _, Nat.zero_le _⟩ [7, 8] [0, 1, 2, 3, 4, 5, 6, 9, 10] [0, 1, 2, 3, 4, 5, 6, 9, 10, 7, 8] rfl rfl rfl rfl dX5_giveCheese_16 19 rfl ?_
  refine v_istore_n X (lv' := [(3, .int o2), (2, .int o1), (0, .ref (ad 0)), (1, .int v1)]) dX5_giveCheese_19 rfl (by decide) rfl 20 rfl ?_
  refine v_aload_n X dX5_giveCheese_20 2 rfl rfl 21 rfl ?_
  refine v_get X (C := RX5) (T := TX5) (N := 10) (ci := 5) (v := _) dX5_giveCheese_21 (lay_of layc_X5) 0 rfl rfl 1 (by decide) (mw wc_176) rfl rfl 24 rfl ?_
  refine v_iload_n X dX5_giveCheese_24 1 rfl rfl 25 rfl ?_
  refine v_iconst X dX5_giveCheese_25 ic_4 26 rfl ?_
  obtain ⟨o3, ho3, hf⟩ := bnd hf
  refine v_callUi X (ci := 7) (T := TX8) (C := RX8) (owner := "TicketGate$Table") (As := [.int o1, .int 4]) (rest := []) (ws' := (wX5 ad c9 s_time s_tolerance s_seed s_madeTickets s_cheesesOfText s_R_rows s_R_cells s_U_rows s_U_cells s_S_rows s_S_cells s_T_rows s_T_cells s_E_rows s_E_cells)) (c_X6_get l hG D c9 (fun k => ad ([3, 4].getD k 0)) 30 7 RX8 rfl layc_X8 6 5 s_U_rows s_U_cells o1 4 ho3) 2 (gU wc_228 wc_229 wc_230 wc_34 wc_35 wc_36) rfl rfl rfl rfl pd_X6_get_UX5_giveCheese_83 ⟨Nat.le_of_ble_eq_true rfl, Nat.le_of_ble_eq_true rfl⟩ 3 rfl rfl rfl rfl (Nat.le_of_ble_eq_true rfl) ⟨Nat.zero_le _, Nat.zero_le _⟩ [3, 4] [0, 1, 2, 5, 6, 7, 8, 9, 10] [0, 1, 2, 9, 10, 3, 4, 5, 6, 7, 8] rfl rfl rfl rfl dX5_giveCheese_26 29 rfl ?_
  refine v_iconst X dX5_giveCheese_29 ic_1 30 rfl ?_
  refine v_iadd X dX5_giveCheese_30 31 rfl ?_
  refine v_istore X (lv' := [(4, .int (o3 + 1)), (3, .int o2), (2, .int o1), (0, .ref (ad 0)), (1, .int v1)]) dX5_giveCheese_31 (by decide) rfl 33 rfl ?_
  refine v_aload_n X dX5_giveCheese_33 3 rfl rfl 34 rfl ?_
  refine v_get X (C := RX5) (T := TX5) (N := 10) (ci := 5) (v := _) dX5_giveCheese_34 (lay_of layc_X5) 0 rfl rfl 4 (by decide) (mw wc_188) rfl rfl 37 rfl ?_
  refine v_iload_n X dX5_giveCheese_37 2 rfl rfl 38 rfl ?_
  refine v_iload_n X dX5_giveCheese_38 1 rfl rfl 39 rfl ?_
  refine v_aload_n X dX5_giveCheese_39 3 rfl rfl 40 rfl ?_
  refine v_get X (C := RX5) (T := TX5) (N := 10) (ci := 5) (v := _) dX5_giveCheese_40 (lay_of layc_X5) 0 rfl rfl 5 (by decide) (mw wc_192) rfl rfl 43 rfl ?_
  refine v_aload_n X dX5_giveCheese_43 3 rfl rfl 44 rfl ?_
  refine v_get X (C := RX5) (T := TX5) (N := 10) (ci := 5) (v := _) dX5_giveCheese_44 (lay_of layc_X5) 0 rfl rfl 1 (by decide) (mw wc_176) rfl rfl 47 rfl ?_
  refine v_iload_n X dX5_giveCheese_47 2 rfl rfl 48 rfl ?_
  refine v_iconst X dX5_giveCheese_48 ic_3 49 rfl ?_
  obtain ⟨o4, ho4, hf⟩ := bnd hf
  refine v_callUi X (ci := 7) (T := TX8) (C := RX8) (owner := "TicketGate$Table") (As := [.int o1, .int 3]) (rest := [.int s_time, .int o2, .int o1, .ref (ad 9)]) (ws' := (wX5 ad c9 s_time s_tolerance s_seed s_madeTickets s_cheesesOfText s_R_rows s_R_cells s_U_rows s_U_cells s_S_rows s_S_cells s_T_rows s_T_cells s_E_rows s_E_cells)) (c_X6_get l hG D c9 (fun k => ad ([3, 4].getD k 0)) 30 7 RX8 rfl layc_X8 6 5 s_U_rows s_U_cells o1 3 ho4) 2 (gU wc_228 wc_229 wc_230 wc_34 wc_35 wc_36) rfl rfl rfl rfl pd_X6_get_UX5_giveCheese_83 ⟨Nat.le_of_ble_eq_true rfl, Nat.le_of_ble_eq_true rfl⟩ 3 rfl rfl rfl rfl (Nat.le_of_ble_eq_true rfl) ⟨Nat.zero_le _, Nat.zero_le _⟩ [3, 4] [0, 1, 2, 5, 6, 7, 8, 9, 10] [0, 1, 2, 9, 10, 3, 4, 5, 6, 7, 8] rfl rfl rfl rfl dX5_giveCheese_49 52 rfl ?_
  refine v_iadd X dX5_giveCheese_52 53 rfl ?_
  refine v_aload_n X dX5_giveCheese_53 3 rfl rfl 54 rfl ?_
  refine v_get X (C := RX5) (T := TX5) (N := 10) (ci := 5) (v := _) dX5_giveCheese_54 (lay_of layc_X5) 0 rfl rfl 5 (by decide) (mw wc_192) rfl rfl 57 rfl ?_
  obtain ⟨o5, ho5, hf⟩ := bnd hf
  refine v_callVv X (ci := 8) (T := TX9) (C := RX9) (As := [.int o1, .int o2, .int (s_time + o4), .int s_time]) (rest := []) (ws' := (wX5 ad c9 s_time s_tolerance s_seed s_madeTickets s_cheesesOfText s_R_rows s_R_cells s_U_rows s_U_cells s_S_rows s_S_cells s_T_rows s_T_cells o5.1 o5.2)) (c_X9_addUse l hG D c9 (fun k => ad ([9, 10].getD k 0)) s_E_rows s_E_cells o1 o2 (s_time + o4) s_time ho5) 4 (gV wc_293 wc_294 wc_295 wc_265 wc_296) rfl rfl rfl ⟨rfl, pd_X9_addUse⟩ ⟨Nat.le_of_ble_eq_true rfl, Nat.le_of_ble_eq_true rfl⟩ 9 rfl rfl rfl rfl (Nat.le_of_ble_eq_true rfl) ⟨Nat.zero_le _, Nat.zero_le _⟩ [9, 10] [0, 1, 2, 3, 4, 5, 6, 7, 8] [0, 1, 2, 3, 4, 5, 6, 7, 8, 9, 10] rfl rfl rfl rfl dX5_giveCheese_57 60 rfl ?_
  refine v_aload_n X dX5_giveCheese_60 3 rfl rfl 61 rfl ?_
  refine v_get X (C := RX5) (T := TX5) (N := 10) (ci := 5) (v := _) dX5_giveCheese_61 (lay_of layc_X5) 0 rfl rfl 2 (by decide) (mw wc_180) rfl rfl 64 rfl ?_
  refine v_iload_n X dX5_giveCheese_64 1 rfl rfl 65 rfl ?_
  refine v_iconst X dX5_giveCheese_65 ic_2 66 rfl ?_
  refine v_aload_n X dX5_giveCheese_66 3 rfl rfl 67 rfl ?_
  refine v_get X (C := RX5) (T := TX5) (N := 10) (ci := 5) (v := _) dX5_giveCheese_67 (lay_of layc_X5) 0 rfl rfl 2 (by decide) (mw wc_180) rfl rfl 70 rfl ?_
  refine v_iload_n X dX5_giveCheese_70 1 rfl rfl 71 rfl ?_
  refine v_iconst X dX5_giveCheese_71 ic_2 72 rfl ?_
  obtain ⟨o6, ho6, hf⟩ := bnd hf
  refine v_callUi X (ci := 3) (T := TX3) (C := RX3) (owner := "TicketGate$Table") (As := [.int o2, .int 2]) (rest := [.int 2, .int o2, .ref (ad 5)]) (ws' := (wX5 ad c9 s_time s_tolerance s_seed s_madeTickets s_cheesesOfText s_R_rows s_R_cells s_U_rows s_U_cells s_S_rows s_S_cells s_T_rows s_T_cells o5.1 o5.2)) (c_X6_get l hG D c9 (fun k => ad ([5, 6].getD k 0)) 18 3 RX3 rfl layc_X3 6 3 s_S_rows s_S_cells o2 2 ho6) 2 (gU wc_250 wc_251 wc_252 wc_34 wc_35 wc_36) rfl rfl rfl rfl pd_X6_get_UX5_giveCheese_112 ⟨Nat.le_of_ble_eq_true rfl, Nat.le_of_ble_eq_true rfl⟩ 5 rfl rfl rfl rfl (Nat.le_of_ble_eq_true rfl) ⟨Nat.zero_le _, Nat.zero_le _⟩ [5, 6] [0, 1, 2, 3, 4, 7, 8, 9, 10] [0, 1, 2, 3, 4, 9, 10, 5, 6, 7, 8] rfl rfl rfl rfl dX5_giveCheese_72 75 rfl ?_
  refine v_iconst X dX5_giveCheese_75 ic_1 76 rfl ?_
  refine v_isub X dX5_giveCheese_76 77 rfl ?_
  obtain ⟨o7, ho7, hf⟩ := bnd hf
  refine v_callUv X (ci := 3) (T := TX3) (C := RX3) (owner := "TicketGate$Table") (As := [.int o2, .int 2, .int (o6 - 1)]) (rest := []) (ws' := (wX5 ad c9 s_time s_tolerance s_seed s_madeTickets s_cheesesOfText s_R_rows s_R_cells s_U_rows s_U_cells s_S_rows o7 s_T_rows s_T_cells o5.1 o5.2)) (c_X6_set l hG D c9 (fun k => ad ([5, 6].getD k 0)) 18 3 RX3 rfl layc_X3 6 3 s_S_rows s_S_cells o2 2 (o6 - 1) ho7) 3 (gU wc_297 wc_85 wc_86 wc_54 wc_35 wc_55) rfl rfl rfl rfl pd_X6_set_UX5_giveCheese_148 ⟨Nat.le_of_ble_eq_true rfl, Nat.le_of_ble_eq_true rfl⟩ 5 rfl rfl rfl rfl (Nat.le_of_ble_eq_true rfl) ⟨Nat.zero_le _, Nat.zero_le _⟩ [5, 6] [0, 1, 2, 3, 4, 7, 8, 9, 10] [0, 1, 2, 3, 4, 9, 10, 5, 6, 7, 8] rfl rfl rfl rfl dX5_giveCheese_77 80 rfl ?_
  refine v_aload_n X dX5_giveCheese_80 3 rfl rfl 81 rfl ?_
  refine v_get X (C := RX5) (T := TX5) (N := 10) (ci := 5) (v := _) dX5_giveCheese_81 (lay_of layc_X5) 0 rfl rfl 1 (by decide) (mw wc_176) rfl rfl 84 rfl ?_
  refine v_iload_n X dX5_giveCheese_84 2 rfl rfl 85 rfl ?_
  refine v_iconst X dX5_giveCheese_85 ic_4 86 rfl ?_
  refine v_iload X dX5_giveCheese_86 0 rfl 88 rfl ?_
  obtain ⟨o8, ho8, hf⟩ := bnd hf
  refine v_callUv X (ci := 7) (T := TX8) (C := RX8) (owner := "TicketGate$Table") (As := [.int o1, .int 4, .int (o3 + 1)]) (rest := []) (ws' := (wX5 ad c9 s_time s_tolerance s_seed s_madeTickets s_cheesesOfText s_R_rows s_R_cells s_U_rows o8 s_S_rows o7 s_T_rows s_T_cells o5.1 o5.2)) (c_X6_set l hG D c9 (fun k => ad ([3, 4].getD k 0)) 30 7 RX8 rfl layc_X8 6 5 s_U_rows s_U_cells o1 4 (o3 + 1) ho8) 3 (gU wc_298 wc_115 wc_116 wc_54 wc_35 wc_55) rfl rfl rfl rfl pd_X6_set_UX5_giveCheese_149 ⟨Nat.le_of_ble_eq_true rfl, Nat.le_of_ble_eq_true rfl⟩ 3 rfl rfl rfl rfl (Nat.le_of_ble_eq_true rfl) ⟨Nat.zero_le _, Nat.zero_le _⟩ [3, 4] [0, 1, 2, 5, 6, 7, 8, 9, 10] [0, 1, 2, 9, 10, 3, 4, 5, 6, 7, 8] rfl rfl rfl rfl dX5_giveCheese_88 91 rfl ?_
  refine v_iload X dX5_giveCheese_91 0 rfl 93 rfl ?_
  obtain rfl := Option.some.inj hf
  exact v_iret X (Nat.zero_le _) (Nat.zero_le _) dX5_giveCheese_93
theorem pd_X5_giveCheese : yX5_giveCheese.cls ≠ "java/lang/invoke/MethodHandle" ∧ yX5_giveCheese.cls ≠ "java/lang/invoke/VarHandle" ∧ (parseMethodDescriptor yX5_giveCheese.desc).map (fun d => d.parameters.length) = some 1 := by decide +kernel
def f_X5_letPass (s_time : Int32) (s_tolerance : Int32) (s_E_rows : Int32) (s_E_cells : Nat → Int32) (v1 : Int32) : Option (Int32 × Int32 × (Nat → Int32)) :=
  (f_X9_forgetBefore s_E_rows s_E_cells ((s_time + v1) - s_tolerance)).bind fun o1 =>
  some ((s_time + v1), o1.1, o1.2)
set_option maxRecDepth 100000 in
set_option maxHeartbeats 4000000 in
theorem c_X5_letPass (l : Launch) {G : (Nat → Prop) → State → Heap → Prop} (hG : vG G) (D : va_G) (c9 : Nat → ClassId) (ad : Nat → Nat) (s_time : Int32) (s_tolerance : Int32) (s_seed : Int32) (s_madeTickets : Int32) (s_cheesesOfText : Int32) (s_R_rows : Int32) (s_R_cells : Nat → Int32) (s_U_rows : Int32) (s_U_cells : Nat → Int32) (s_S_rows : Int32) (s_S_cells : Nat → Int32) (s_T_rows : Int32) (s_T_cells : Nat → Int32) (s_E_rows : Int32) (s_E_cells : Nat → Int32) (v1 : Int32) {o : Int32 × Int32 × (Nat → Int32)} (hf : f_X5_letPass s_time s_tolerance s_E_rows s_E_cells v1 = some o) : mV l yX5_letPass (wq yX5_letPass cX5_letPass 2 none) { frames := 2, cells := 0, slots := 0, locals := 46 } G D (tyA c9) [.ref (ad 0), .int v1] (wX5 ad c9 s_time s_tolerance s_seed s_madeTickets s_cheesesOfText s_R_rows s_R_cells s_U_rows s_U_cells s_S_rows s_S_cells s_T_rows s_T_cells s_E_rows s_E_cells) [] 0 0 (wX5 ad c9 o.1 s_tolerance s_seed s_madeTickets s_cheesesOfText s_R_rows s_R_cells s_U_rows s_U_cells s_S_rows s_S_cells s_T_rows s_T_cells o.2.1 o.2.2) := by
  refine mV_of hG (cc := cX5_letPass) (maxL := 2) (by decide) rfl (Nat.le_of_ble_eq_true rfl) ?_
  intro p e s m args below meth c A hnm X
  have X : vX p s m args meth c cX5_letPass 2 none RX5 (wq yX5_letPass cX5_letPass 2 none) D (tyA c9) G A := X
  refine v_eq (lv2 := [(0, .ref (ad 0)), (1, .int v1)]) rfl rfl rfl rfl ?_
  rw [f_X5_letPass] at hf
  refine v_aload_n X dX5_letPass_0 0 rfl rfl 1 rfl ?_
  refine v_dup X dX5_letPass_1 rfl 2 rfl ?_
  refine v_get X (C := RX5) (T := TX5) (N := 10) (ci := 5) (v := _) dX5_letPass_2 (lay_of layc_X5) 0 rfl rfl 5 (by decide) (mw wc_192) rfl rfl 5 rfl ?_
  refine v_iload_n X dX5_letPass_5 1 rfl rfl 6 rfl ?_
  refine v_iadd X dX5_letPass_6 7 rfl ?_
  refine v_put X (C := RX5) (T := TX5) (N := 10) (ci := 5) (ty := tyX5 5) (ws' := (wX5 ad c9 (s_time + v1) s_tolerance s_seed s_madeTickets s_cheesesOfText s_R_rows s_R_cells s_U_rows s_U_cells s_S_rows s_S_cells s_T_rows s_T_cells s_E_rows s_E_cells)) dX5_letPass_7 (lay_of layc_X5) 0 rfl rfl 5 (by decide) tyX5 tyX5_ok nmX5 (mw wc_192) rfl rfl (tyX5_ok 5 (by decide)) rfl rfl (Nat.le_of_ble_eq_true rfl) rfl 10 rfl ?_
  refine v_aload_n X dX5_letPass_10 0 rfl rfl 11 rfl ?_
  refine v_get X (C := RX5) (T := TX5) (N := 10) (ci := 5) (v := _) dX5_letPass_11 (lay_of layc_X5) 0 rfl rfl 4 (by decide) (mw wc_188) rfl rfl 14 rfl ?_
  refine v_aload_n X dX5_letPass_14 0 rfl rfl 15 rfl ?_
  refine v_get X (C := RX5) (T := TX5) (N := 10) (ci := 5) (v := _) dX5_letPass_15 (lay_of layc_X5) 0 rfl rfl 5 (by decide) (mw wc_192) rfl rfl 18 rfl ?_
  refine v_aload_n X dX5_letPass_18 0 rfl rfl 19 rfl ?_
  refine v_get X (C := RX5) (T := TX5) (N := 10) (ci := 5) (v := _) dX5_letPass_19 (lay_of layc_X5) 0 rfl rfl 6 (by decide) (mw wc_193) rfl rfl 22 rfl ?_
  refine v_isub X dX5_letPass_22 23 rfl ?_
  obtain ⟨o1, ho1, hf⟩ := bnd hf
  refine v_callVv X (ci := 8) (T := TX9) (C := RX9) (As := [.int ((s_time + v1) - s_tolerance)]) (rest := []) (ws' := (wX5 ad c9 (s_time + v1) s_tolerance s_seed s_madeTickets s_cheesesOfText s_R_rows s_R_cells s_U_rows s_U_cells s_S_rows s_S_cells s_T_rows s_T_cells o1.1 o1.2)) (c_X9_forgetBefore l hG D c9 (fun k => ad ([9, 10].getD k 0)) s_E_rows s_E_cells ((s_time + v1) - s_tolerance) ho1) 1 (gV wc_299 wc_300 wc_301 wc_265 wc_302) rfl rfl rfl ⟨rfl, pd_X9_forgetBefore⟩ ⟨Nat.le_of_ble_eq_true rfl, Nat.le_of_ble_eq_true rfl⟩ 9 rfl rfl rfl rfl (Nat.le_of_ble_eq_true rfl) ⟨Nat.zero_le _, Nat.zero_le _⟩ [9, 10] [0, 1, 2, 3, 4, 5, 6, 7, 8] [0, 1, 2, 3, 4, 5, 6, 7, 8, 9, 10] rfl rfl rfl rfl dX5_letPass_23 26 rfl ?_
  obtain rfl := Option.some.inj hf
  exact v_vret X (Nat.zero_le _) (Nat.zero_le _) dX5_letPass_26
theorem pd_X5_letPass : yX5_letPass.cls ≠ "java/lang/invoke/MethodHandle" ∧ yX5_letPass.cls ≠ "java/lang/invoke/VarHandle" ∧ (parseMethodDescriptor yX5_letPass.desc).map (fun d => d.parameters.length) = some 1 := by decide +kernel
def f_X1_take (p_start : Int32) (p_end : Int32) (p_kind : Int32) (p_value : Int32) (p_error : Int32) (p_t_count : Int32) (p_t_cells : Nat → Int32) : Option (Int32 × Int32 × Int32 × Int32 × Int32) :=
  if p_error = 0 then (
    (f_X0_endOfBlanks 600 p_t_count p_t_cells p_end).bind fun o1 =>
    (f_X0_at 600 p_t_count p_t_cells o1).bind fun o2 =>
    if o2 = (-1) then (
      some (p_value, o1, o1, 0, 0))
    else (
      if o2 < 97 then (
        if o2 < 48 then (
          some (p_value, o1, (o1 + 1), 3, o2))
        else (
          if 57 < o2 then (
            some (p_value, o1, (o1 + 1), 3, o2))
          else (
            (f_X0_endOfRun 600 p_t_count p_t_cells o1 48 57).bind fun o3 =>
            (f_X0_numberBetween 600 p_t_count p_t_cells o1 o3).bind fun o4 =>
            some (p_value, o1, o3, 2, o4))))
      else (
        if 122 < o2 then (
          if o2 < 48 then (
            some (p_value, o1, (o1 + 1), 3, o2))
          else (
            if 57 < o2 then (
              some (p_value, o1, (o1 + 1), 3, o2))
            else (
              (f_X0_endOfRun 600 p_t_count p_t_cells o1 48 57).bind fun o5 =>
              (f_X0_numberBetween 600 p_t_count p_t_cells o1 o5).bind fun o6 =>
              some (p_value, o1, o5, 2, o6))))
        else (
          (f_X0_endOfRun 600 p_t_count p_t_cells o1 97 122).bind fun o7 =>
          (f_X0_nameBetween 600 p_t_count p_t_cells o1 o7).bind fun o8 =>
          some (p_value, o1, o7, 1, o8)))))
  else (
    some (p_value, p_start, p_end, p_kind, p_value))
set_option maxRecDepth 100000 in
set_option maxHeartbeats 4000000 in
theorem c_X1_take (l : Launch) {G : (Nat → Prop) → State → Heap → Prop} (hG : vG G) (D : va_G) (c9 : Nat → ClassId) (ad : Nat → Nat) (p_start : Int32) (p_end : Int32) (p_kind : Int32) (p_value : Int32) (p_error : Int32) (p_errorAt : Int32) (p_t_count : Int32) (p_t_cells : Nat → Int32) (p_d_time : Int32) (p_d_tolerance : Int32) (p_d_seed : Int32) (p_d_madeTickets : Int32) (p_d_cheesesOfText : Int32) (p_d_R_rows : Int32) (p_d_R_cells : Nat → Int32) (p_d_U_rows : Int32) (p_d_U_cells : Nat → Int32) (p_d_S_rows : Int32) (p_d_S_cells : Nat → Int32) (p_d_T_rows : Int32) (p_d_T_cells : Nat → Int32) (p_d_E_rows : Int32) (p_d_E_cells : Nat → Int32)  {o : Int32 × Int32 × Int32 × Int32 × Int32} (hf : f_X1_take p_start p_end p_kind p_value p_error p_t_count p_t_cells = some o) : mI l yX1_take (wq yX1_take cX1_take 3 (some .int)) { frames := 2, cells := 0, slots := 0, locals := 64 } G D (tyA c9) [.ref (ad 0)] (wX1 ad c9 p_start p_end p_kind p_value p_error p_errorAt p_t_count p_t_cells p_d_time p_d_tolerance p_d_seed p_d_madeTickets p_d_cheesesOfText p_d_R_rows p_d_R_cells p_d_U_rows p_d_U_cells p_d_S_rows p_d_S_cells p_d_T_rows p_d_T_cells p_d_E_rows p_d_E_cells) [] 0 0 o.1 (wX1 ad c9 o.2.1 o.2.2.1 o.2.2.2.1 o.2.2.2.2 p_error p_errorAt p_t_count p_t_cells p_d_time p_d_tolerance p_d_seed p_d_madeTickets p_d_cheesesOfText p_d_R_rows p_d_R_cells p_d_U_rows p_d_U_cells p_d_S_rows p_d_S_cells p_d_T_rows p_d_T_cells p_d_E_rows p_d_E_cells) := by
  refine mI_of hG (cc := cX1_take) (maxL := 3) (ty := .int) (by decide) rfl (Nat.le_of_ble_eq_true rfl) ?_
  intro p e s m args below meth c A X
  have X : vX p s m args meth c cX1_take 3 (some .int) RX1 (wq yX1_take cX1_take 3 (some .int)) D (tyA c9) G A := X
  refine v_eq (lv2 := [(0, .ref (ad 0))]) rfl rfl rfl rfl ?_
  rw [f_X1_take] at hf
  refine v_aload_n X dX1_take_0 0 rfl rfl 1 rfl ?_
  refine v_get X (C := RX1) (T := TX1) (N := 8) (ci := 1) (v := _) dX1_take_1 (lay_of layc_X1) 0 rfl rfl 5 (by decide) (mw wc_311) rfl rfl 4 rfl ?_
  refine v_istore_n X (lv' := [(1, .int p_value), (0, .ref (ad 0))]) dX1_take_4 rfl (by decide) rfl 5 rfl ?_
  refine v_aload_n X dX1_take_5 1 rfl rfl 6 rfl ?_
  refine v_get X (C := RX1) (T := TX1) (N := 8) (ci := 1) (v := _) dX1_take_6 (lay_of layc_X1) 0 rfl rfl 6 (by decide) (mw wc_312) rfl rfl 9 rfl ?_
  refine v_if_eq X (tgt := 14) dX1_take_9 rfl 12 rfl hf (fun hf => ?_) (fun hf => ?_)
  · refine v_aload_n X dX1_take_14 1 rfl rfl 15 rfl ?_
    refine v_aload_n X dX1_take_15 1 rfl rfl 16 rfl ?_
    refine v_get X (C := RX1) (T := TX1) (N := 8) (ci := 1) (v := _) dX1_take_16 (lay_of layc_X1) 0 rfl rfl 0 (by decide) (mw wc_313) rfl rfl 19 rfl ?_
    refine v_aload_n X dX1_take_19 1 rfl rfl 20 rfl ?_
    refine v_get X (C := RX1) (T := TX1) (N := 8) (ci := 1) (v := _) dX1_take_20 (lay_of layc_X1) 0 rfl rfl 3 (by decide) (mw wc_314) rfl rfl 23 rfl ?_
    obtain ⟨o1, ho1, hf⟩ := bnd hf
    refine v_callVi X (ci := 0) (T := TX0) (C := RX0) (As := [.int p_end]) (rest := [.ref (ad 0)]) (ws' := (wX1 ad c9 p_start p_end p_kind p_value p_error p_errorAt p_t_count p_t_cells p_d_time p_d_tolerance p_d_seed p_d_madeTickets p_d_cheesesOfText p_d_R_rows p_d_R_cells p_d_U_rows p_d_U_cells p_d_S_rows p_d_S_cells p_d_T_rows p_d_T_cells p_d_E_rows p_d_E_cells)) (c_X0_endOfBlanks l hG D c9 (fun k => ad ([1, 2].getD k 0)) 600 p_t_count p_t_cells p_end ho1) 1 (gV wc_315 wc_316 wc_317 wc_7 wc_318) rfl rfl rfl ⟨rfl, pd_X0_endOfBlanks⟩ ⟨Nat.le_of_ble_eq_true rfl, Nat.le_of_ble_eq_true rfl⟩ 1 rfl rfl rfl rfl (Nat.le_of_ble_eq_true rfl) ⟨Nat.zero_le _, Nat.zero_le _⟩ [1, 2] [0, 3, 4, 5, 6, 7, 8, 9, 10, 11, 12, 13] [0, 12, 13, 1, 2, 3, 4, 5, 6, 7, 8, 9, 10, 11] rfl rfl rfl rfl dX1_take_23 26 rfl ?_
    refine v_put X (C := RX1) (T := TX1) (N := 8) (ci := 1) (ty := tyX1 2) (ws' := (wX1 ad c9 o1 p_end p_kind p_value p_error p_errorAt p_t_count p_t_cells p_d_time p_d_tolerance p_d_seed p_d_madeTickets p_d_cheesesOfText p_d_R_rows p_d_R_cells p_d_U_rows p_d_U_cells p_d_S_rows p_d_S_cells p_d_T_rows p_d_T_cells p_d_E_rows p_d_E_cells)) dX1_take_26 (lay_of layc_X1) 0 rfl rfl 2 (by decide) tyX1 tyX1_ok nmX1 (mw wc_319) rfl rfl (tyX1_ok 2 (by decide)) rfl rfl (Nat.le_of_ble_eq_true rfl) rfl 29 rfl ?_
    refine v_aload_n X dX1_take_29 1 rfl rfl 30 rfl ?_
    refine v_get X (C := RX1) (T := TX1) (N := 8) (ci := 1) (v := _) dX1_take_30 (lay_of layc_X1) 0 rfl rfl 0 (by decide) (mw wc_313) rfl rfl 33 rfl ?_
    refine v_aload_n X dX1_take_33 1 rfl rfl 34 rfl ?_
    refine v_get X (C := RX1) (T := TX1) (N := 8) (ci := 1) (v := _) dX1_take_34 (lay_of layc_X1) 0 rfl rfl 2 (by decide) (mw wc_319) rfl rfl 37 rfl ?_
    obtain ⟨o2, ho2, hf⟩ := bnd hf
    refine v_callVi X (ci := 0) (T := TX0) (C := RX0) (As := [.int o1]) (rest := []) (ws' := (wX1 ad c9 o1 p_end p_kind p_value p_error p_errorAt p_t_count p_t_cells p_d_time p_d_tolerance p_d_seed p_d_madeTickets p_d_cheesesOfText p_d_R_rows p_d_R_cells p_d_U_rows p_d_U_cells p_d_S_rows p_d_S_cells p_d_T_rows p_d_T_cells p_d_E_rows p_d_E_cells)) (c_X0_at l hG D c9 (fun k => ad ([1, 2].getD k 0)) 600 p_t_count p_t_cells o1 ho2) 1 (gV wc_320 wc_20 wc_21 wc_7 wc_22) rfl rfl rfl ⟨rfl, pd_X0_at⟩ ⟨Nat.le_of_ble_eq_true rfl, Nat.le_of_ble_eq_true rfl⟩ 1 rfl rfl rfl rfl (Nat.le_of_ble_eq_true rfl) ⟨Nat.zero_le _, Nat.zero_le _⟩ [1, 2] [0, 3, 4, 5, 6, 7, 8, 9, 10, 11, 12, 13] [0, 12, 13, 1, 2, 3, 4, 5, 6, 7, 8, 9, 10, 11] rfl rfl rfl rfl dX1_take_37 40 rfl ?_
    refine v_istore_n X (lv' := [(2, .int o2), (1, .int p_value), (0, .ref (ad 0))]) dX1_take_40 rfl (by decide) rfl 41 rfl ?_
    refine v_iload_n X dX1_take_41 0 rfl rfl 42 rfl ?_
    refine v_iconst X dX1_take_42 ic_m1 43 rfl ?_
    refine v_icmp_ne X (tgt := 67) dX1_take_43 rfl 46 rfl hf (fun hf => ?_) (fun hf => ?_)
    · refine v_iload_n X dX1_take_67 0 rfl rfl 68 rfl ?_
      refine v_bipush X dX1_take_68 bp_97 70 rfl ?_
      refine v_icmp_lt X (tgt := 125) dX1_take_70 rfl 73 rfl hf (fun hf => ?_) (fun hf => ?_)
      · refine v_iload_n X dX1_take_125 0 rfl rfl 126 rfl ?_
        refine v_bipush X dX1_take_126 bp_48 128 rfl ?_
        refine v_icmp_lt X (tgt := 183) dX1_take_128 rfl 131 rfl hf (fun hf => ?_) (fun hf => ?_)
        · refine v_aload_n X dX1_take_183 2 rfl rfl 184 rfl ?_
          refine v_iconst X dX1_take_184 ic_3 185 rfl ?_
          refine v_put X (C := RX1) (T := TX1) (N := 8) (ci := 1) (ty := tyX1 4) (ws' := (wX1 ad c9 o1 p_end 3 p_value p_error p_errorAt p_t_count p_t_cells p_d_time p_d_tolerance p_d_seed p_d_madeTickets p_d_cheesesOfText p_d_R_rows p_d_R_cells p_d_U_rows p_d_U_cells p_d_S_rows p_d_S_cells p_d_T_rows p_d_T_cells p_d_E_rows p_d_E_cells)) dX1_take_185 (lay_of layc_X1) 0 rfl rfl 4 (by decide) tyX1 tyX1_ok nmX1 (mw wc_321) rfl rfl (tyX1_ok 4 (by decide)) rfl rfl (Nat.le_of_ble_eq_true rfl) rfl 188 rfl ?_
          refine v_aload_n X dX1_take_188 2 rfl rfl 189 rfl ?_
          refine v_aload_n X dX1_take_189 2 rfl rfl 190 rfl ?_
          refine v_get X (C := RX1) (T := TX1) (N := 8) (ci := 1) (v := _) dX1_take_190 (lay_of layc_X1) 0 rfl rfl 2 (by decide) (mw wc_319) rfl rfl 193 rfl ?_
          refine v_iconst X dX1_take_193 ic_1 194 rfl ?_
          refine v_iadd X dX1_take_194 195 rfl ?_
          refine v_put X (C := RX1) (T := TX1) (N := 8) (ci := 1) (ty := tyX1 3) (ws' := (wX1 ad c9 o1 (o1 + 1) 3 p_value p_error p_errorAt p_t_count p_t_cells p_d_time p_d_tolerance p_d_seed p_d_madeTickets p_d_cheesesOfText p_d_R_rows p_d_R_cells p_d_U_rows p_d_U_cells p_d_S_rows p_d_S_cells p_d_T_rows p_d_T_cells p_d_E_rows p_d_E_cells)) dX1_take_195 (lay_of layc_X1) 0 rfl rfl 3 (by decide) tyX1 tyX1_ok nmX1 (mw wc_314) rfl rfl (tyX1_ok 3 (by decide)) rfl rfl (Nat.le_of_ble_eq_true rfl) rfl 198 rfl ?_
          refine v_aload_n X dX1_take_198 2 rfl rfl 199 rfl ?_
          refine v_iload_n X dX1_take_199 0 rfl rfl 200 rfl ?_
          refine v_put X (C := RX1) (T := TX1) (N := 8) (ci := 1) (ty := tyX1 5) (ws' := (wX1 ad c9 o1 (o1 + 1) 3 o2 p_error p_errorAt p_t_count p_t_cells p_d_time p_d_tolerance p_d_seed p_d_madeTickets p_d_cheesesOfText p_d_R_rows p_d_R_cells p_d_U_rows p_d_U_cells p_d_S_rows p_d_S_cells p_d_T_rows p_d_T_cells p_d_E_rows p_d_E_cells)) dX1_take_200 (lay_of layc_X1) 0 rfl rfl 5 (by decide) tyX1 tyX1_ok nmX1 (mw wc_311) rfl rfl (tyX1_ok 5 (by decide)) rfl rfl (Nat.le_of_ble_eq_true rfl) rfl 203 rfl ?_
          refine v_iload_n X dX1_take_203 1 rfl rfl 204 rfl ?_
          obtain rfl := Option.some.inj hf
          exact v_iret X (Nat.zero_le _) (Nat.zero_le _) dX1_take_204
        · refine v_iload_n X dX1_take_131 0 rfl rfl 132 rfl ?_
          refine v_bipush X dX1_take_132 bp_57 134 rfl ?_
          refine v_icmp_gt X (tgt := 183) dX1_take_134 rfl 137 rfl hf (fun hf => ?_) (fun hf => ?_)
          · refine v_aload_n X dX1_take_183 2 rfl rfl 184 rfl ?_
            refine v_iconst X dX1_take_184 ic_3 185 rfl ?_
            refine v_put X (C := RX1) (T := TX1) (N := 8) (ci := 1) (ty := tyX1 4) (ws' := (wX1 ad c9 o1 p_end 3 p_value p_error p_errorAt p_t_count p_t_cells p_d_time p_d_tolerance p_d_seed p_d_madeTickets p_d_cheesesOfText p_d_R_rows p_d_R_cells p_d_U_rows p_d_U_cells p_d_S_rows p_d_S_cells p_d_T_rows p_d_T_cells p_d_E_rows p_d_E_cells)) dX1_take_185 (lay_of layc_X1) 0 rfl rfl 4 (by decide) tyX1 tyX1_ok nmX1 (mw wc_321) rfl rfl (tyX1_ok 4 (by decide)) rfl rfl (Nat.le_of_ble_eq_true rfl) rfl 188 rfl ?_
            refine v_aload_n X dX1_take_188 2 rfl rfl 189 rfl ?_
            refine v_aload_n X dX1_take_189 2 rfl rfl 190 rfl ?_
            refine v_get X (C := RX1) (T := TX1) (N := 8) (ci := 1) (v := _) dX1_take_190 (lay_of layc_X1) 0 rfl rfl 2 (by decide) (mw wc_319) rfl rfl 193 rfl ?_
            refine v_iconst X dX1_take_193 ic_1 194 rfl ?_
            refine v_iadd X dX1_take_194 195 rfl ?_
            refine v_put X (C := RX1) (T := TX1) (N := 8) (ci := 1) (ty := tyX1 3) (ws' := (wX1 ad c9 o1 (o1 + 1) 3 p_value p_error p_errorAt p_t_count p_t_cells p_d_time p_d_tolerance p_d_seed p_d_madeTickets p_d_cheesesOfText p_d_R_rows p_d_R_cells p_d_U_rows p_d_U_cells p_d_S_rows p_d_S_cells p_d_T_rows p_d_T_cells p_d_E_rows p_d_E_cells)) dX1_take_195 (lay_of layc_X1) 0 rfl rfl 3 (by decide) tyX1 tyX1_ok nmX1 (mw wc_314) rfl rfl (tyX1_ok 3 (by decide)) rfl rfl (Nat.le_of_ble_eq_true rfl) rfl 198 rfl ?_
            refine v_aload_n X dX1_take_198 2 rfl rfl 199 rfl ?_
            refine v_iload_n X dX1_take_199 0 rfl rfl 200 rfl ?_
            refine v_put X (C := RX1) (T := TX1) (N := 8) (ci := 1) (ty := tyX1 5) (ws' := (wX1 ad c9 o1 (o1 + 1) 3 o2 p_error p_errorAt p_t_count p_t_cells p_d_time p_d_tolerance p_d_seed p_d_madeTickets p_d_cheesesOfText p_d_R_rows p_d_R_cells p_d_U_rows p_d_U_cells p_d_S_rows p_d_S_cells p_d_T_rows p_d_T_cells p_d_E_rows p_d_E_cells)) dX1_take_200 (lay_of layc_X1) 0 rfl rfl 5 (by decide) tyX1 tyX1_ok nmX1 (mw wc_311) rfl rfl (tyX1_ok 5 (by decide)) rfl rfl (Nat.le_of_ble_eq_true rfl) rfl 203 rfl ?_
            refine v_iload_n X dX1_take_203 1 rfl rfl 204 rfl ?_
            obtain rfl := Option.some.inj hf
            exact v_iret X (Nat.zero_le _) (Nat.zero_le _) dX1_take_204
          · refine v_aload_n X dX1_take_137 2 rfl rfl 138 rfl ?_
            refine v_iconst X dX1_take_138 ic_2 139 rfl ?_
            refine v_put X (C := RX1) (T := TX1) (N := 8) (ci := 1) (ty := tyX1 4) (ws' := (wX1 ad c9 o1 p_end 2 p_value p_error p_errorAt p_t_count p_t_cells p_d_time p_d_tolerance p_d_seed p_d_madeTickets p_d_cheesesOfText p_d_R_rows p_d_R_cells p_d_U_rows p_d_U_cells p_d_S_rows p_d_S_cells p_d_T_rows p_d_T_cells p_d_E_rows p_d_E_cells)) dX1_take_139 (lay_of layc_X1) 0 rfl rfl 4 (by decide) tyX1 tyX1_ok nmX1 (mw wc_321) rfl rfl (tyX1_ok 4 (by decide)) rfl rfl (Nat.le_of_ble_eq_true rfl) rfl 142 rfl ?_
            refine v_aload_n X dX1_take_142 2 rfl rfl 143 rfl ?_
            refine v_aload_n X dX1_take_143 2 rfl rfl 144 rfl ?_
            refine v_get X (C := RX1) (T := TX1) (N := 8) (ci := 1) (v := _) dX1_take_144 (lay_of layc_X1) 0 rfl rfl 0 (by decide) (mw wc_313) rfl rfl 147 rfl ?_
            refine v_aload_n X dX1_take_147 2 rfl rfl 148 rfl ?_
            refine v_get X (C := RX1) (T := TX1) (N := 8) (ci := 1) (v := _) dX1_take_148 (lay_of layc_X1) 0 rfl rfl 2 (by decide) (mw wc_319) rfl rfl 151 rfl ?_
            refine v_bipush X dX1_take_151 bp_48 153 rfl ?_
            refine v_bipush X dX1_take_153 bp_57 155 rfl ?_
            obtain ⟨o3, ho3, hf⟩ := bnd hf
            refine v_callVi X (ci := 0) (T := TX0) (C := RX0) (As := [.int o1, .int 48, .int 57]) (rest := [.ref (ad 0)]) (ws' := (wX1 ad c9 o1 p_end 2 p_value p_error p_errorAt p_t_count p_t_cells p_d_time p_d_tolerance p_d_seed p_d_madeTickets p_d_cheesesOfText p_d_R_rows p_d_R_cells p_d_U_rows p_d_U_cells p_d_S_rows p_d_S_cells p_d_T_rows p_d_T_cells p_d_E_rows p_d_E_cells)) (c_X0_endOfRun l hG D c9 (fun k => ad ([1, 2].getD k 0)) 600 p_t_count p_t_cells o1 48 57 ho3) 3 (gV wc_322 wc_323 wc_324 wc_7 wc_325) rfl rfl rfl ⟨rfl, pd_X0_endOfRun⟩ ⟨Nat.le_of_ble_eq_true rfl, Nat.le_of_ble_eq_true rfl⟩ 1 rfl rfl rfl rfl (Nat.le_of_ble_eq_true rfl) ⟨Nat.zero_le _, Nat.zero_le _⟩ [1, 2] [0, 3, 4, 5, 6, 7, 8, 9, 10, 11, 12, 13] [0, 12, 13, 1, 2, 3, 4, 5, 6, 7, 8, 9, 10, 11] rfl rfl rfl rfl dX1_take_155 158 rfl ?_
            refine v_put X (C := RX1) (T := TX1) (N := 8) (ci := 1) (ty := tyX1 3) (ws' := (wX1 ad c9 o1 o3 2 p_value p_error p_errorAt p_t_count p_t_cells p_d_time p_d_tolerance p_d_seed p_d_madeTickets p_d_cheesesOfText p_d_R_rows p_d_R_cells p_d_U_rows p_d_U_cells p_d_S_rows p_d_S_cells p_d_T_rows p_d_T_cells p_d_E_rows p_d_E_cells)) dX1_take_158 (lay_of layc_X1) 0 rfl rfl 3 (by decide) tyX1 tyX1_ok nmX1 (mw wc_314) rfl rfl (tyX1_ok 3 (by decide)) rfl rfl (Nat.le_of_ble_eq_true rfl) rfl 161 rfl ?_
            refine v_aload_n X dX1_take_161 2 rfl rfl 162 rfl ?_
            refine v_aload_n X dX1_take_162 2 rfl rfl 163 rfl ?_
            refine v_get X (C := RX1) (T := TX1) (N := 8) (ci := 1) (v := _) dX1_take_163 (lay_of layc_X1) 0 rfl rfl 0 (by decide) (mw wc_313) rfl rfl 166 rfl ?_
            refine v_aload_n X dX1_take_166 2 rfl rfl 167 rfl ?_
            refine v_get X (C := RX1) (T := TX1) (N := 8) (ci := 1) (v := _) dX1_take_167 (lay_of layc_X1) 0 rfl rfl 2 (by decide) (mw wc_319) rfl rfl 170 rfl ?_
            refine v_aload_n X dX1_take_170 2 rfl rfl 171 rfl ?_
            refine v_get X (C := RX1) (T := TX1) (N := 8) (ci := 1) (v := _) dX1_take_171 (lay_of layc_X1) 0 rfl rfl 3 (by decide) (mw wc_314) rfl rfl 174 rfl ?_
            obtain ⟨o4, ho4, hf⟩ := bnd hf
            refine v_callVi X (ci := 0) (T := TX0) (C := RX0) (As := [.int o1, .int o3]) (rest := [.ref (ad 0)]) (ws' := (wX1 ad c9 o1 o3 2 p_value p_error p_errorAt p_t_count p_t_cells p_d_time p_d_tolerance p_d_seed p_d_madeTickets p_d_cheesesOfText p_d_R_rows p_d_R_cells p_d_U_rows p_d_U_cells p_d_S_rows p_d_S_cells p_d_T_rows p_d_T_cells p_d_E_rows p_d_E_cells)) (c_X0_numberBetween l hG D c9 (fun k => ad ([1, 2].getD k 0)) 600 p_t_count p_t_cells o1 o3 ho4) 2 (gV wc_326 wc_327 wc_328 wc_7 wc_329) rfl rfl rfl ⟨rfl, pd_X0_numberBetween⟩ ⟨Nat.le_of_ble_eq_true rfl, Nat.le_of_ble_eq_true rfl⟩ 1 rfl rfl rfl rfl (Nat.le_of_ble_eq_true rfl) ⟨Nat.zero_le _, Nat.zero_le _⟩ [1, 2] [0, 3, 4, 5, 6, 7, 8, 9, 10, 11, 12, 13] [0, 12, 13, 1, 2, 3, 4, 5, 6, 7, 8, 9, 10, 11] rfl rfl rfl rfl dX1_take_174 177 rfl ?_
            refine v_put X (C := RX1) (T := TX1) (N := 8) (ci := 1) (ty := tyX1 5) (ws' := (wX1 ad c9 o1 o3 2 o4 p_error p_errorAt p_t_count p_t_cells p_d_time p_d_tolerance p_d_seed p_d_madeTickets p_d_cheesesOfText p_d_R_rows p_d_R_cells p_d_U_rows p_d_U_cells p_d_S_rows p_d_S_cells p_d_T_rows p_d_T_cells p_d_E_rows p_d_E_cells)) dX1_take_177 (lay_of layc_X1) 0 rfl rfl 5 (by decide) tyX1 tyX1_ok nmX1 (mw wc_311) rfl rfl (tyX1_ok 5 (by decide)) rfl rfl (Nat.le_of_ble_eq_true rfl) rfl 180 rfl ?_
            refine v_goto X (tgt := 203) dX1_take_180 rfl ?_
            refine v_iload_n X dX1_take_203 1 rfl rfl 204 rfl ?_
            obtain rfl := Option.some.inj hf
            exact v_iret X (Nat.zero_le _) (Nat.zero_le _) dX1_take_204
      · refine v_iload_n X dX1_take_73 0 rfl rfl 74 rfl ?_
        refine v_bipush X dX1_take_74 bp_122 76 rfl ?_
        refine v_icmp_gt X (tgt := 125) dX1_take_76 rfl 79 rfl hf (fun hf => ?_) (fun hf => ?_)
        · refine v_iload_n X dX1_take_125 0 rfl rfl 126 rfl ?_
          refine v_bipush X dX1_take_126 bp_48 128 rfl ?_
          refine v_icmp_lt X (tgt := 183) dX1_take_128 rfl 131 rfl hf (fun hf => ?_) (fun hf => ?_)
          · refine v_aload_n X dX1_take_183 2 rfl rfl 184 rfl ?_
            refine v_iconst X dX1_take_184 ic_3 185 rfl ?_
            refine v_put X (C := RX1) (T := TX1) (N := 8) (ci := 1) (ty := tyX1 4) (ws' := (wX1 ad c9 o1 p_end 3 p_value p_error p_errorAt p_t_count p_t_cells p_d_time p_d_tolerance p_d_seed p_d_madeTickets p_d_cheesesOfText p_d_R_rows p_d_R_cells p_d_U_rows p_d_U_cells p_d_S_rows p_d_S_cells p_d_T_rows p_d_T_cells p_d_E_rows p_d_E_cells)) dX1_take_185 (lay_of layc_X1) 0 rfl rfl 4 (by decide) tyX1 tyX1_ok nmX1 (mw wc_321) rfl rfl (tyX1_ok 4 (by decide)) rfl rfl (Nat.le_of_ble_eq_true rfl) rfl 188 rfl ?_
            refine v_aload_n X dX1_take_188 2 rfl rfl 189 rfl ?_
            refine v_aload_n X dX1_take_189 2 rfl rfl 190 rfl ?_
            refine v_get X (C := RX1) (T := TX1) (N := 8) (ci := 1) (v := _) dX1_take_190 (lay_of layc_X1) 0 rfl rfl 2 (by decide) (mw wc_319) rfl rfl 193 rfl ?_
            refine v_iconst X dX1_take_193 ic_1 194 rfl ?_
            refine v_iadd X dX1_take_194 195 rfl ?_
            refine v_put X (C := RX1) (T := TX1) (N := 8) (ci := 1) (ty := tyX1 3) (ws' := (wX1 ad c9 o1 (o1 + 1) 3 p_value p_error p_errorAt p_t_count p_t_cells p_d_time p_d_tolerance p_d_seed p_d_madeTickets p_d_cheesesOfText p_d_R_rows p_d_R_cells p_d_U_rows p_d_U_cells p_d_S_rows p_d_S_cells p_d_T_rows p_d_T_cells p_d_E_rows p_d_E_cells)) dX1_take_195 (lay_of layc_X1) 0 rfl rfl 3 (by decide) tyX1 tyX1_ok nmX1 (mw wc_314) rfl rfl (tyX1_ok 3 (by decide)) rfl rfl (Nat.le_of_ble_eq_true rfl) rfl 198 rfl ?_
            refine v_aload_n X dX1_take_198 2 rfl rfl 199 rfl ?_
            refine v_iload_n X dX1_take_199 0 rfl rfl 200 rfl ?_
            refine v_put X (C := RX1) (T := TX1) (N := 8) (ci := 1) (ty := tyX1 5) (ws' := (wX1 ad c9 o1 (o1 + 1) 3 o2 p_error p_errorAt p_t_count p_t_cells p_d_time p_d_tolerance p_d_seed p_d_madeTickets p_d_cheesesOfText p_d_R_rows p_d_R_cells p_d_U_rows p_d_U_cells p_d_S_rows p_d_S_cells p_d_T_rows p_d_T_cells p_d_E_rows p_d_E_cells)) dX1_take_200 (lay_of layc_X1) 0 rfl rfl 5 (by decide) tyX1 tyX1_ok nmX1 (mw wc_311) rfl rfl (tyX1_ok 5 (by decide)) rfl rfl (Nat.le_of_ble_eq_true rfl) rfl 203 rfl ?_
            refine v_iload_n X dX1_take_203 1 rfl rfl 204 rfl ?_
            obtain rfl := Option.some.inj hf
            exact v_iret X (Nat.zero_le _) (Nat.zero_le _) dX1_take_204
          · refine v_iload_n X dX1_take_131 0 rfl rfl 132 rfl ?_
            refine v_bipush X dX1_take_132 bp_57 134 rfl ?_
            refine v_icmp_gt X (tgt := 183) dX1_take_134 rfl 137 rfl hf (fun hf => ?_) (fun hf => ?_)
            · refine v_aload_n X dX1_take_183 2 rfl rfl 184 rfl ?_
              refine v_iconst X dX1_take_184 ic_3 185 rfl ?_
              refine v_put X (C := RX1) (T := TX1) (N := 8) (ci := 1) (ty := tyX1 4) (ws' := (wX1 ad c9 o1 p_end 3 p_value p_error p_errorAt p_t_count p_t_cells p_d_time p_d_tolerance p_d_seed p_d_madeTickets p_d_cheesesOfText p_d_R_rows p_d_R_cells p_d_U_rows p_d_U_cells p_d_S_rows p_d_S_cells p_d_T_rows p_d_T_cells p_d_E_rows p_d_E_cells)) dX1_take_185 (lay_of layc_X1) 0 rfl rfl 4 (by decide) tyX1 tyX1_ok nmX1 (mw wc_321) rfl rfl (tyX1_ok 4 (by decide)) rfl rfl (Nat.le_of_ble_eq_true rfl) rfl 188 rfl ?_
              refine v_aload_n X dX1_take_188 2 rfl rfl 189 rfl ?_
              refine v_aload_n X dX1_take_189 2 rfl rfl 190 rfl ?_
              refine v_get X (C := RX1) (T := TX1) (N := 8) (ci := 1) (v := _) dX1_take_190 (lay_of layc_X1) 0 rfl rfl 2 (by decide) (mw wc_319) rfl rfl 193 rfl ?_
              refine v_iconst X dX1_take_193 ic_1 194 rfl ?_
              refine v_iadd X dX1_take_194 195 rfl ?_
              refine v_put X (C := RX1) (T := TX1) (N := 8) (ci := 1) (ty := tyX1 3) (ws' := (wX1 ad c9 o1 (o1 + 1) 3 p_value p_error p_errorAt p_t_count p_t_cells p_d_time p_d_tolerance p_d_seed p_d_madeTickets p_d_cheesesOfText p_d_R_rows p_d_R_cells p_d_U_rows p_d_U_cells p_d_S_rows p_d_S_cells p_d_T_rows p_d_T_cells p_d_E_rows p_d_E_cells)) dX1_take_195 (lay_of layc_X1) 0 rfl rfl 3 (by decide) tyX1 tyX1_ok nmX1 (mw wc_314) rfl rfl (tyX1_ok 3 (by decide)) rfl rfl (Nat.le_of_ble_eq_true rfl) rfl 198 rfl ?_
              refine v_aload_n X dX1_take_198 2 rfl rfl 199 rfl ?_
              refine v_iload_n X dX1_take_199 0 rfl rfl 200 rfl ?_
              refine v_put X (C := RX1) (T := TX1) (N := 8) (ci := 1) (ty := tyX1 5) (ws' := (wX1 ad c9 o1 (o1 + 1) 3 o2 p_error p_errorAt p_t_count p_t_cells p_d_time p_d_tolerance p_d_seed p_d_madeTickets p_d_cheesesOfText p_d_R_rows p_d_R_cells p_d_U_rows p_d_U_cells p_d_S_rows p_d_S_cells p_d_T_rows p_d_T_cells p_d_E_rows p_d_E_cells)) dX1_take_200 (lay_of layc_X1) 0 rfl rfl 5 (by decide) tyX1 tyX1_ok nmX1 (mw wc_311) rfl rfl (tyX1_ok 5 (by decide)) rfl rfl (Nat.le_of_ble_eq_true rfl) rfl 203 rfl ?_
              refine v_iload_n X dX1_take_203 1 rfl rfl 204 rfl ?_
              obtain rfl := Option.some.inj hf
              exact v_iret X (Nat.zero_le _) (Nat.zero_le _) dX1_take_204
            · refine v_aload_n X dX1_take_137 2 rfl rfl 138 rfl ?_
              refine v_iconst X dX1_take_138 ic_2 139 rfl ?_
              refine v_put X (C := RX1) (T := TX1) (N := 8) (ci := 1) (ty := tyX1 4) (ws' := (wX1 ad c9 o1 p_end 2 p_value p_error p_errorAt p_t_count p_t_cells p_d_time p_d_tolerance p_d_seed p_d_madeTickets p_d_cheesesOfText p_d_R_rows p_d_R_cells p_d_U_rows p_d_U_cells p_d_S_rows p_d_S_cells p_d_T_rows p_d_T_cells p_d_E_rows p_d_E_cells)) dX1_take_139 (lay_of layc_X1) 0 rfl rfl 4 (by decide) tyX1 tyX1_ok nmX1 (mw wc_321) rfl rfl (tyX1_ok 4 (by decide)) rfl rfl (Nat.le_of_ble_eq_true rfl) rfl 142 rfl ?_
              refine v_aload_n X dX1_take_142 2 rfl rfl 143 rfl ?_
              refine v_aload_n X dX1_take_143 2 rfl rfl 144 rfl ?_
              refine v_get X (C := RX1) (T := TX1) (N := 8) (ci := 1) (v := _) dX1_take_144 (lay_of layc_X1) 0 rfl rfl 0 (by decide) (mw wc_313) rfl rfl 147 rfl ?_
              refine v_aload_n X dX1_take_147 2 rfl rfl 148 rfl ?_
              refine v_get X (C := RX1) (T := TX1) (N := 8) (ci := 1) (v := _) dX1_take_148 (lay_of layc_X1) 0 rfl rfl 2 (by decide) (mw wc_319) rfl rfl 151 rfl ?_
              refine v_bipush X dX1_take_151 bp_48 153 rfl ?_
              refine v_bipush X dX1_take_153 bp_57 155 rfl ?_
              obtain ⟨o5, ho5, hf⟩ := bnd hf
              refine v_callVi X (ci := 0) (T := TX0) (C := RX0) (As := [.int o1, .int 48, .int 57]) (rest := [.ref (ad 0)]) (ws' := (wX1 ad c9 o1 p_end 2 p_value p_error p_errorAt p_t_count p_t_cells p_d_time p_d_tolerance p_d_seed p_d_madeTickets p_d_cheesesOfText p_d_R_rows p_d_R_cells p_d_U_rows p_d_U_cells p_d_S_rows p_d_S_cells p_d_T_rows p_d_T_cells p_d_E_rows p_d_E_cells)) (c_X0_endOfRun l hG D c9 (fun k => ad ([1, 2].getD k 0)) 600 p_t_count p_t_cells o1 48 57 ho5) 3 (gV wc_322 wc_323 wc_324 wc_7 wc_325) rfl rfl rfl ⟨rfl, pd_X0_endOfRun⟩ ⟨Nat.le_of_ble_eq_true rfl, Nat.le_of_ble_eq_true rfl⟩ 1 rfl rfl rfl rfl (Nat.le_of_ble_eq_true rfl) ⟨Nat.zero_le _, Nat.zero_le _⟩ [1, 2] [0, 3, 4, 5, 6, 7, 8, 9, 10, 11, 12, 13] [0, 12, 13, 1, 2, 3, 4, 5, 6, 7, 8, 9, 10, 11] rfl rfl rfl rfl dX1_take_155 158 rfl ?_
              refine v_put X (C := RX1) (T := TX1) (N := 8) (ci := 1) (ty := tyX1 3) (ws' := (wX1 ad c9 o1 o5 2 p_value p_error p_errorAt p_t_count p_t_cells p_d_time p_d_tolerance p_d_seed p_d_madeTickets p_d_cheesesOfText p_d_R_rows p_d_R_cells p_d_U_rows p_d_U_cells p_d_S_rows p_d_S_cells p_d_T_rows p_d_T_cells p_d_E_rows p_d_E_cells)) dX1_take_158 (lay_of layc_X1) 0 rfl rfl 3 (by decide) tyX1 tyX1_ok nmX1 (mw wc_314) rfl rfl (tyX1_ok 3 (by decide)) rfl rfl (Nat.le_of_ble_eq_true rfl) rfl 161 rfl ?_
              refine v_aload_n X dX1_take_161 2 rfl rfl 162 rfl ?_
              refine v_aload_n X dX1_take_162 2 rfl rfl 163 rfl ?_
              refine v_get X (C := RX1) (T := TX1) (N := 8) (ci := 1) (v := _) dX1_take_163 (lay_of layc_X1) 0 rfl rfl 0 (by decide) (mw wc_313) rfl rfl 166 rfl ?_
              refine v_aload_n X dX1_take_166 2 rfl rfl 167 rfl ?_
              refine v_get X (C := RX1) (T := TX1) (N := 8) (ci := 1) (v := _) dX1_take_167 (lay_of layc_X1) 0 rfl rfl 2 (by decide) (mw wc_319) rfl rfl 170 rfl ?_
              refine v_aload_n X dX1_take_170 2 rfl rfl 171 rfl ?_
              refine v_get X (C := RX1) (T := TX1) (N := 8) (ci := 1) (v := _) dX1_take_171 (lay_of layc_X1) 0 rfl rfl 3 (by decide) (mw wc_314) rfl rfl 174 rfl ?_
              obtain ⟨o6, ho6, hf⟩ := bnd hf
              refine v_callVi X (ci := 0) (T := TX0) (C := RX0) (As := [.int o1, .int o5]) (rest := [.ref (ad 0)]) (ws' := (wX1 ad c9 o1 o5 2 p_value p_error p_errorAt p_t_count p_t_cells p_d_time p_d_tolerance p_d_seed p_d_madeTickets p_d_cheesesOfText p_d_R_rows p_d_R_cells p_d_U_rows p_d_U_cells p_d_S_rows p_d_S_cells p_d_T_rows p_d_T_cells p_d_E_rows p_d_E_cells)) (c_X0_numberBetween l hG D c9 (fun k => ad ([1, 2].getD k 0)) 600 p_t_count p_t_cells o1 o5 ho6) 2 (gV wc_326 wc_327 wc_328 wc_7 wc_329) rfl rfl rfl ⟨rfl, pd_X0_numberBetween⟩ ⟨Nat.le_of_ble_eq_true rfl, Nat.le_of_ble_eq_true rfl⟩ 1 rfl rfl rfl rfl (Nat.le_of_ble_eq_true rfl) ⟨Nat.zero_le _, Nat.zero_le _⟩ [1, 2] [0, 3, 4, 5, 6, 7, 8, 9, 10, 11, 12, 13] [0, 12, 13, 1, 2, 3, 4, 5, 6, 7, 8, 9, 10, 11] rfl rfl rfl rfl dX1_take_174 177 rfl ?_
              refine v_put X (C := RX1) (T := TX1) (N := 8) (ci := 1) (ty := tyX1 5) (ws' := (wX1 ad c9 o1 o5 2 o6 p_error p_errorAt p_t_count p_t_cells p_d_time p_d_tolerance p_d_seed p_d_madeTickets p_d_cheesesOfText p_d_R_rows p_d_R_cells p_d_U_rows p_d_U_cells p_d_S_rows p_d_S_cells p_d_T_rows p_d_T_cells p_d_E_rows p_d_E_cells)) dX1_take_177 (lay_of layc_X1) 0 rfl rfl 5 (by decide) tyX1 tyX1_ok nmX1 (mw wc_311) rfl rfl (tyX1_ok 5 (by decide)) rfl rfl (Nat.le_of_ble_eq_true rfl) rfl 180 rfl ?_
              refine v_goto X (tgt := 203) dX1_take_180 rfl ?_
              refine v_iload_n X dX1_take_203 1 rfl rfl 204 rfl ?_
              obtain rfl := Option.some.inj hf
              exact v_iret X (Nat.zero_le _) (Nat.zero_le _) dX1_take_204
        · refine v_aload_n X dX1_take_79 2 rfl rfl 80 rfl ?_
          refine v_iconst X dX1_take_80 ic_1 81 rfl ?_
          refine v_put X (C := RX1) (T := TX1) (N := 8) (ci := 1) (ty := tyX1 4) (ws' := (wX1 ad c9 o1 p_end 1 p_value p_error p_errorAt p_t_count p_t_cells p_d_time p_d_tolerance p_d_seed p_d_madeTickets p_d_cheesesOfText p_d_R_rows p_d_R_cells p_d_U_rows p_d_U_cells p_d_S_rows p_d_S_cells p_d_T_rows p_d_T_cells p_d_E_rows p_d_E_cells)) dX1_take_81 (lay_of layc_X1) 0 rfl rfl 4 (by decide) tyX1 tyX1_ok nmX1 (mw wc_321) rfl rfl (tyX1_ok 4 (by decide)) rfl rfl (Nat.le_of_ble_eq_true rfl) rfl 84 rfl ?_
          refine v_aload_n X dX1_take_84 2 rfl rfl 85 rfl ?_
          refine v_aload_n X dX1_take_85 2 rfl rfl 86 rfl ?_
          refine v_get X (C := RX1) (T := TX1) (N := 8) (ci := 1) (v := _) dX1_take_86 (lay_of layc_X1) 0 rfl rfl 0 (by decide) (mw wc_313) rfl rfl 89 rfl ?_
          refine v_aload_n X dX1_take_89 2 rfl rfl 90 rfl ?_
          refine v_get X (C := RX1) (T := TX1) (N := 8) (ci := 1) (v := _) dX1_take_90 (lay_of layc_X1) 0 rfl rfl 2 (by decide) (mw wc_319) rfl rfl 93 rfl ?_
          refine v_bipush X dX1_take_93 bp_97 95 rfl ?_
          refine v_bipush X dX1_take_95 bp_122 97 rfl ?_
          obtain ⟨o7, ho7, hf⟩ := bnd hf
          refine v_callVi X (ci := 0) (T := TX0) (C := RX0) (As := [.int o1, .int 97, .int 122]) (rest := [.ref (ad 0)]) (ws' := (wX1 ad c9 o1 p_end 1 p_value p_error p_errorAt p_t_count p_t_cells p_d_time p_d_tolerance p_d_seed p_d_madeTickets p_d_cheesesOfText p_d_R_rows p_d_R_cells p_d_U_rows p_d_U_cells p_d_S_rows p_d_S_cells p_d_T_rows p_d_T_cells p_d_E_rows p_d_E_cells)) (c_X0_endOfRun l hG D c9 (fun k => ad ([1, 2].getD k 0)) 600 p_t_count p_t_cells o1 97 122 ho7) 3 (gV wc_322 wc_323 wc_324 wc_7 wc_325) rfl rfl rfl ⟨rfl, pd_X0_endOfRun⟩ ⟨Nat.le_of_ble_eq_true rfl, Nat.le_of_ble_eq_true rfl⟩ 1 rfl rfl rfl rfl (Nat.le_of_ble_eq_true rfl) ⟨Nat.zero_le _, Nat.zero_le _⟩ [1, 2] [0, 3, 4, 5, 6, 7, 8, 9, 10, 11, 12, 13] [0, 12, 13, 1, 2, 3, 4, 5, 6, 7, 8, 9, 10, 11] rfl rfl rfl rfl dX1_take_97 100 rfl ?_
          refine v_put X (C := RX1) (T := TX1) (N := 8) (ci := 1) (ty := tyX1 3) (ws' := (wX1 ad c9 o1 o7 1 p_value p_error p_errorAt p_t_count p_t_cells p_d_time p_d_tolerance p_d_seed p_d_madeTickets p_d_cheesesOfText p_d_R_rows p_d_R_cells p_d_U_rows p_d_U_cells p_d_S_rows p_d_S_cells p_d_T_rows p_d_T_cells p_d_E_rows p_d_E_cells)) dX1_take_100 (lay_of layc_X1) 0 rfl rfl 3 (by decide) tyX1 tyX1_ok nmX1 (mw wc_314) rfl rfl (tyX1_ok 3 (by decide)) rfl rfl (Nat.le_of_ble_eq_true rfl) rfl 103 rfl ?_
          refine v_aload_n X dX1_take_103 2 rfl rfl 104 rfl ?_
          refine v_aload_n X dX1_take_104 2 rfl rfl 105 rfl ?_
          refine v_get X (C := RX1) (T := TX1) (N := 8) (ci := 1) (v := _) dX1_take_105 (lay_of layc_X1) 0 rfl rfl 0 (by decide) (mw wc_313) rfl rfl 108 rfl ?_
          refine v_aload_n X dX1_take_108 2 rfl rfl 109 rfl ?_
          refine v_get X (C := RX1) (T := TX1) (N := 8) (ci := 1) (v := _) dX1_take_109 (lay_of layc_X1) 0 rfl rfl 2 (by decide) (mw wc_319) rfl rfl 112 rfl ?_
          refine v_aload_n X dX1_take_112 2 rfl rfl 113 rfl ?_
          refine v_get X (C := RX1) (T := TX1) (N := 8) (ci := 1) (v := _) dX1_take_113 (lay_of layc_X1) 0 rfl rfl 3 (by decide) (mw wc_314) rfl rfl 116 rfl ?_
          obtain ⟨o8, ho8, hf⟩ := bnd hf
          refine v_callVi X (ci := 0) (T := TX0) (C := RX0) (As := [.int o1, .int o7]) (rest := [.ref (ad 0)]) (ws' := (wX1 ad c9 o1 o7 1 p_value p_error p_errorAt p_t_count p_t_cells p_d_time p_d_tolerance p_d_seed p_d_madeTickets p_d_cheesesOfText p_d_R_rows p_d_R_cells p_d_U_rows p_d_U_cells p_d_S_rows p_d_S_cells p_d_T_rows p_d_T_cells p_d_E_rows p_d_E_cells)) (c_X0_nameBetween l hG D c9 (fun k => ad ([1, 2].getD k 0)) 600 p_t_count p_t_cells o1 o7 ho8) 2 (gV wc_330 wc_331 wc_332 wc_7 wc_333) rfl rfl rfl ⟨rfl, pd_X0_nameBetween⟩ ⟨Nat.le_of_ble_eq_true rfl, Nat.le_of_ble_eq_true rfl⟩ 1 rfl rfl rfl rfl (Nat.le_of_ble_eq_true rfl) ⟨Nat.zero_le _, Nat.zero_le _⟩ [1, 2] [0, 3, 4, 5, 6, 7, 8, 9, 10, 11, 12, 13] [0, 12, 13, 1, 2, 3, 4, 5, 6, 7, 8, 9, 10, 11] rfl rfl rfl rfl dX1_take_116 119 rfl ?_
          refine v_put X (C := RX1) (T := TX1) (N := 8) (ci := 1) (ty := tyX1 5) (ws' := (wX1 ad c9 o1 o7 1 o8 p_error p_errorAt p_t_count p_t_cells p_d_time p_d_tolerance p_d_seed p_d_madeTickets p_d_cheesesOfText p_d_R_rows p_d_R_cells p_d_U_rows p_d_U_cells p_d_S_rows p_d_S_cells p_d_T_rows p_d_T_cells p_d_E_rows p_d_E_cells)) dX1_take_119 (lay_of layc_X1) 0 rfl rfl 5 (by decide) tyX1 tyX1_ok nmX1 (mw wc_311) rfl rfl (tyX1_ok 5 (by decide)) rfl rfl (Nat.le_of_ble_eq_true rfl) rfl 122 rfl ?_
          refine v_goto X (tgt := 203) dX1_take_122 rfl ?_
          refine v_iload_n X dX1_take_203 1 rfl rfl 204 rfl ?_
          obtain rfl := Option.some.inj hf
          exact v_iret X (Nat.zero_le _) (Nat.zero_le _) dX1_take_204
    · refine v_aload_n X dX1_take_46 2 rfl rfl 47 rfl ?_
      refine v_iconst X dX1_take_47 ic_0 48 rfl ?_
      refine v_put X (C := RX1) (T := TX1) (N := 8) (ci := 1) (ty := tyX1 4) (ws' := (wX1 ad c9 o1 p_end 0 p_value p_error p_errorAt p_t_count p_t_cells p_d_time p_d_tolerance p_d_seed p_d_madeTickets p_d_cheesesOfText p_d_R_rows p_d_R_cells p_d_U_rows p_d_U_cells p_d_S_rows p_d_S_cells p_d_T_rows p_d_T_cells p_d_E_rows p_d_E_cells)) dX1_take_48 (lay_of layc_X1) 0 rfl rfl 4 (by decide) tyX1 tyX1_ok nmX1 (mw wc_321) rfl rfl (tyX1_ok 4 (by decide)) rfl rfl (Nat.le_of_ble_eq_true rfl) rfl 51 rfl ?_
      refine v_aload_n X dX1_take_51 2 rfl rfl 52 rfl ?_
      refine v_aload_n X dX1_take_52 2 rfl rfl 53 rfl ?_
      refine v_get X (C := RX1) (T := TX1) (N := 8) (ci := 1) (v := _) dX1_take_53 (lay_of layc_X1) 0 rfl rfl 2 (by decide) (mw wc_319) rfl rfl 56 rfl ?_
      refine v_put X (C := RX1) (T := TX1) (N := 8) (ci := 1) (ty := tyX1 3) (ws' := (wX1 ad c9 o1 o1 0 p_value p_error p_errorAt p_t_count p_t_cells p_d_time p_d_tolerance p_d_seed p_d_madeTickets p_d_cheesesOfText p_d_R_rows p_d_R_cells p_d_U_rows p_d_U_cells p_d_S_rows p_d_S_cells p_d_T_rows p_d_T_cells p_d_E_rows p_d_E_cells)) dX1_take_56 (lay_of layc_X1) 0 rfl rfl 3 (by decide) tyX1 tyX1_ok nmX1 (mw wc_314) rfl rfl (tyX1_ok 3 (by decide)) rfl rfl (Nat.le_of_ble_eq_true rfl) rfl 59 rfl ?_
      refine v_aload_n X dX1_take_59 2 rfl rfl 60 rfl ?_
      refine v_iconst X dX1_take_60 ic_0 61 rfl ?_
      refine v_put X (C := RX1) (T := TX1) (N := 8) (ci := 1) (ty := tyX1 5) (ws' := (wX1 ad c9 o1 o1 0 0 p_error p_errorAt p_t_count p_t_cells p_d_time p_d_tolerance p_d_seed p_d_madeTickets p_d_cheesesOfText p_d_R_rows p_d_R_cells p_d_U_rows p_d_U_cells p_d_S_rows p_d_S_cells p_d_T_rows p_d_T_cells p_d_E_rows p_d_E_cells)) dX1_take_61 (lay_of layc_X1) 0 rfl rfl 5 (by decide) tyX1 tyX1_ok nmX1 (mw wc_311) rfl rfl (tyX1_ok 5 (by decide)) rfl rfl (Nat.le_of_ble_eq_true rfl) rfl 64 rfl ?_
      refine v_goto X (tgt := 203) dX1_take_64 rfl ?_
      refine v_iload_n X dX1_take_203 1 rfl rfl 204 rfl ?_
      obtain rfl := Option.some.inj hf
      exact v_iret X (Nat.zero_le _) (Nat.zero_le _) dX1_take_204
  · refine v_iload_n X dX1_take_12 0 rfl rfl 13 rfl ?_
    obtain rfl := Option.some.inj hf
    exact v_iret X (Nat.zero_le _) (Nat.zero_le _) dX1_take_13
theorem pd_X1_take : yX1_take.cls ≠ "java/lang/invoke/MethodHandle" ∧ yX1_take.cls ≠ "java/lang/invoke/VarHandle" ∧ (parseMethodDescriptor yX1_take.desc).map (fun d => d.parameters.length) = some 0 := by decide +kernel
def f_X1_isWord (p_start : Int32) (p_end : Int32) (p_kind : Int32) (p_t_count : Int32) (p_t_cells : Nat → Int32) (w1 : Nat) : Option (Int32) :=
  if p_kind = 1 then (
    (f_X0_isText 600 p_t_count p_t_cells p_start p_end w1).bind fun o1 =>
    if o1 = 0 then (
      some (0))
    else (
      some (1)))
  else (
    some (0))
set_option maxRecDepth 100000 in
set_option maxHeartbeats 4000000 in
theorem c_X1_isWord (l : Launch) {G : (Nat → Prop) → State → Heap → Prop} (hG : vG G) (D : va_G) (c9 : Nat → ClassId) (sk sv : Nat → Nat) (hGU : ∀ (A : Nat → Prop) (U : State) (H : Heap), G A U H → vU sk sv A U H) (ad : Nat → Nat) (p_start : Int32) (p_end : Int32) (p_kind : Int32) (p_value : Int32) (p_error : Int32) (p_errorAt : Int32) (p_t_count : Int32) (p_t_cells : Nat → Int32) (p_d_time : Int32) (p_d_tolerance : Int32) (p_d_seed : Int32) (p_d_madeTickets : Int32) (p_d_cheesesOfText : Int32) (p_d_R_rows : Int32) (p_d_R_cells : Nat → Int32) (p_d_U_rows : Int32) (p_d_U_cells : Nat → Int32) (p_d_S_rows : Int32) (p_d_S_cells : Nat → Int32) (p_d_T_rows : Int32) (p_d_T_cells : Nat → Int32) (p_d_E_rows : Int32) (p_d_E_cells : Nat → Int32) (w1 : Nat) (hw1 : w1 < nJS) {o : Int32} (hf : f_X1_isWord p_start p_end p_kind p_t_count p_t_cells w1 = some o) : mI l yX1_isWord (wq yX1_isWord cX1_isWord 2 (some .boolean)) { frames := 6, cells := 0, slots := 0, locals := 175 } G D (tyA c9) [.ref (ad 0), .ref (sk w1)] (wX1 ad c9 p_start p_end p_kind p_value p_error p_errorAt p_t_count p_t_cells p_d_time p_d_tolerance p_d_seed p_d_madeTickets p_d_cheesesOfText p_d_R_rows p_d_R_cells p_d_U_rows p_d_U_cells p_d_S_rows p_d_S_cells p_d_T_rows p_d_T_cells p_d_E_rows p_d_E_cells) [] 0 0 o (wX1 ad c9 p_start p_end p_kind p_value p_error p_errorAt p_t_count p_t_cells p_d_time p_d_tolerance p_d_seed p_d_madeTickets p_d_cheesesOfText p_d_R_rows p_d_R_cells p_d_U_rows p_d_U_cells p_d_S_rows p_d_S_cells p_d_T_rows p_d_T_cells p_d_E_rows p_d_E_cells) := by
  refine mI_of hG (cc := cX1_isWord) (maxL := 2) (ty := .boolean) (by decide) rfl (Nat.le_of_ble_eq_true rfl) ?_
  intro p e s m args below meth c A X
  have X : vX p s m args meth c cX1_isWord 2 (some .boolean) RX1 (wq yX1_isWord cX1_isWord 2 (some .boolean)) D (tyA c9) G A := X
  refine v_eq (lv2 := [(0, .ref (ad 0)), (1, .ref (sk w1))]) rfl rfl rfl rfl ?_
  rw [f_X1_isWord] at hf
  refine v_aload_n X dX1_isWord_0 0 rfl rfl 1 rfl ?_
  refine v_get X (C := RX1) (T := TX1) (N := 8) (ci := 1) (v := _) dX1_isWord_1 (lay_of layc_X1) 0 rfl rfl 4 (by decide) (mw wc_321) rfl rfl 4 rfl ?_
  refine v_iconst X dX1_isWord_4 ic_1 5 rfl ?_
  refine v_icmp_ne X (tgt := 31) dX1_isWord_5 rfl 8 rfl hf (fun hf => ?_) (fun hf => ?_)
  · refine v_iconst X dX1_isWord_31 ic_0 32 rfl ?_
    obtain rfl := Option.some.inj hf
    exact v_zret X (Nat.zero_le _) (Nat.zero_le _) nz0 dX1_isWord_32
  · refine v_aload_n X dX1_isWord_8 0 rfl rfl 9 rfl ?_
    refine v_get X (C := RX1) (T := TX1) (N := 8) (ci := 1) (v := _) dX1_isWord_9 (lay_of layc_X1) 0 rfl rfl 0 (by decide) (mw wc_313) rfl rfl 12 rfl ?_
    refine v_aload_n X dX1_isWord_12 0 rfl rfl 13 rfl ?_
    refine v_get X (C := RX1) (T := TX1) (N := 8) (ci := 1) (v := _) dX1_isWord_13 (lay_of layc_X1) 0 rfl rfl 2 (by decide) (mw wc_319) rfl rfl 16 rfl ?_
    refine v_aload_n X dX1_isWord_16 0 rfl rfl 17 rfl ?_
    refine v_get X (C := RX1) (T := TX1) (N := 8) (ci := 1) (v := _) dX1_isWord_17 (lay_of layc_X1) 0 rfl rfl 3 (by decide) (mw wc_314) rfl rfl 20 rfl ?_
    refine v_aload_n X dX1_isWord_20 1 rfl rfl 21 rfl ?_
    obtain ⟨o1, ho1, hf⟩ := bnd hf
    refine v_callVi X (ci := 0) (T := TX0) (C := RX0) (As := [.int p_start, .int p_end, .ref (sk w1)]) (rest := []) (ws' := (wX1 ad c9 p_start p_end p_kind p_value p_error p_errorAt p_t_count p_t_cells p_d_time p_d_tolerance p_d_seed p_d_madeTickets p_d_cheesesOfText p_d_R_rows p_d_R_cells p_d_U_rows p_d_U_cells p_d_S_rows p_d_S_cells p_d_T_rows p_d_T_cells p_d_E_rows p_d_E_cells)) (c_X0_isText l hG D c9 sk sv hGU (fun k => ad ([1, 2].getD k 0)) 600 p_t_count p_t_cells p_start p_end w1 hw1 ho1) 3 (gV wc_334 wc_335 wc_336 wc_7 wc_337) rfl rfl rfl ⟨rfl, pd_X0_isText⟩ ⟨Nat.le_of_ble_eq_true rfl, Nat.le_of_ble_eq_true rfl⟩ 1 rfl rfl rfl rfl (Nat.le_of_ble_eq_true rfl) ⟨Nat.zero_le _, Nat.zero_le _⟩ [1, 2] [0, 3, 4, 5, 6, 7, 8, 9, 10, 11, 12, 13] [0, 12, 13, 1, 2, 3, 4, 5, 6, 7, 8, 9, 10, 11] rfl rfl rfl rfl dX1_isWord_21 24 rfl ?_
    refine v_if_eq X (tgt := 31) dX1_isWord_24 rfl 27 rfl hf (fun hf => ?_) (fun hf => ?_)
    · refine v_iconst X dX1_isWord_31 ic_0 32 rfl ?_
      obtain rfl := Option.some.inj hf
      exact v_zret X (Nat.zero_le _) (Nat.zero_le _) nz0 dX1_isWord_32
    · refine v_iconst X dX1_isWord_27 ic_1 28 rfl ?_
      refine v_goto X (tgt := 32) dX1_isWord_28 rfl ?_
      obtain rfl := Option.some.inj hf
      exact v_zret X (Nat.zero_le _) (Nat.zero_le _) nz1 dX1_isWord_32
theorem pd_X1_isWord : yX1_isWord.cls ≠ "java/lang/invoke/MethodHandle" ∧ yX1_isWord.cls ≠ "java/lang/invoke/VarHandle" ∧ (parseMethodDescriptor yX1_isWord.desc).map (fun d => d.parameters.length) = some 1 := by decide +kernel
def f_X1_require (p_start : Int32) (p_error : Int32) (p_errorAt : Int32) (v1 : Int32) (v2 : Int32) : Option (Int32 × Int32) :=
  if p_error = 0 then (
    if v1 = 0 then (
      some (v2, p_start))
    else (
      some (p_error, p_errorAt)))
  else (
    some (p_error, p_errorAt))
set_option maxRecDepth 100000 in
set_option maxHeartbeats 4000000 in
theorem c_X1_require (l : Launch) {G : (Nat → Prop) → State → Heap → Prop} (hG : vG G) (D : va_G) (c9 : Nat → ClassId) (ad : Nat → Nat) (p_start : Int32) (p_end : Int32) (p_kind : Int32) (p_value : Int32) (p_error : Int32) (p_errorAt : Int32) (p_t_count : Int32) (p_t_cells : Nat → Int32) (p_d_time : Int32) (p_d_tolerance : Int32) (p_d_seed : Int32) (p_d_madeTickets : Int32) (p_d_cheesesOfText : Int32) (p_d_R_rows : Int32) (p_d_R_cells : Nat → Int32) (p_d_U_rows : Int32) (p_d_U_cells : Nat → Int32) (p_d_S_rows : Int32) (p_d_S_cells : Nat → Int32) (p_d_T_rows : Int32) (p_d_T_cells : Nat → Int32) (p_d_E_rows : Int32) (p_d_E_cells : Nat → Int32) (v1 : Int32) (v2 : Int32) {o : Int32 × Int32} (hf : f_X1_require p_start p_error p_errorAt v1 v2 = some o) : mV l yX1_require (wq yX1_require cX1_require 3 none) { frames := 0, cells := 0, slots := 0, locals := 0 } G D (tyA c9) [.ref (ad 0), .int v1, .int v2] (wX1 ad c9 p_start p_end p_kind p_value p_error p_errorAt p_t_count p_t_cells p_d_time p_d_tolerance p_d_seed p_d_madeTickets p_d_cheesesOfText p_d_R_rows p_d_R_cells p_d_U_rows p_d_U_cells p_d_S_rows p_d_S_cells p_d_T_rows p_d_T_cells p_d_E_rows p_d_E_cells) [] 0 0 (wX1 ad c9 p_start p_end p_kind p_value o.1 o.2 p_t_count p_t_cells p_d_time p_d_tolerance p_d_seed p_d_madeTickets p_d_cheesesOfText p_d_R_rows p_d_R_cells p_d_U_rows p_d_U_cells p_d_S_rows p_d_S_cells p_d_T_rows p_d_T_cells p_d_E_rows p_d_E_cells) := by
  refine mV_of hG (cc := cX1_require) (maxL := 3) (by decide) rfl (Nat.le_of_ble_eq_true rfl) ?_
  intro p e s m args below meth c A hnm X
  have X : vX p s m args meth c cX1_require 3 none RX1 (wq yX1_require cX1_require 3 none) D (tyA c9) G A := X
  refine v_eq (lv2 := [(0, .ref (ad 0)), (1, .int v1), (2, .int v2)]) rfl rfl rfl rfl ?_
  rw [f_X1_require] at hf
  refine v_aload_n X dX1_require_0 0 rfl rfl 1 rfl ?_
  refine v_get X (C := RX1) (T := TX1) (N := 8) (ci := 1) (v := _) dX1_require_1 (lay_of layc_X1) 0 rfl rfl 6 (by decide) (mw wc_312) rfl rfl 4 rfl ?_
  refine v_if_ne X (tgt := 24) dX1_require_4 rfl 7 rfl hf (fun hf => ?_) (fun hf => ?_)
  · obtain rfl := Option.some.inj hf
    exact v_vret X (Nat.zero_le _) (Nat.zero_le _) dX1_require_24
  · refine v_iload_n X dX1_require_7 1 rfl rfl 8 rfl ?_
    refine v_if_ne X (tgt := 24) dX1_require_8 rfl 11 rfl hf (fun hf => ?_) (fun hf => ?_)
    · obtain rfl := Option.some.inj hf
      exact v_vret X (Nat.zero_le _) (Nat.zero_le _) dX1_require_24
    · refine v_aload_n X dX1_require_11 0 rfl rfl 12 rfl ?_
      refine v_iload_n X dX1_require_12 2 rfl rfl 13 rfl ?_
      refine v_put X (C := RX1) (T := TX1) (N := 8) (ci := 1) (ty := tyX1 6) (ws' := (wX1 ad c9 p_start p_end p_kind p_value v2 p_errorAt p_t_count p_t_cells p_d_time p_d_tolerance p_d_seed p_d_madeTickets p_d_cheesesOfText p_d_R_rows p_d_R_cells p_d_U_rows p_d_U_cells p_d_S_rows p_d_S_cells p_d_T_rows p_d_T_cells p_d_E_rows p_d_E_cells)) dX1_require_13 (lay_of layc_X1) 0 rfl rfl 6 (by decide) tyX1 tyX1_ok nmX1 (mw wc_312) rfl rfl (tyX1_ok 6 (by decide)) rfl rfl (Nat.le_of_ble_eq_true rfl) rfl 16 rfl ?_
      refine v_aload_n X dX1_require_16 0 rfl rfl 17 rfl ?_
      refine v_aload_n X dX1_require_17 0 rfl rfl 18 rfl ?_
      refine v_get X (C := RX1) (T := TX1) (N := 8) (ci := 1) (v := _) dX1_require_18 (lay_of layc_X1) 0 rfl rfl 2 (by decide) (mw wc_319) rfl rfl 21 rfl ?_
      refine v_put X (C := RX1) (T := TX1) (N := 8) (ci := 1) (ty := tyX1 7) (ws' := (wX1 ad c9 p_start p_end p_kind p_value v2 p_start p_t_count p_t_cells p_d_time p_d_tolerance p_d_seed p_d_madeTickets p_d_cheesesOfText p_d_R_rows p_d_R_cells p_d_U_rows p_d_U_cells p_d_S_rows p_d_S_cells p_d_T_rows p_d_T_cells p_d_E_rows p_d_E_cells)) dX1_require_21 (lay_of layc_X1) 0 rfl rfl 7 (by decide) tyX1 tyX1_ok nmX1 (mw wc_338) rfl rfl (tyX1_ok 7 (by decide)) rfl rfl (Nat.le_of_ble_eq_true rfl) rfl 24 rfl ?_
      obtain rfl := Option.some.inj hf
      exact v_vret X (Nat.zero_le _) (Nat.zero_le _) dX1_require_24
theorem pd_X1_require : yX1_require.cls ≠ "java/lang/invoke/MethodHandle" ∧ yX1_require.cls ≠ "java/lang/invoke/VarHandle" ∧ (parseMethodDescriptor yX1_require.desc).map (fun d => d.parameters.length) = some 2 := by decide +kernel
def f_X1_number (p_start : Int32) (p_end : Int32) (p_kind : Int32) (p_value : Int32) (p_error : Int32) (p_errorAt : Int32) (p_t_count : Int32) (p_t_cells : Nat → Int32) (v1 : Int32) (v2 : Int32) : Option (Int32 × Int32 × Int32 × Int32 × Int32 × Int32 × Int32) :=
  Option.bind (if p_kind = 2 then (
    some (1))
  else (
    some (0)) : Option (Int32)) fun j1 =>
  (f_X1_require p_start p_error p_errorAt j1 1).bind fun o2 =>
  Option.bind (if p_value < v1 then (
    some (0))
  else (
    if v2 < p_value then (
      some (0))
    else (
      some (1))) : Option (Int32)) fun j3 =>
  (f_X1_require p_start o2.1 o2.2 j3 2).bind fun o4 =>
  (f_X1_take p_start p_end p_kind p_value o4.1 p_t_count p_t_cells).bind fun o5 =>
  some (o5.1, o5.2.1, o5.2.2.1, o5.2.2.2.1, o5.2.2.2.2, o4.1, o4.2)
set_option maxRecDepth 100000 in
set_option maxHeartbeats 4000000 in
theorem c_X1_number (l : Launch) {G : (Nat → Prop) → State → Heap → Prop} (hG : vG G) (D : va_G) (c9 : Nat → ClassId) (ad : Nat → Nat) (p_start : Int32) (p_end : Int32) (p_kind : Int32) (p_value : Int32) (p_error : Int32) (p_errorAt : Int32) (p_t_count : Int32) (p_t_cells : Nat → Int32) (p_d_time : Int32) (p_d_tolerance : Int32) (p_d_seed : Int32) (p_d_madeTickets : Int32) (p_d_cheesesOfText : Int32) (p_d_R_rows : Int32) (p_d_R_cells : Nat → Int32) (p_d_U_rows : Int32) (p_d_U_cells : Nat → Int32) (p_d_S_rows : Int32) (p_d_S_cells : Nat → Int32) (p_d_T_rows : Int32) (p_d_T_cells : Nat → Int32) (p_d_E_rows : Int32) (p_d_E_cells : Nat → Int32) (v1 : Int32) (v2 : Int32) {o : Int32 × Int32 × Int32 × Int32 × Int32 × Int32 × Int32} (hf : f_X1_number p_start p_end p_kind p_value p_error p_errorAt p_t_count p_t_cells v1 v2 = some o) : mI l yX1_number (wq yX1_number cX1_number 3 (some .int)) { frames := 3, cells := 0, slots := 0, locals := 86 } G D (tyA c9) [.ref (ad 0), .int v1, .int v2] (wX1 ad c9 p_start p_end p_kind p_value p_error p_errorAt p_t_count p_t_cells p_d_time p_d_tolerance p_d_seed p_d_madeTickets p_d_cheesesOfText p_d_R_rows p_d_R_cells p_d_U_rows p_d_U_cells p_d_S_rows p_d_S_cells p_d_T_rows p_d_T_cells p_d_E_rows p_d_E_cells) [] 0 0 o.1 (wX1 ad c9 o.2.1 o.2.2.1 o.2.2.2.1 o.2.2.2.2.1 o.2.2.2.2.2.1 o.2.2.2.2.2.2 p_t_count p_t_cells p_d_time p_d_tolerance p_d_seed p_d_madeTickets p_d_cheesesOfText p_d_R_rows p_d_R_cells p_d_U_rows p_d_U_cells p_d_S_rows p_d_S_cells p_d_T_rows p_d_T_cells p_d_E_rows p_d_E_cells) := by
  refine mI_of hG (cc := cX1_number) (maxL := 3) (ty := .int) (by decide) rfl (Nat.le_of_ble_eq_true rfl) ?_
  intro p e s m args below meth c A X
  have X : vX p s m args meth c cX1_number 3 (some .int) RX1 (wq yX1_number cX1_number 3 (some .int)) D (tyA c9) G A := X
  refine v_eq (lv2 := [(0, .ref (ad 0)), (1, .int v1), (2, .int v2)]) rfl rfl rfl rfl ?_
  rw [f_X1_number] at hf
  refine v_aload_n X dX1_number_0 0 rfl rfl 1 rfl ?_
  refine v_aload_n X dX1_number_1 0 rfl rfl 2 rfl ?_
  refine v_get X (C := RX1) (T := TX1) (N := 8) (ci := 1) (v := _) dX1_number_2 (lay_of layc_X1) 0 rfl rfl 4 (by decide) (mw wc_321) rfl rfl 5 rfl ?_
  refine v_iconst X dX1_number_5 ic_2 6 rfl ?_
  obtain ⟨j1, hj1, hf⟩ := bnd hf
  have Jj1 : vW p l e { frames := 3, cells := 0, slots := 0, locals := 86 } s m args below meth c 3 D A [] 0 0 (MQ below (eI D (tyA c9) A o.1 ((wX1 ad c9 o.2.1 o.2.2.1 o.2.2.2.1 o.2.2.2.2.1 o.2.2.2.2.2.1 o.2.2.2.2.2.2 p_t_count p_t_cells p_d_time p_d_tolerance p_d_seed p_d_madeTickets p_d_cheesesOfText p_d_R_rows p_d_R_cells p_d_U_rows p_d_U_cells p_d_S_rows p_d_S_cells p_d_T_rows p_d_T_cells p_d_E_rows p_d_E_cells) ++ [])) args s 0 0 A) (wX1 ad c9 p_start p_end p_kind p_value p_error p_errorAt p_t_count p_t_cells p_d_time p_d_tolerance p_d_seed p_d_madeTickets p_d_cheesesOfText p_d_R_rows p_d_R_cells p_d_U_rows p_d_U_cells p_d_S_rows p_d_S_cells p_d_T_rows p_d_T_cells p_d_E_rows p_d_E_cells) 14 [(0, .ref (ad 0)), (1, .int v1), (2, .int v2)] [.int j1, .ref (ad 0)] := by
    refine v_iconst X dX1_number_14 ic_1 15 rfl ?_
    obtain ⟨o2, ho2, hf⟩ := bnd hf
    refine v_callVv X (ci := 1) (T := TX1) (C := RX1) (As := [.int j1, .int 1]) (rest := []) (ws' := (wX1 ad c9 p_start p_end p_kind p_value o2.1 o2.2 p_t_count p_t_cells p_d_time p_d_tolerance p_d_seed p_d_madeTickets p_d_cheesesOfText p_d_R_rows p_d_R_cells p_d_U_rows p_d_U_cells p_d_S_rows p_d_S_cells p_d_T_rows p_d_T_cells p_d_E_rows p_d_E_cells)) (c_X1_require l hG D c9 ad p_start p_end p_kind p_value p_error p_errorAt p_t_count p_t_cells p_d_time p_d_tolerance p_d_seed p_d_madeTickets p_d_cheesesOfText p_d_R_rows p_d_R_cells p_d_U_rows p_d_U_cells p_d_S_rows p_d_S_cells p_d_T_rows p_d_T_cells p_d_E_rows p_d_E_cells j1 1 ho2) 2 (gV wc_339 wc_340 wc_341 wc_342 wc_343) rfl rfl rfl ⟨rfl, pd_X1_require⟩ ⟨Nat.le_of_ble_eq_true rfl, Nat.le_of_ble_eq_true rfl⟩ 0 rfl rfl rfl rfl (Nat.le_of_ble_eq_true rfl) ⟨Nat.zero_le _, Nat.zero_le _⟩ [0, 1, 2, 3, 4, 5, 6, 7, 8, 9, 10, 11, 12, 13] [] [0, 1, 2, 3, 4, 5, 6, 7, 8, 9, 10, 11, 12, 13] rfl rfl rfl rfl dX1_number_15 18 rfl ?_
    refine v_aload_n X dX1_number_18 0 rfl rfl 19 rfl ?_
    refine v_aload_n X dX1_number_19 0 rfl rfl 20 rfl ?_
    refine v_get X (C := RX1) (T := TX1) (N := 8) (ci := 1) (v := _) dX1_number_20 (lay_of layc_X1) 0 rfl rfl 5 (by decide) (mw wc_311) rfl rfl 23 rfl ?_
    refine v_iload_n X dX1_number_23 1 rfl rfl 24 rfl ?_
    obtain ⟨j3, hj3, hf⟩ := bnd hf
    have Jj3 : vW p l e { frames := 3, cells := 0, slots := 0, locals := 86 } s m args below meth c 3 D A [] 0 0 (MQ below (eI D (tyA c9) A o.1 ((wX1 ad c9 o.2.1 o.2.2.1 o.2.2.2.1 o.2.2.2.2.1 o.2.2.2.2.2.1 o.2.2.2.2.2.2 p_t_count p_t_cells p_d_time p_d_tolerance p_d_seed p_d_madeTickets p_d_cheesesOfText p_d_R_rows p_d_R_cells p_d_U_rows p_d_U_cells p_d_S_rows p_d_S_cells p_d_T_rows p_d_T_cells p_d_E_rows p_d_E_cells) ++ [])) args s 0 0 A) (wX1 ad c9 p_start p_end p_kind p_value o2.1 o2.2 p_t_count p_t_cells p_d_time p_d_tolerance p_d_seed p_d_madeTickets p_d_cheesesOfText p_d_R_rows p_d_R_cells p_d_U_rows p_d_U_cells p_d_S_rows p_d_S_cells p_d_T_rows p_d_T_cells p_d_E_rows p_d_E_cells) 40 [(0, .ref (ad 0))] [.int j3, .ref (ad 0)] := by
      refine v_iconst X dX1_number_40 ic_2 41 rfl ?_
      obtain ⟨o4, ho4, hf⟩ := bnd hf
      refine v_callVv X (ci := 1) (T := TX1) (C := RX1) (As := [.int j3, .int 2]) (rest := []) (ws' := (wX1 ad c9 p_start p_end p_kind p_value o4.1 o4.2 p_t_count p_t_cells p_d_time p_d_tolerance p_d_seed p_d_madeTickets p_d_cheesesOfText p_d_R_rows p_d_R_cells p_d_U_rows p_d_U_cells p_d_S_rows p_d_S_cells p_d_T_rows p_d_T_cells p_d_E_rows p_d_E_cells)) (c_X1_require l hG D c9 ad p_start p_end p_kind p_value o2.1 o2.2 p_t_count p_t_cells p_d_time p_d_tolerance p_d_seed p_d_madeTickets p_d_cheesesOfText p_d_R_rows p_d_R_cells p_d_U_rows p_d_U_cells p_d_S_rows p_d_S_cells p_d_T_rows p_d_T_cells p_d_E_rows p_d_E_cells j3 2 ho4) 2 (gV wc_339 wc_340 wc_341 wc_342 wc_343) rfl rfl rfl ⟨rfl, pd_X1_require⟩ ⟨Nat.le_of_ble_eq_true rfl, Nat.le_of_ble_eq_true rfl⟩ 0 rfl rfl rfl rfl (Nat.le_of_ble_eq_true rfl) ⟨Nat.zero_le _, Nat.zero_le _⟩ [0, 1, 2, 3, 4, 5, 6, 7, 8, 9, 10, 11, 12, 13] [] [0, 1, 2, 3, 4, 5, 6, 7, 8, 9, 10, 11, 12, 13] rfl rfl rfl rfl dX1_number_41 44 rfl ?_
      refine v_aload_n X dX1_number_44 0 rfl rfl 45 rfl ?_
      obtain ⟨o5, ho5, hf⟩ := bnd hf
      refine v_callVi X (ci := 1) (T := TX1) (C := RX1) (As := []) (rest := []) (ws' := (wX1 ad c9 o5.2.1 o5.2.2.1 o5.2.2.2.1 o5.2.2.2.2 o4.1 o4.2 p_t_count p_t_cells p_d_time p_d_tolerance p_d_seed p_d_madeTickets p_d_cheesesOfText p_d_R_rows p_d_R_cells p_d_U_rows p_d_U_cells p_d_S_rows p_d_S_cells p_d_T_rows p_d_T_cells p_d_E_rows p_d_E_cells)) (c_X1_take l hG D c9 ad p_start p_end p_kind p_value o4.1 o4.2 p_t_count p_t_cells p_d_time p_d_tolerance p_d_seed p_d_madeTickets p_d_cheesesOfText p_d_R_rows p_d_R_cells p_d_U_rows p_d_U_cells p_d_S_rows p_d_S_cells p_d_T_rows p_d_T_cells p_d_E_rows p_d_E_cells ho5) 0 (gV wc_344 wc_345 wc_346 wc_342 wc_347) rfl rfl rfl ⟨rfl, pd_X1_take⟩ ⟨Nat.le_of_ble_eq_true rfl, Nat.le_of_ble_eq_true rfl⟩ 0 rfl rfl rfl rfl (Nat.le_of_ble_eq_true rfl) ⟨Nat.zero_le _, Nat.zero_le _⟩ [0, 1, 2, 3, 4, 5, 6, 7, 8, 9, 10, 11, 12, 13] [] [0, 1, 2, 3, 4, 5, 6, 7, 8, 9, 10, 11, 12, 13] rfl rfl rfl rfl dX1_number_45 48 rfl ?_
      obtain rfl := Option.some.inj hf
      exact v_iret X (Nat.zero_le _) (Nat.zero_le _) dX1_number_48
    clear hf
    refine v_icmp_lt X (tgt := 39) dX1_number_24 rfl 27 rfl hj3 (fun hf => ?_) (fun hf => ?_)
    · refine v_iconst X dX1_number_39 ic_0 40 rfl ?_
      obtain rfl := Option.some.inj hf
      refine v_sub (lv' := [(0, .ref (ad 0))]) [0] rfl ?_
      exact Jj3
    · refine v_aload_n X dX1_number_27 0 rfl rfl 28 rfl ?_
      refine v_get X (C := RX1) (T := TX1) (N := 8) (ci := 1) (v := _) dX1_number_28 (lay_of layc_X1) 0 rfl rfl 5 (by decide) (mw wc_311) rfl rfl 31 rfl ?_
      refine v_iload_n X dX1_number_31 2 rfl rfl 32 rfl ?_
      refine v_icmp_gt X (tgt := 39) dX1_number_32 rfl 35 rfl hf (fun hf => ?_) (fun hf => ?_)
      · refine v_iconst X dX1_number_39 ic_0 40 rfl ?_
        obtain rfl := Option.some.inj hf
        refine v_sub (lv' := [(0, .ref (ad 0))]) [0] rfl ?_
        exact Jj3
      · refine v_iconst X dX1_number_35 ic_1 36 rfl ?_
        refine v_goto X (tgt := 40) dX1_number_36 rfl ?_
        obtain rfl := Option.some.inj hf
        refine v_sub (lv' := [(0, .ref (ad 0))]) [0] rfl ?_
        exact Jj3
  clear hf
  refine v_icmp_ne X (tgt := 13) dX1_number_6 rfl 9 rfl hj1 (fun hf => ?_) (fun hf => ?_)
  · refine v_iconst X dX1_number_13 ic_0 14 rfl ?_
    obtain rfl := Option.some.inj hf
    exact Jj1
  · refine v_iconst X dX1_number_9 ic_1 10 rfl ?_
    refine v_goto X (tgt := 14) dX1_number_10 rfl ?_
    obtain rfl := Option.some.inj hf
    exact Jj1
theorem pd_X1_number : yX1_number.cls ≠ "java/lang/invoke/MethodHandle" ∧ yX1_number.cls ≠ "java/lang/invoke/VarHandle" ∧ (parseMethodDescriptor yX1_number.desc).map (fun d => d.parameters.length) = some 2 := by decide +kernel
def f_X1_semicolon (p_start : Int32) (p_end : Int32) (p_kind : Int32) (p_value : Int32) (p_error : Int32) (p_errorAt : Int32) (p_t_count : Int32) (p_t_cells : Nat → Int32) (v1 : Int32) : Option (Int32 × Int32 × Int32 × Int32 × Int32 × Int32 × Int32) :=
  Option.bind (if p_kind = 3 then (
    if p_value = 59 then (
      some (1))
    else (
      some (0)))
  else (
    some (0)) : Option (Int32)) fun j1 =>
  (f_X1_require p_start p_error p_errorAt j1 1).bind fun o2 =>
  (f_X1_require p_start o2.1 o2.2 v1 6).bind fun o3 =>
  (f_X1_take p_start p_end p_kind p_value o3.1 p_t_count p_t_cells).bind fun o4 =>
  if o3.1 = 0 then (
    some (1, o4.2.1, o4.2.2.1, o4.2.2.2.1, o4.2.2.2.2, o3.1, o3.2))
  else (
    some (0, o4.2.1, o4.2.2.1, o4.2.2.2.1, o4.2.2.2.2, o3.1, o3.2))
set_option maxRecDepth 100000 in
set_option maxHeartbeats 4000000 in
theorem c_X1_semicolon (l : Launch) {G : (Nat → Prop) → State → Heap → Prop} (hG : vG G) (D : va_G) (c9 : Nat → ClassId) (ad : Nat → Nat) (p_start : Int32) (p_end : Int32) (p_kind : Int32) (p_value : Int32) (p_error : Int32) (p_errorAt : Int32) (p_t_count : Int32) (p_t_cells : Nat → Int32) (p_d_time : Int32) (p_d_tolerance : Int32) (p_d_seed : Int32) (p_d_madeTickets : Int32) (p_d_cheesesOfText : Int32) (p_d_R_rows : Int32) (p_d_R_cells : Nat → Int32) (p_d_U_rows : Int32) (p_d_U_cells : Nat → Int32) (p_d_S_rows : Int32) (p_d_S_cells : Nat → Int32) (p_d_T_rows : Int32) (p_d_T_cells : Nat → Int32) (p_d_E_rows : Int32) (p_d_E_cells : Nat → Int32) (v1 : Int32) {o : Int32 × Int32 × Int32 × Int32 × Int32 × Int32 × Int32} (hf : f_X1_semicolon p_start p_end p_kind p_value p_error p_errorAt p_t_count p_t_cells v1 = some o) : mI l yX1_semicolon (wq yX1_semicolon cX1_semicolon 2 (some .boolean)) { frames := 3, cells := 0, slots := 0, locals := 86 } G D (tyA c9) [.ref (ad 0), .int v1] (wX1 ad c9 p_start p_end p_kind p_value p_error p_errorAt p_t_count p_t_cells p_d_time p_d_tolerance p_d_seed p_d_madeTickets p_d_cheesesOfText p_d_R_rows p_d_R_cells p_d_U_rows p_d_U_cells p_d_S_rows p_d_S_cells p_d_T_rows p_d_T_cells p_d_E_rows p_d_E_cells) [] 0 0 o.1 (wX1 ad c9 o.2.1 o.2.2.1 o.2.2.2.1 o.2.2.2.2.1 o.2.2.2.2.2.1 o.2.2.2.2.2.2 p_t_count p_t_cells p_d_time p_d_tolerance p_d_seed p_d_madeTickets p_d_cheesesOfText p_d_R_rows p_d_R_cells p_d_U_rows p_d_U_cells p_d_S_rows p_d_S_cells p_d_T_rows p_d_T_cells p_d_E_rows p_d_E_cells) := by
  refine mI_of hG (cc := cX1_semicolon) (maxL := 2) (ty := .boolean) (by decide) rfl (Nat.le_of_ble_eq_true rfl) ?_
  intro p e s m args below meth c A X
  have X : vX p s m args meth c cX1_semicolon 2 (some .boolean) RX1 (wq yX1_semicolon cX1_semicolon 2 (some .boolean)) D (tyA c9) G A := X
  refine v_eq (lv2 := [(0, .ref (ad 0)), (1, .int v1)]) rfl rfl rfl rfl ?_
  rw [f_X1_semicolon] at hf
  refine v_aload_n X dX1_semicolon_0 0 rfl rfl 1 rfl ?_
  refine v_aload_n X dX1_semicolon_1 0 rfl rfl 2 rfl ?_
  refine v_get X (C := RX1) (T := TX1) (N := 8) (ci := 1) (v := _) dX1_semicolon_2 (lay_of layc_X1) 0 rfl rfl 4 (by decide) (mw wc_321) rfl rfl 5 rfl ?_
  refine v_iconst X dX1_semicolon_5 ic_3 6 rfl ?_
  obtain ⟨j1, hj1, hf⟩ := bnd hf
  have Jj1 : vW p l e { frames := 3, cells := 0, slots := 0, locals := 86 } s m args below meth c 2 D A [] 0 0 (MQ below (eI D (tyA c9) A o.1 ((wX1 ad c9 o.2.1 o.2.2.1 o.2.2.2.1 o.2.2.2.2.1 o.2.2.2.2.2.1 o.2.2.2.2.2.2 p_t_count p_t_cells p_d_time p_d_tolerance p_d_seed p_d_madeTickets p_d_cheesesOfText p_d_R_rows p_d_R_cells p_d_U_rows p_d_U_cells p_d_S_rows p_d_S_cells p_d_T_rows p_d_T_cells p_d_E_rows p_d_E_cells) ++ [])) args s 0 0 A) (wX1 ad c9 p_start p_end p_kind p_value p_error p_errorAt p_t_count p_t_cells p_d_time p_d_tolerance p_d_seed p_d_madeTickets p_d_cheesesOfText p_d_R_rows p_d_R_cells p_d_U_rows p_d_U_cells p_d_S_rows p_d_S_cells p_d_T_rows p_d_T_cells p_d_E_rows p_d_E_cells) 23 [(0, .ref (ad 0)), (1, .int v1)] [.int j1, .ref (ad 0)] := by
    refine v_iconst X dX1_semicolon_23 ic_1 24 rfl ?_
    obtain ⟨o2, ho2, hf⟩ := bnd hf
    refine v_callVv X (ci := 1) (T := TX1) (C := RX1) (As := [.int j1, .int 1]) (rest := []) (ws' := (wX1 ad c9 p_start p_end p_kind p_value o2.1 o2.2 p_t_count p_t_cells p_d_time p_d_tolerance p_d_seed p_d_madeTickets p_d_cheesesOfText p_d_R_rows p_d_R_cells p_d_U_rows p_d_U_cells p_d_S_rows p_d_S_cells p_d_T_rows p_d_T_cells p_d_E_rows p_d_E_cells)) (c_X1_require l hG D c9 ad p_start p_end p_kind p_value p_error p_errorAt p_t_count p_t_cells p_d_time p_d_tolerance p_d_seed p_d_madeTickets p_d_cheesesOfText p_d_R_rows p_d_R_cells p_d_U_rows p_d_U_cells p_d_S_rows p_d_S_cells p_d_T_rows p_d_T_cells p_d_E_rows p_d_E_cells j1 1 ho2) 2 (gV wc_339 wc_340 wc_341 wc_342 wc_343) rfl rfl rfl ⟨rfl, pd_X1_require⟩ ⟨Nat.le_of_ble_eq_true rfl, Nat.le_of_ble_eq_true rfl⟩ 0 rfl rfl rfl rfl (Nat.le_of_ble_eq_true rfl) ⟨Nat.zero_le _, Nat.zero_le _⟩ [0, 1, 2, 3, 4, 5, 6, 7, 8, 9, 10, 11, 12, 13] [] [0, 1, 2, 3, 4, 5, 6, 7, 8, 9, 10, 11, 12, 13] rfl rfl rfl rfl dX1_semicolon_24 27 rfl ?_
    refine v_aload_n X dX1_semicolon_27 0 rfl rfl 28 rfl ?_
    refine v_iload_n X dX1_semicolon_28 1 rfl rfl 29 rfl ?_
    refine v_bipush X dX1_semicolon_29 bp_6 31 rfl ?_
    obtain ⟨o3, ho3, hf⟩ := bnd hf
    refine v_callVv X (ci := 1) (T := TX1) (C := RX1) (As := [.int v1, .int 6]) (rest := []) (ws' := (wX1 ad c9 p_start p_end p_kind p_value o3.1 o3.2 p_t_count p_t_cells p_d_time p_d_tolerance p_d_seed p_d_madeTickets p_d_cheesesOfText p_d_R_rows p_d_R_cells p_d_U_rows p_d_U_cells p_d_S_rows p_d_S_cells p_d_T_rows p_d_T_cells p_d_E_rows p_d_E_cells)) (c_X1_require l hG D c9 ad p_start p_end p_kind p_value o2.1 o2.2 p_t_count p_t_cells p_d_time p_d_tolerance p_d_seed p_d_madeTickets p_d_cheesesOfText p_d_R_rows p_d_R_cells p_d_U_rows p_d_U_cells p_d_S_rows p_d_S_cells p_d_T_rows p_d_T_cells p_d_E_rows p_d_E_cells v1 6 ho3) 2 (gV wc_339 wc_340 wc_341 wc_342 wc_343) rfl rfl rfl ⟨rfl, pd_X1_require⟩ ⟨Nat.le_of_ble_eq_true rfl, Nat.le_of_ble_eq_true rfl⟩ 0 rfl rfl rfl rfl (Nat.le_of_ble_eq_true rfl) ⟨Nat.zero_le _, Nat.zero_le _⟩ [0, 1, 2, 3, 4, 5, 6, 7, 8, 9, 10, 11, 12, 13] [] [0, 1, 2, 3, 4, 5, 6, 7, 8, 9, 10, 11, 12, 13] rfl rfl rfl rfl dX1_semicolon_31 34 rfl ?_
    refine v_aload_n X dX1_semicolon_34 0 rfl rfl 35 rfl ?_
    obtain ⟨o4, ho4, hf⟩ := bnd hf
    refine v_callVi X (ci := 1) (T := TX1) (C := RX1) (As := []) (rest := []) (ws' := (wX1 ad c9 o4.2.1 o4.2.2.1 o4.2.2.2.1 o4.2.2.2.2 o3.1 o3.2 p_t_count p_t_cells p_d_time p_d_tolerance p_d_seed p_d_madeTickets p_d_cheesesOfText p_d_R_rows p_d_R_cells p_d_U_rows p_d_U_cells p_d_S_rows p_d_S_cells p_d_T_rows p_d_T_cells p_d_E_rows p_d_E_cells)) (c_X1_take l hG D c9 ad p_start p_end p_kind p_value o3.1 o3.2 p_t_count p_t_cells p_d_time p_d_tolerance p_d_seed p_d_madeTickets p_d_cheesesOfText p_d_R_rows p_d_R_cells p_d_U_rows p_d_U_cells p_d_S_rows p_d_S_cells p_d_T_rows p_d_T_cells p_d_E_rows p_d_E_cells ho4) 0 (gV wc_344 wc_345 wc_346 wc_342 wc_347) rfl rfl rfl ⟨rfl, pd_X1_take⟩ ⟨Nat.le_of_ble_eq_true rfl, Nat.le_of_ble_eq_true rfl⟩ 0 rfl rfl rfl rfl (Nat.le_of_ble_eq_true rfl) ⟨Nat.zero_le _, Nat.zero_le _⟩ [0, 1, 2, 3, 4, 5, 6, 7, 8, 9, 10, 11, 12, 13] [] [0, 1, 2, 3, 4, 5, 6, 7, 8, 9, 10, 11, 12, 13] rfl rfl rfl rfl dX1_semicolon_35 38 rfl ?_
    refine v_pop X dX1_semicolon_38 rfl 39 rfl ?_
    refine v_aload_n X dX1_semicolon_39 0 rfl rfl 40 rfl ?_
    refine v_get X (C := RX1) (T := TX1) (N := 8) (ci := 1) (v := _) dX1_semicolon_40 (lay_of layc_X1) 0 rfl rfl 6 (by decide) (mw wc_312) rfl rfl 43 rfl ?_
    refine v_if_ne X (tgt := 50) dX1_semicolon_43 rfl 46 rfl hf (fun hf => ?_) (fun hf => ?_)
    · refine v_iconst X dX1_semicolon_50 ic_0 51 rfl ?_
      obtain rfl := Option.some.inj hf
      exact v_zret X (Nat.zero_le _) (Nat.zero_le _) nz0 dX1_semicolon_51
    · refine v_iconst X dX1_semicolon_46 ic_1 47 rfl ?_
      refine v_goto X (tgt := 51) dX1_semicolon_47 rfl ?_
      obtain rfl := Option.some.inj hf
      exact v_zret X (Nat.zero_le _) (Nat.zero_le _) nz1 dX1_semicolon_51
  clear hf
  refine v_icmp_ne X (tgt := 22) dX1_semicolon_6 rfl 9 rfl hj1 (fun hf => ?_) (fun hf => ?_)
  · refine v_iconst X dX1_semicolon_22 ic_0 23 rfl ?_
    obtain rfl := Option.some.inj hf
    exact Jj1
  · refine v_aload_n X dX1_semicolon_9 0 rfl rfl 10 rfl ?_
    refine v_get X (C := RX1) (T := TX1) (N := 8) (ci := 1) (v := _) dX1_semicolon_10 (lay_of layc_X1) 0 rfl rfl 5 (by decide) (mw wc_311) rfl rfl 13 rfl ?_
    refine v_bipush X dX1_semicolon_13 bp_59 15 rfl ?_
    refine v_icmp_ne X (tgt := 22) dX1_semicolon_15 rfl 18 rfl hf (fun hf => ?_) (fun hf => ?_)
    · refine v_iconst X dX1_semicolon_22 ic_0 23 rfl ?_
      obtain rfl := Option.some.inj hf
      exact Jj1
    · refine v_iconst X dX1_semicolon_18 ic_1 19 rfl ?_
      refine v_goto X (tgt := 23) dX1_semicolon_19 rfl ?_
      obtain rfl := Option.some.inj hf
      exact Jj1
theorem pd_X1_semicolon : yX1_semicolon.cls ≠ "java/lang/invoke/MethodHandle" ∧ yX1_semicolon.cls ≠ "java/lang/invoke/VarHandle" ∧ (parseMethodDescriptor yX1_semicolon.desc).map (fun d => d.parameters.length) = some 1 := by decide +kernel
def f_X1_readGate (p_start : Int32) (p_end : Int32) (p_kind : Int32) (p_value : Int32) (p_error : Int32) (p_errorAt : Int32) (p_t_count : Int32) (p_t_cells : Nat → Int32) (p_d_time : Int32) (p_d_tolerance : Int32) (p_d_seed : Int32) (p_d_madeTickets : Int32) (p_d_cheesesOfText : Int32) (p_d_R_rows : Int32) (p_d_U_rows : Int32) (p_d_S_rows : Int32) (p_d_T_rows : Int32) (p_d_E_rows : Int32) : Option (Int32 × Int32 × Int32 × Int32 × Int32 × Int32 × Int32 × Int32 × Int32 × Int32 × Int32 × Int32 × Int32 × Int32 × Int32 × Int32) :=
  (f_X1_isWord p_start p_end p_kind p_t_count p_t_cells 22).bind fun o1 =>
  (f_X1_require p_start p_error p_errorAt o1 1).bind fun o2 =>
  (f_X1_take p_start p_end p_kind p_value o2.1 p_t_count p_t_cells).bind fun o3 =>
  (f_X1_number o3.2.1 o3.2.2.1 o3.2.2.2.1 o3.2.2.2.2 o2.1 o2.2 p_t_count p_t_cells 0 9).bind fun o4 =>
  (f_X1_number o4.2.1 o4.2.2.1 o4.2.2.2.1 o4.2.2.2.2.1 o4.2.2.2.2.2.1 o4.2.2.2.2.2.2 p_t_count p_t_cells 0 1023).bind fun o5 =>
  (f_X1_semicolon o5.2.1 o5.2.2.1 o5.2.2.2.1 o5.2.2.2.2.1 o5.2.2.2.2.2.1 o5.2.2.2.2.2.2 p_t_count p_t_cells 1).bind fun o6 =>
  if o6.1 = 0 then (
    some (o6.2.1, o6.2.2.1, o6.2.2.2.1, o6.2.2.2.2.1, o6.2.2.2.2.2.1, o6.2.2.2.2.2.2, p_d_time, p_d_tolerance, p_d_seed, p_d_madeTickets, p_d_cheesesOfText, p_d_R_rows, p_d_U_rows, p_d_S_rows, p_d_T_rows, p_d_E_rows))
  else (
    (f_X5_begin p_d_time p_d_tolerance p_d_seed p_d_madeTickets p_d_cheesesOfText p_d_R_rows p_d_U_rows p_d_S_rows p_d_T_rows p_d_E_rows o4.1 o5.1).bind fun o7 =>
    some (o6.2.1, o6.2.2.1, o6.2.2.2.1, o6.2.2.2.2.1, o6.2.2.2.2.2.1, o6.2.2.2.2.2.2, o7.1, o7.2.1, o7.2.2.1, o7.2.2.2.1, o7.2.2.2.2.1, o7.2.2.2.2.2.1, o7.2.2.2.2.2.2.1, o7.2.2.2.2.2.2.2.1, o7.2.2.2.2.2.2.2.2.1, o7.2.2.2.2.2.2.2.2.2))
set_option maxRecDepth 100000 in
set_option maxHeartbeats 4000000 in
theorem c_X1_readGate (l : Launch) {G : (Nat → Prop) → State → Heap → Prop} (hG : vG G) (D : va_G) (c9 : Nat → ClassId) (sk sv : Nat → Nat) (hGU : ∀ (A : Nat → Prop) (U : State) (H : Heap), G A U H → vU sk sv A U H) (ad : Nat → Nat) (p_start : Int32) (p_end : Int32) (p_kind : Int32) (p_value : Int32) (p_error : Int32) (p_errorAt : Int32) (p_t_count : Int32) (p_t_cells : Nat → Int32) (p_d_time : Int32) (p_d_tolerance : Int32) (p_d_seed : Int32) (p_d_madeTickets : Int32) (p_d_cheesesOfText : Int32) (p_d_R_rows : Int32) (p_d_R_cells : Nat → Int32) (p_d_U_rows : Int32) (p_d_U_cells : Nat → Int32) (p_d_S_rows : Int32) (p_d_S_cells : Nat → Int32) (p_d_T_rows : Int32) (p_d_T_cells : Nat → Int32) (p_d_E_rows : Int32) (p_d_E_cells : Nat → Int32)  {o : Int32 × Int32 × Int32 × Int32 × Int32 × Int32 × Int32 × Int32 × Int32 × Int32 × Int32 × Int32 × Int32 × Int32 × Int32 × Int32} (hf : f_X1_readGate p_start p_end p_kind p_value p_error p_errorAt p_t_count p_t_cells p_d_time p_d_tolerance p_d_seed p_d_madeTickets p_d_cheesesOfText p_d_R_rows p_d_U_rows p_d_S_rows p_d_T_rows p_d_E_rows = some o) : mV l yX1_readGate (wq yX1_readGate cX1_readGate 3 none) { frames := 7, cells := 0, slots := 0, locals := 196 } G D (tyA c9) [.ref (ad 0)] (wX1 ad c9 p_start p_end p_kind p_value p_error p_errorAt p_t_count p_t_cells p_d_time p_d_tolerance p_d_seed p_d_madeTickets p_d_cheesesOfText p_d_R_rows p_d_R_cells p_d_U_rows p_d_U_cells p_d_S_rows p_d_S_cells p_d_T_rows p_d_T_cells p_d_E_rows p_d_E_cells) [] 0 0 (wX1 ad c9 o.1 o.2.1 o.2.2.1 o.2.2.2.1 o.2.2.2.2.1 o.2.2.2.2.2.1 p_t_count p_t_cells o.2.2.2.2.2.2.1 o.2.2.2.2.2.2.2.1 o.2.2.2.2.2.2.2.2.1 o.2.2.2.2.2.2.2.2.2.1 o.2.2.2.2.2.2.2.2.2.2.1 o.2.2.2.2.2.2.2.2.2.2.2.1 p_d_R_cells o.2.2.2.2.2.2.2.2.2.2.2.2.1 p_d_U_cells o.2.2.2.2.2.2.2.2.2.2.2.2.2.1 p_d_S_cells o.2.2.2.2.2.2.2.2.2.2.2.2.2.2.1 p_d_T_cells o.2.2.2.2.2.2.2.2.2.2.2.2.2.2.2 p_d_E_cells) := by
  refine mV_of hG (cc := cX1_readGate) (maxL := 3) (by decide) rfl (Nat.le_of_ble_eq_true rfl) ?_
  intro p e s m args below meth c A hnm X
  have X : vX p s m args meth c cX1_readGate 3 none RX1 (wq yX1_readGate cX1_readGate 3 none) D (tyA c9) G A := X
  refine v_eq (lv2 := [(0, .ref (ad 0))]) rfl rfl rfl rfl ?_
  rw [f_X1_readGate] at hf
  refine v_aload_n X dX1_readGate_0 0 rfl rfl 1 rfl ?_
  refine v_aload_n X dX1_readGate_1 0 rfl rfl 2 rfl ?_
  refine v_lds X hGU (i := 22) dX1_readGate_2 js_RX1_113 4 rfl ?_
  obtain ⟨o1, ho1, hf⟩ := bnd hf
  refine v_callVi X (ci := 1) (T := TX1) (C := RX1) (As := [.ref (sk 22)]) (rest := [.ref (ad 0)]) (ws' := (wX1 ad c9 p_start p_end p_kind p_value p_error p_errorAt p_t_count p_t_cells p_d_time p_d_tolerance p_d_seed p_d_madeTickets p_d_cheesesOfText p_d_R_rows p_d_R_cells p_d_U_rows p_d_U_cells p_d_S_rows p_d_S_cells p_d_T_rows p_d_T_cells p_d_E_rows p_d_E_cells)) (c_X1_isWord l hG D c9 sk sv hGU ad p_start p_end p_kind p_value p_error p_errorAt p_t_count p_t_cells p_d_time p_d_tolerance p_d_seed p_d_madeTickets p_d_cheesesOfText p_d_R_rows p_d_R_cells p_d_U_rows p_d_U_cells p_d_S_rows p_d_S_cells p_d_T_rows p_d_T_cells p_d_E_rows p_d_E_cells 22 (by decide) ho1) 1 (gV wc_348 wc_349 wc_350 wc_342 wc_351) rfl rfl rfl ⟨rfl, pd_X1_isWord⟩ ⟨Nat.le_of_ble_eq_true rfl, Nat.le_of_ble_eq_true rfl⟩ 0 rfl rfl rfl rfl (Nat.le_of_ble_eq_true rfl) ⟨Nat.zero_le _, Nat.zero_le _⟩ [0, 1, 2, 3, 4, 5, 6, 7, 8, 9, 10, 11, 12, 13] [] [0, 1, 2, 3, 4, 5, 6, 7, 8, 9, 10, 11, 12, 13] rfl rfl rfl rfl dX1_readGate_4 7 rfl ?_
  refine v_iconst X dX1_readGate_7 ic_1 8 rfl ?_
  obtain ⟨o2, ho2, hf⟩ := bnd hf
  refine v_callVv X (ci := 1) (T := TX1) (C := RX1) (As := [.int o1, .int 1]) (rest := []) (ws' := (wX1 ad c9 p_start p_end p_kind p_value o2.1 o2.2 p_t_count p_t_cells p_d_time p_d_tolerance p_d_seed p_d_madeTickets p_d_cheesesOfText p_d_R_rows p_d_R_cells p_d_U_rows p_d_U_cells p_d_S_rows p_d_S_cells p_d_T_rows p_d_T_cells p_d_E_rows p_d_E_cells)) (c_X1_require l hG D c9 ad p_start p_end p_kind p_value p_error p_errorAt p_t_count p_t_cells p_d_time p_d_tolerance p_d_seed p_d_madeTickets p_d_cheesesOfText p_d_R_rows p_d_R_cells p_d_U_rows p_d_U_cells p_d_S_rows p_d_S_cells p_d_T_rows p_d_T_cells p_d_E_rows p_d_E_cells o1 1 ho2) 2 (gV wc_339 wc_340 wc_341 wc_342 wc_343) rfl rfl rfl ⟨rfl, pd_X1_require⟩ ⟨Nat.le_of_ble_eq_true rfl, Nat.le_of_ble_eq_true rfl⟩ 0 rfl rfl rfl rfl (Nat.le_of_ble_eq_true rfl) ⟨Nat.zero_le _, Nat.zero_le _⟩ [0, 1, 2, 3, 4, 5, 6, 7, 8, 9, 10, 11, 12, 13] [] [0, 1, 2, 3, 4, 5, 6, 7, 8, 9, 10, 11, 12, 13] rfl rfl rfl rfl dX1_readGate_8 11 rfl ?_
  refine v_aload_n X dX1_readGate_11 0 rfl rfl 12 rfl ?_
  obtain ⟨o3, ho3, hf⟩ := bnd hf
  refine v_callVi X (ci := 1) (T := TX1) (C := RX1) (As := []) (rest := []) (ws' := (wX1 ad c9 o3.2.1 o3.2.2.1 o3.2.2.2.1 o3.2.2.2.2 o2.1 o2.2 p_t_count p_t_cells p_d_time p_d_tolerance p_d_seed p_d_madeTickets p_d_cheesesOfText p_d_R_rows p_d_R_cells p_d_U_rows p_d_U_cells p_d_S_rows p_d_S_cells p_d_T_rows p_d_T_cells p_d_E_rows p_d_E_cells)) (c_X1_take l hG D c9 ad p_start p_end p_kind p_value o2.1 o2.2 p_t_count p_t_cells p_d_time p_d_tolerance p_d_seed p_d_madeTickets p_d_cheesesOfText p_d_R_rows p_d_R_cells p_d_U_rows p_d_U_cells p_d_S_rows p_d_S_cells p_d_T_rows p_d_T_cells p_d_E_rows p_d_E_cells ho3) 0 (gV wc_344 wc_345 wc_346 wc_342 wc_347) rfl rfl rfl ⟨rfl, pd_X1_take⟩ ⟨Nat.le_of_ble_eq_true rfl, Nat.le_of_ble_eq_true rfl⟩ 0 rfl rfl rfl rfl (Nat.le_of_ble_eq_true rfl) ⟨Nat.zero_le _, Nat.zero_le _⟩ [0, 1, 2, 3, 4, 5, 6, 7, 8, 9, 10, 11, 12, 13] [] [0, 1, 2, 3, 4, 5, 6, 7, 8, 9, 10, 11, 12, 13] rfl rfl rfl rfl dX1_readGate_12 15 rfl ?_
  refine v_pop X dX1_readGate_15 rfl 16 rfl ?_
  refine v_aload_n X dX1_readGate_16 0 rfl rfl 17 rfl ?_
  refine v_iconst X dX1_readGate_17 ic_0 18 rfl ?_
  refine v_bipush X dX1_readGate_18 bp_9 20 rfl ?_
  obtain ⟨o4, ho4, hf⟩ := bnd hf
  refine v_callVi X (ci := 1) (T := TX1) (C := RX1) (As := [.int 0, .int 9]) (rest := []) (ws' := (wX1 ad c9 o4.2.1 o4.2.2.1 o4.2.2.2.1 o4.2.2.2.2.1 o4.2.2.2.2.2.1 o4.2.2.2.2.2.2 p_t_count p_t_cells p_d_time p_d_tolerance p_d_seed p_d_madeTickets p_d_cheesesOfText p_d_R_rows p_d_R_cells p_d_U_rows p_d_U_cells p_d_S_rows p_d_S_cells p_d_T_rows p_d_T_cells p_d_E_rows p_d_E_cells)) (c_X1_number l hG D c9 ad o3.2.1 o3.2.2.1 o3.2.2.2.1 o3.2.2.2.2 o2.1 o2.2 p_t_count p_t_cells p_d_time p_d_tolerance p_d_seed p_d_madeTickets p_d_cheesesOfText p_d_R_rows p_d_R_cells p_d_U_rows p_d_U_cells p_d_S_rows p_d_S_cells p_d_T_rows p_d_T_cells p_d_E_rows p_d_E_cells 0 9 ho4) 2 (gV wc_352 wc_353 wc_354 wc_342 wc_355) rfl rfl rfl ⟨rfl, pd_X1_number⟩ ⟨Nat.le_of_ble_eq_true rfl, Nat.le_of_ble_eq_true rfl⟩ 0 rfl rfl rfl rfl (Nat.le_of_ble_eq_true rfl) ⟨Nat.zero_le _, Nat.zero_le _⟩ [0, 1, 2, 3, 4, 5, 6, 7, 8, 9, 10, 11, 12, 13] [] [0, 1, 2, 3, 4, 5, 6, 7, 8, 9, 10, 11, 12, 13] rfl rfl rfl rfl dX1_readGate_20 23 rfl ?_
  refine v_istore_n X (lv' := [(1, .int o4.1), (0, .ref (ad 0))]) dX1_readGate_23 rfl (by decide) rfl 24 rfl ?_
  refine v_aload_n X dX1_readGate_24 1 rfl rfl 25 rfl ?_
  refine v_iconst X dX1_readGate_25 ic_0 26 rfl ?_
  refine v_sipush X dX1_readGate_26 sp_1023 29 rfl ?_
  obtain ⟨o5, ho5, hf⟩ := bnd hf
  refine v_callVi X (ci := 1) (T := TX1) (C := RX1) (As := [.int 0, .int 1023]) (rest := []) (ws' := (wX1 ad c9 o5.2.1 o5.2.2.1 o5.2.2.2.1 o5.2.2.2.2.1 o5.2.2.2.2.2.1 o5.2.2.2.2.2.2 p_t_count p_t_cells p_d_time p_d_tolerance p_d_seed p_d_madeTickets p_d_cheesesOfText p_d_R_rows p_d_R_cells p_d_U_rows p_d_U_cells p_d_S_rows p_d_S_cells p_d_T_rows p_d_T_cells p_d_E_rows p_d_E_cells)) (c_X1_number l hG D c9 ad o4.2.1 o4.2.2.1 o4.2.2.2.1 o4.2.2.2.2.1 o4.2.2.2.2.2.1 o4.2.2.2.2.2.2 p_t_count p_t_cells p_d_time p_d_tolerance p_d_seed p_d_madeTickets p_d_cheesesOfText p_d_R_rows p_d_R_cells p_d_U_rows p_d_U_cells p_d_S_rows p_d_S_cells p_d_T_rows p_d_T_cells p_d_E_rows p_d_E_cells 0 1023 ho5) 2 (gV wc_352 wc_353 wc_354 wc_342 wc_355) rfl rfl rfl ⟨rfl, pd_X1_number⟩ ⟨Nat.le_of_ble_eq_true rfl, Nat.le_of_ble_eq_true rfl⟩ 0 rfl rfl rfl rfl (Nat.le_of_ble_eq_true rfl) ⟨Nat.zero_le _, Nat.zero_le _⟩ [0, 1, 2, 3, 4, 5, 6, 7, 8, 9, 10, 11, 12, 13] [] [0, 1, 2, 3, 4, 5, 6, 7, 8, 9, 10, 11, 12, 13] rfl rfl rfl rfl dX1_readGate_29 32 rfl ?_
  refine v_istore_n X (lv' := [(2, .int o5.1), (1, .int o4.1), (0, .ref (ad 0))]) dX1_readGate_32 rfl (by decide) rfl 33 rfl ?_
  refine v_aload_n X dX1_readGate_33 2 rfl rfl 34 rfl ?_
  refine v_iconst X dX1_readGate_34 ic_1 35 rfl ?_
  obtain ⟨o6, ho6, hf⟩ := bnd hf
  refine v_callVi X (ci := 1) (T := TX1) (C := RX1) (As := [.int 1]) (rest := []) (ws' := (wX1 ad c9 o6.2.1 o6.2.2.1 o6.2.2.2.1 o6.2.2.2.2.1 o6.2.2.2.2.2.1 o6.2.2.2.2.2.2 p_t_count p_t_cells p_d_time p_d_tolerance p_d_seed p_d_madeTickets p_d_cheesesOfText p_d_R_rows p_d_R_cells p_d_U_rows p_d_U_cells p_d_S_rows p_d_S_cells p_d_T_rows p_d_T_cells p_d_E_rows p_d_E_cells)) (c_X1_semicolon l hG D c9 ad o5.2.1 o5.2.2.1 o5.2.2.2.1 o5.2.2.2.2.1 o5.2.2.2.2.2.1 o5.2.2.2.2.2.2 p_t_count p_t_cells p_d_time p_d_tolerance p_d_seed p_d_madeTickets p_d_cheesesOfText p_d_R_rows p_d_R_cells p_d_U_rows p_d_U_cells p_d_S_rows p_d_S_cells p_d_T_rows p_d_T_cells p_d_E_rows p_d_E_cells 1 ho6) 1 (gV wc_356 wc_357 wc_358 wc_342 wc_359) rfl rfl rfl ⟨rfl, pd_X1_semicolon⟩ ⟨Nat.le_of_ble_eq_true rfl, Nat.le_of_ble_eq_true rfl⟩ 0 rfl rfl rfl rfl (Nat.le_of_ble_eq_true rfl) ⟨Nat.zero_le _, Nat.zero_le _⟩ [0, 1, 2, 3, 4, 5, 6, 7, 8, 9, 10, 11, 12, 13] [] [0, 1, 2, 3, 4, 5, 6, 7, 8, 9, 10, 11, 12, 13] rfl rfl rfl rfl dX1_readGate_35 38 rfl ?_
  refine v_if_eq X (tgt := 50) dX1_readGate_38 rfl 41 rfl hf (fun hf => ?_) (fun hf => ?_)
  · obtain rfl := Option.some.inj hf
    exact v_vret X (Nat.zero_le _) (Nat.zero_le _) dX1_readGate_50
  · refine v_aload_n X dX1_readGate_41 2 rfl rfl 42 rfl ?_
    refine v_get X (C := RX1) (T := TX1) (N := 8) (ci := 1) (v := _) dX1_readGate_42 (lay_of layc_X1) 0 rfl rfl 1 (by decide) (mw wc_360) rfl rfl 45 rfl ?_
    refine v_iload_n X dX1_readGate_45 1 rfl rfl 46 rfl ?_
    refine v_iload_n X dX1_readGate_46 0 rfl rfl 47 rfl ?_
    obtain ⟨o7, ho7, hf⟩ := bnd hf
    refine v_callVv X (ci := 5) (T := TX5) (C := RX5) (As := [.int o4.1, .int o5.1]) (rest := []) (ws' := (wX1 ad c9 o6.2.1 o6.2.2.1 o6.2.2.2.1 o6.2.2.2.2.1 o6.2.2.2.2.2.1 o6.2.2.2.2.2.2 p_t_count p_t_cells o7.1 o7.2.1 o7.2.2.1 o7.2.2.2.1 o7.2.2.2.2.1 o7.2.2.2.2.2.1 p_d_R_cells o7.2.2.2.2.2.2.1 p_d_U_cells o7.2.2.2.2.2.2.2.1 p_d_S_cells o7.2.2.2.2.2.2.2.2.1 p_d_T_cells o7.2.2.2.2.2.2.2.2.2 p_d_E_cells)) (c_X5_begin l hG D c9 (fun k => ad ([3, 4, 5, 6, 7, 8, 9, 10, 11, 12, 13].getD k 0)) p_d_time p_d_tolerance p_d_seed p_d_madeTickets p_d_cheesesOfText p_d_R_rows p_d_R_cells p_d_U_rows p_d_U_cells p_d_S_rows p_d_S_cells p_d_T_rows p_d_T_cells p_d_E_rows p_d_E_cells o4.1 o5.1 ho7) 2 (gV wc_361 wc_362 wc_363 wc_239 wc_364) rfl rfl rfl ⟨rfl, pd_X5_begin⟩ ⟨Nat.le_of_ble_eq_true rfl, Nat.le_of_ble_eq_true rfl⟩ 3 rfl rfl rfl rfl (Nat.le_of_ble_eq_true rfl) ⟨Nat.zero_le _, Nat.zero_le _⟩ [3, 4, 5, 6, 7, 8, 9, 10, 11, 12, 13] [0, 1, 2] [0, 1, 2, 3, 4, 5, 6, 7, 8, 9, 10, 11, 12, 13] rfl rfl rfl rfl dX1_readGate_47 50 rfl ?_
    obtain rfl := Option.some.inj hf
    exact v_vret X (Nat.zero_le _) (Nat.zero_le _) dX1_readGate_50
theorem pd_X1_readGate : yX1_readGate.cls ≠ "java/lang/invoke/MethodHandle" ∧ yX1_readGate.cls ≠ "java/lang/invoke/VarHandle" ∧ (parseMethodDescriptor yX1_readGate.desc).map (fun d => d.parameters.length) = some 0 := by decide +kernel
def f_X1_readPass (p_start : Int32) (p_end : Int32) (p_kind : Int32) (p_value : Int32) (p_error : Int32) (p_errorAt : Int32) (p_t_count : Int32) (p_t_cells : Nat → Int32) (p_d_time : Int32) (p_d_tolerance : Int32) (p_d_E_rows : Int32) (p_d_E_cells : Nat → Int32) : Option (Int32 × Int32 × Int32 × Int32 × Int32 × Int32 × Int32 × Int32 × (Nat → Int32)) :=
  (f_X1_take p_start p_end p_kind p_value p_error p_t_count p_t_cells).bind fun o1 =>
  (f_X1_number o1.2.1 o1.2.2.1 o1.2.2.2.1 o1.2.2.2.2 p_error p_errorAt p_t_count p_t_cells 0 999).bind fun o2 =>
  (f_X1_semicolon o2.2.1 o2.2.2.1 o2.2.2.2.1 o2.2.2.2.2.1 o2.2.2.2.2.2.1 o2.2.2.2.2.2.2 p_t_count p_t_cells 1).bind fun o3 =>
  if o3.1 = 0 then (
    some (o3.2.1, o3.2.2.1, o3.2.2.2.1, o3.2.2.2.2.1, o3.2.2.2.2.2.1, o3.2.2.2.2.2.2, p_d_time, p_d_E_rows, p_d_E_cells))
  else (
    (f_X5_letPass p_d_time p_d_tolerance p_d_E_rows p_d_E_cells o2.1).bind fun o4 =>
    some (o3.2.1, o3.2.2.1, o3.2.2.2.1, o3.2.2.2.2.1, o3.2.2.2.2.2.1, o3.2.2.2.2.2.2, o4.1, o4.2.1, o4.2.2))
set_option maxRecDepth 100000 in
set_option maxHeartbeats 4000000 in
theorem c_X1_readPass (l : Launch) {G : (Nat → Prop) → State → Heap → Prop} (hG : vG G) (D : va_G) (c9 : Nat → ClassId) (ad : Nat → Nat) (p_start : Int32) (p_end : Int32) (p_kind : Int32) (p_value : Int32) (p_error : Int32) (p_errorAt : Int32) (p_t_count : Int32) (p_t_cells : Nat → Int32) (p_d_time : Int32) (p_d_tolerance : Int32) (p_d_seed : Int32) (p_d_madeTickets : Int32) (p_d_cheesesOfText : Int32) (p_d_R_rows : Int32) (p_d_R_cells : Nat → Int32) (p_d_U_rows : Int32) (p_d_U_cells : Nat → Int32) (p_d_S_rows : Int32) (p_d_S_cells : Nat → Int32) (p_d_T_rows : Int32) (p_d_T_cells : Nat → Int32) (p_d_E_rows : Int32) (p_d_E_cells : Nat → Int32)  {o : Int32 × Int32 × Int32 × Int32 × Int32 × Int32 × Int32 × Int32 × (Nat → Int32)} (hf : f_X1_readPass p_start p_end p_kind p_value p_error p_errorAt p_t_count p_t_cells p_d_time p_d_tolerance p_d_E_rows p_d_E_cells = some o) : mV l yX1_readPass (wq yX1_readPass cX1_readPass 2 none) { frames := 4, cells := 0, slots := 0, locals := 108 } G D (tyA c9) [.ref (ad 0)] (wX1 ad c9 p_start p_end p_kind p_value p_error p_errorAt p_t_count p_t_cells p_d_time p_d_tolerance p_d_seed p_d_madeTickets p_d_cheesesOfText p_d_R_rows p_d_R_cells p_d_U_rows p_d_U_cells p_d_S_rows p_d_S_cells p_d_T_rows p_d_T_cells p_d_E_rows p_d_E_cells) [] 0 0 (wX1 ad c9 o.1 o.2.1 o.2.2.1 o.2.2.2.1 o.2.2.2.2.1 o.2.2.2.2.2.1 p_t_count p_t_cells o.2.2.2.2.2.2.1 p_d_tolerance p_d_seed p_d_madeTickets p_d_cheesesOfText p_d_R_rows p_d_R_cells p_d_U_rows p_d_U_cells p_d_S_rows p_d_S_cells p_d_T_rows p_d_T_cells o.2.2.2.2.2.2.2.1 o.2.2.2.2.2.2.2.2) := by
  refine mV_of hG (cc := cX1_readPass) (maxL := 2) (by decide) rfl (Nat.le_of_ble_eq_true rfl) ?_
  intro p e s m args below meth c A hnm X
  have X : vX p s m args meth c cX1_readPass 2 none RX1 (wq yX1_readPass cX1_readPass 2 none) D (tyA c9) G A := X
  refine v_eq (lv2 := [(0, .ref (ad 0))]) rfl rfl rfl rfl ?_
  rw [f_X1_readPass] at hf
  refine v_aload_n X dX1_readPass_0 0 rfl rfl 1 rfl ?_
  obtain ⟨o1, ho1, hf⟩ := bnd hf
  refine v_callVi X (ci := 1) (T := TX1) (C := RX1) (As := []) (rest := []) (ws' := (wX1 ad c9 o1.2.1 o1.2.2.1 o1.2.2.2.1 o1.2.2.2.2 p_error p_errorAt p_t_count p_t_cells p_d_time p_d_tolerance p_d_seed p_d_madeTickets p_d_cheesesOfText p_d_R_rows p_d_R_cells p_d_U_rows p_d_U_cells p_d_S_rows p_d_S_cells p_d_T_rows p_d_T_cells p_d_E_rows p_d_E_cells)) (c_X1_take l hG D c9 ad p_start p_end p_kind p_value p_error p_errorAt p_t_count p_t_cells p_d_time p_d_tolerance p_d_seed p_d_madeTickets p_d_cheesesOfText p_d_R_rows p_d_R_cells p_d_U_rows p_d_U_cells p_d_S_rows p_d_S_cells p_d_T_rows p_d_T_cells p_d_E_rows p_d_E_cells ho1) 0 (gV wc_344 wc_345 wc_346 wc_342 wc_347) rfl rfl rfl ⟨rfl, pd_X1_take⟩ ⟨Nat.le_of_ble_eq_true rfl, Nat.le_of_ble_eq_true rfl⟩ 0 rfl rfl rfl rfl (Nat.le_of_ble_eq_true rfl) ⟨Nat.zero_le _, Nat.zero_le _⟩ [0, 1, 2, 3, 4, 5, 6, 7, 8, 9, 10, 11, 12, 13] [] [0, 1, 2, 3, 4, 5, 6, 7, 8, 9, 10, 11, 12, 13] rfl rfl rfl rfl dX1_readPass_1 4 rfl ?_
  refine v_pop X dX1_readPass_4 rfl 5 rfl ?_
  refine v_aload_n X dX1_readPass_5 0 rfl rfl 6 rfl ?_
  refine v_iconst X dX1_readPass_6 ic_0 7 rfl ?_
  refine v_sipush X dX1_readPass_7 sp_999 10 rfl ?_
  obtain ⟨o2, ho2, hf⟩ := bnd hf
  refine v_callVi X (ci := 1) (T := TX1) (C := RX1) (As := [.int 0, .int 999]) (rest := []) (ws' := (wX1 ad c9 o2.2.1 o2.2.2.1 o2.2.2.2.1 o2.2.2.2.2.1 o2.2.2.2.2.2.1 o2.2.2.2.2.2.2 p_t_count p_t_cells p_d_time p_d_tolerance p_d_seed p_d_madeTickets p_d_cheesesOfText p_d_R_rows p_d_R_cells p_d_U_rows p_d_U_cells p_d_S_rows p_d_S_cells p_d_T_rows p_d_T_cells p_d_E_rows p_d_E_cells)) (c_X1_number l hG D c9 ad o1.2.1 o1.2.2.1 o1.2.2.2.1 o1.2.2.2.2 p_error p_errorAt p_t_count p_t_cells p_d_time p_d_tolerance p_d_seed p_d_madeTickets p_d_cheesesOfText p_d_R_rows p_d_R_cells p_d_U_rows p_d_U_cells p_d_S_rows p_d_S_cells p_d_T_rows p_d_T_cells p_d_E_rows p_d_E_cells 0 999 ho2) 2 (gV wc_352 wc_353 wc_354 wc_342 wc_355) rfl rfl rfl ⟨rfl, pd_X1_number⟩ ⟨Nat.le_of_ble_eq_true rfl, Nat.le_of_ble_eq_true rfl⟩ 0 rfl rfl rfl rfl (Nat.le_of_ble_eq_true rfl) ⟨Nat.zero_le _, Nat.zero_le _⟩ [0, 1, 2, 3, 4, 5, 6, 7, 8, 9, 10, 11, 12, 13] [] [0, 1, 2, 3, 4, 5, 6, 7, 8, 9, 10, 11, 12, 13] rfl rfl rfl rfl dX1_readPass_10 13 rfl ?_
  refine v_istore_n X (lv' := [(1, .int o2.1), (0, .ref (ad 0))]) dX1_readPass_13 rfl (by decide) rfl 14 rfl ?_
  refine v_aload_n X dX1_readPass_14 1 rfl rfl 15 rfl ?_
  refine v_iconst X dX1_readPass_15 ic_1 16 rfl ?_
  obtain ⟨o3, ho3, hf⟩ := bnd hf
  refine v_callVi X (ci := 1) (T := TX1) (C := RX1) (As := [.int 1]) (rest := []) (ws' := (wX1 ad c9 o3.2.1 o3.2.2.1 o3.2.2.2.1 o3.2.2.2.2.1 o3.2.2.2.2.2.1 o3.2.2.2.2.2.2 p_t_count p_t_cells p_d_time p_d_tolerance p_d_seed p_d_madeTickets p_d_cheesesOfText p_d_R_rows p_d_R_cells p_d_U_rows p_d_U_cells p_d_S_rows p_d_S_cells p_d_T_rows p_d_T_cells p_d_E_rows p_d_E_cells)) (c_X1_semicolon l hG D c9 ad o2.2.1 o2.2.2.1 o2.2.2.2.1 o2.2.2.2.2.1 o2.2.2.2.2.2.1 o2.2.2.2.2.2.2 p_t_count p_t_cells p_d_time p_d_tolerance p_d_seed p_d_madeTickets p_d_cheesesOfText p_d_R_rows p_d_R_cells p_d_U_rows p_d_U_cells p_d_S_rows p_d_S_cells p_d_T_rows p_d_T_cells p_d_E_rows p_d_E_cells 1 ho3) 1 (gV wc_356 wc_357 wc_358 wc_342 wc_359) rfl rfl rfl ⟨rfl, pd_X1_semicolon⟩ ⟨Nat.le_of_ble_eq_true rfl, Nat.le_of_ble_eq_true rfl⟩ 0 rfl rfl rfl rfl (Nat.le_of_ble_eq_true rfl) ⟨Nat.zero_le _, Nat.zero_le _⟩ [0, 1, 2, 3, 4, 5, 6, 7, 8, 9, 10, 11, 12, 13] [] [0, 1, 2, 3, 4, 5, 6, 7, 8, 9, 10, 11, 12, 13] rfl rfl rfl rfl dX1_readPass_16 19 rfl ?_
  refine v_if_eq X (tgt := 30) dX1_readPass_19 rfl 22 rfl hf (fun hf => ?_) (fun hf => ?_)
  · obtain rfl := Option.some.inj hf
    exact v_vret X (Nat.zero_le _) (Nat.zero_le _) dX1_readPass_30
  · refine v_aload_n X dX1_readPass_22 1 rfl rfl 23 rfl ?_
    refine v_get X (C := RX1) (T := TX1) (N := 8) (ci := 1) (v := _) dX1_readPass_23 (lay_of layc_X1) 0 rfl rfl 1 (by decide) (mw wc_360) rfl rfl 26 rfl ?_
    refine v_iload_n X dX1_readPass_26 0 rfl rfl 27 rfl ?_
    obtain ⟨o4, ho4, hf⟩ := bnd hf
    refine v_callVv X (ci := 5) (T := TX5) (C := RX5) (As := [.int o2.1]) (rest := []) (ws' := (wX1 ad c9 o3.2.1 o3.2.2.1 o3.2.2.2.1 o3.2.2.2.2.1 o3.2.2.2.2.2.1 o3.2.2.2.2.2.2 p_t_count p_t_cells o4.1 p_d_tolerance p_d_seed p_d_madeTickets p_d_cheesesOfText p_d_R_rows p_d_R_cells p_d_U_rows p_d_U_cells p_d_S_rows p_d_S_cells p_d_T_rows p_d_T_cells o4.2.1 o4.2.2)) (c_X5_letPass l hG D c9 (fun k => ad ([3, 4, 5, 6, 7, 8, 9, 10, 11, 12, 13].getD k 0)) p_d_time p_d_tolerance p_d_seed p_d_madeTickets p_d_cheesesOfText p_d_R_rows p_d_R_cells p_d_U_rows p_d_U_cells p_d_S_rows p_d_S_cells p_d_T_rows p_d_T_cells p_d_E_rows p_d_E_cells o2.1 ho4) 1 (gV wc_365 wc_366 wc_367 wc_239 wc_368) rfl rfl rfl ⟨rfl, pd_X5_letPass⟩ ⟨Nat.le_of_ble_eq_true rfl, Nat.le_of_ble_eq_true rfl⟩ 3 rfl rfl rfl rfl (Nat.le_of_ble_eq_true rfl) ⟨Nat.zero_le _, Nat.zero_le _⟩ [3, 4, 5, 6, 7, 8, 9, 10, 11, 12, 13] [0, 1, 2] [0, 1, 2, 3, 4, 5, 6, 7, 8, 9, 10, 11, 12, 13] rfl rfl rfl rfl dX1_readPass_27 30 rfl ?_
    obtain rfl := Option.some.inj hf
    exact v_vret X (Nat.zero_le _) (Nat.zero_le _) dX1_readPass_30
theorem pd_X1_readPass : yX1_readPass.cls ≠ "java/lang/invoke/MethodHandle" ∧ yX1_readPass.cls ≠ "java/lang/invoke/VarHandle" ∧ (parseMethodDescriptor yX1_readPass.desc).map (fun d => d.parameters.length) = some 0 := by decide +kernel
def f_X1_readSweep (p_start : Int32) (p_end : Int32) (p_kind : Int32) (p_value : Int32) (p_error : Int32) (p_errorAt : Int32) (p_t_count : Int32) (p_t_cells : Nat → Int32) (p_d_time : Int32) (p_d_T_rows : Int32) (p_d_T_cells : Nat → Int32) : Option (Int32 × Int32 × Int32 × Int32 × Int32 × Int32 × Int32 × (Nat → Int32)) :=
  (f_X1_take p_start p_end p_kind p_value p_error p_t_count p_t_cells).bind fun o1 =>
  (f_X1_semicolon o1.2.1 o1.2.2.1 o1.2.2.2.1 o1.2.2.2.2 p_error p_errorAt p_t_count p_t_cells 1).bind fun o2 =>
  if o2.1 = 0 then (
    some (o2.2.1, o2.2.2.1, o2.2.2.2.1, o2.2.2.2.2.1, o2.2.2.2.2.2.1, o2.2.2.2.2.2.2, p_d_T_rows, p_d_T_cells))
  else (
    (f_X7_removeDead p_d_T_rows p_d_T_cells p_d_time).bind fun o3 =>
    some (o2.2.1, o2.2.2.1, o2.2.2.2.1, o2.2.2.2.2.1, o2.2.2.2.2.2.1, o2.2.2.2.2.2.2, o3.2.1, o3.2.2))
set_option maxRecDepth 100000 in
set_option maxHeartbeats 4000000 in
theorem c_X1_readSweep (l : Launch) {G : (Nat → Prop) → State → Heap → Prop} (hG : vG G) (D : va_G) (c9 : Nat → ClassId) (ad : Nat → Nat) (p_start : Int32) (p_end : Int32) (p_kind : Int32) (p_value : Int32) (p_error : Int32) (p_errorAt : Int32) (p_t_count : Int32) (p_t_cells : Nat → Int32) (p_d_time : Int32) (p_d_tolerance : Int32) (p_d_seed : Int32) (p_d_madeTickets : Int32) (p_d_cheesesOfText : Int32) (p_d_R_rows : Int32) (p_d_R_cells : Nat → Int32) (p_d_U_rows : Int32) (p_d_U_cells : Nat → Int32) (p_d_S_rows : Int32) (p_d_S_cells : Nat → Int32) (p_d_T_rows : Int32) (p_d_T_cells : Nat → Int32) (p_d_E_rows : Int32) (p_d_E_cells : Nat → Int32)  {o : Int32 × Int32 × Int32 × Int32 × Int32 × Int32 × Int32 × (Nat → Int32)} (hf : f_X1_readSweep p_start p_end p_kind p_value p_error p_errorAt p_t_count p_t_cells p_d_time p_d_T_rows p_d_T_cells = some o) : mV l yX1_readSweep (wq yX1_readSweep cX1_readSweep 1 none) { frames := 4, cells := 0, slots := 0, locals := 107 } G D (tyA c9) [.ref (ad 0)] (wX1 ad c9 p_start p_end p_kind p_value p_error p_errorAt p_t_count p_t_cells p_d_time p_d_tolerance p_d_seed p_d_madeTickets p_d_cheesesOfText p_d_R_rows p_d_R_cells p_d_U_rows p_d_U_cells p_d_S_rows p_d_S_cells p_d_T_rows p_d_T_cells p_d_E_rows p_d_E_cells) [] 0 0 (wX1 ad c9 o.1 o.2.1 o.2.2.1 o.2.2.2.1 o.2.2.2.2.1 o.2.2.2.2.2.1 p_t_count p_t_cells p_d_time p_d_tolerance p_d_seed p_d_madeTickets p_d_cheesesOfText p_d_R_rows p_d_R_cells p_d_U_rows p_d_U_cells p_d_S_rows p_d_S_cells o.2.2.2.2.2.2.1 o.2.2.2.2.2.2.2 p_d_E_rows p_d_E_cells) := by
  refine mV_of hG (cc := cX1_readSweep) (maxL := 1) (by decide) rfl (Nat.le_of_ble_eq_true rfl) ?_
  intro p e s m args below meth c A hnm X
  have X : vX p s m args meth c cX1_readSweep 1 none RX1 (wq yX1_readSweep cX1_readSweep 1 none) D (tyA c9) G A := X
  refine v_eq (lv2 := [(0, .ref (ad 0))]) rfl rfl rfl rfl ?_
  rw [f_X1_readSweep] at hf
  refine v_aload_n X dX1_readSweep_0 0 rfl rfl 1 rfl ?_
  obtain ⟨o1, ho1, hf⟩ := bnd hf
  refine v_callVi X (ci := 1) (T := TX1) (C := RX1) (As := []) (rest := []) (ws' := (wX1 ad c9 o1.2.1 o1.2.2.1 o1.2.2.2.1 o1.2.2.2.2 p_error p_errorAt p_t_count p_t_cells p_d_time p_d_tolerance p_d_seed p_d_madeTickets p_d_cheesesOfText p_d_R_rows p_d_R_cells p_d_U_rows p_d_U_cells p_d_S_rows p_d_S_cells p_d_T_rows p_d_T_cells p_d_E_rows p_d_E_cells)) (c_X1_take l hG D c9 ad p_start p_end p_kind p_value p_error p_errorAt p_t_count p_t_cells p_d_time p_d_tolerance p_d_seed p_d_madeTickets p_d_cheesesOfText p_d_R_rows p_d_R_cells p_d_U_rows p_d_U_cells p_d_S_rows p_d_S_cells p_d_T_rows p_d_T_cells p_d_E_rows p_d_E_cells ho1) 0 (gV wc_344 wc_345 wc_346 wc_342 wc_347) rfl rfl rfl ⟨rfl, pd_X1_take⟩ ⟨Nat.le_of_ble_eq_true rfl, Nat.le_of_ble_eq_true rfl⟩ 0 rfl rfl rfl rfl (Nat.le_of_ble_eq_true rfl) ⟨Nat.zero_le _, Nat.zero_le _⟩ [0, 1, 2, 3, 4, 5, 6, 7, 8, 9, 10, 11, 12, 13] [] [0, 1, 2, 3, 4, 5, 6, 7, 8, 9, 10, 11, 12, 13] rfl rfl rfl rfl dX1_readSweep_1 4 rfl ?_
  refine v_pop X dX1_readSweep_4 rfl 5 rfl ?_
  refine v_aload_n X dX1_readSweep_5 0 rfl rfl 6 rfl ?_
  refine v_iconst X dX1_readSweep_6 ic_1 7 rfl ?_
  obtain ⟨o2, ho2, hf⟩ := bnd hf
  refine v_callVi X (ci := 1) (T := TX1) (C := RX1) (As := [.int 1]) (rest := []) (ws' := (wX1 ad c9 o2.2.1 o2.2.2.1 o2.2.2.2.1 o2.2.2.2.2.1 o2.2.2.2.2.2.1 o2.2.2.2.2.2.2 p_t_count p_t_cells p_d_time p_d_tolerance p_d_seed p_d_madeTickets p_d_cheesesOfText p_d_R_rows p_d_R_cells p_d_U_rows p_d_U_cells p_d_S_rows p_d_S_cells p_d_T_rows p_d_T_cells p_d_E_rows p_d_E_cells)) (c_X1_semicolon l hG D c9 ad o1.2.1 o1.2.2.1 o1.2.2.2.1 o1.2.2.2.2 p_error p_errorAt p_t_count p_t_cells p_d_time p_d_tolerance p_d_seed p_d_madeTickets p_d_cheesesOfText p_d_R_rows p_d_R_cells p_d_U_rows p_d_U_cells p_d_S_rows p_d_S_cells p_d_T_rows p_d_T_cells p_d_E_rows p_d_E_cells 1 ho2) 1 (gV wc_356 wc_357 wc_358 wc_342 wc_359) rfl rfl rfl ⟨rfl, pd_X1_semicolon⟩ ⟨Nat.le_of_ble_eq_true rfl, Nat.le_of_ble_eq_true rfl⟩ 0 rfl rfl rfl rfl (Nat.le_of_ble_eq_true rfl) ⟨Nat.zero_le _, Nat.zero_le _⟩ [0, 1, 2, 3, 4, 5, 6, 7, 8, 9, 10, 11, 12, 13] [] [0, 1, 2, 3, 4, 5, 6, 7, 8, 9, 10, 11, 12, 13] rfl rfl rfl rfl dX1_readSweep_7 10 rfl ?_
  refine v_if_eq X (tgt := 31) dX1_readSweep_10 rfl 13 rfl hf (fun hf => ?_) (fun hf => ?_)
  · obtain rfl := Option.some.inj hf
    exact v_vret X (Nat.zero_le _) (Nat.zero_le _) dX1_readSweep_31
  · refine v_aload_n X dX1_readSweep_13 0 rfl rfl 14 rfl ?_
    refine v_get X (C := RX1) (T := TX1) (N := 8) (ci := 1) (v := _) dX1_readSweep_14 (lay_of layc_X1) 0 rfl rfl 1 (by decide) (mw wc_360) rfl rfl 17 rfl ?_
    refine v_getN X (C := RX5) (T := TX5) (N := 10) (ci := 5) (v := _) dX1_readSweep_17 (lay_of layc_X5) 3 rfl rfl 3 (by decide) nest_RX1_225 rfl rfl 20 rfl ?_
    refine v_aload_n X dX1_readSweep_20 0 rfl rfl 21 rfl ?_
    refine v_get X (C := RX1) (T := TX1) (N := 8) (ci := 1) (v := _) dX1_readSweep_21 (lay_of layc_X1) 0 rfl rfl 1 (by decide) (mw wc_360) rfl rfl 24 rfl ?_
    refine v_getN X (C := RX5) (T := TX5) (N := 10) (ci := 5) (v := _) dX1_readSweep_24 (lay_of layc_X5) 3 rfl rfl 5 (by decide) nest_RX1_235 rfl rfl 27 rfl ?_
    obtain ⟨o3, ho3, hf⟩ := bnd hf
    refine v_callVi X (ci := 6) (T := TX7) (C := RX7) (As := [.int p_d_time]) (rest := []) (ws' := (wX1 ad c9 o2.2.1 o2.2.2.1 o2.2.2.2.1 o2.2.2.2.2.1 o2.2.2.2.2.2.1 o2.2.2.2.2.2.2 p_t_count p_t_cells p_d_time p_d_tolerance p_d_seed p_d_madeTickets p_d_cheesesOfText p_d_R_rows p_d_R_cells p_d_U_rows p_d_U_cells p_d_S_rows p_d_S_cells o3.2.1 o3.2.2 p_d_E_rows p_d_E_cells)) (c_X7_removeDead l hG D c9 (fun k => ad ([10, 11].getD k 0)) p_d_T_rows p_d_T_cells p_d_time ho3) 1 (gV wc_369 wc_370 wc_371 wc_100 wc_372) rfl rfl rfl ⟨rfl, pd_X7_removeDead⟩ ⟨Nat.le_of_ble_eq_true rfl, Nat.le_of_ble_eq_true rfl⟩ 10 rfl rfl rfl rfl (Nat.le_of_ble_eq_true rfl) ⟨Nat.zero_le _, Nat.zero_le _⟩ [10, 11] [0, 1, 2, 3, 4, 5, 6, 7, 8, 9, 12, 13] [0, 1, 2, 3, 4, 5, 6, 7, 8, 9, 12, 13, 10, 11] rfl rfl rfl rfl dX1_readSweep_27 30 rfl ?_
    refine v_pop X dX1_readSweep_30 rfl 31 rfl ?_
    obtain rfl := Option.some.inj hf
    exact v_vret X (Nat.zero_le _) (Nat.zero_le _) dX1_readSweep_31
theorem pd_X1_readSweep : yX1_readSweep.cls ≠ "java/lang/invoke/MethodHandle" ∧ yX1_readSweep.cls ≠ "java/lang/invoke/VarHandle" ∧ (parseMethodDescriptor yX1_readSweep.desc).map (fun d => d.parameters.length) = some 0 := by decide +kernel
