theorem pd_X6_addRow_UX5_makeTicket_157 : "TicketGate$Table" ≠ "java/lang/invoke/MethodHandle" ∧ "TicketGate$Table" ≠ "java/lang/invoke/VarHandle" ∧ (parseMethodDescriptor "()I").map (fun d => d.parameters.length) = some 0 := by decide +kernel
theorem pd_X6_set_UX5_makeTicket_136 : "TicketGate$Table" ≠ "java/lang/invoke/MethodHandle" ∧ "TicketGate$Table" ≠ "java/lang/invoke/VarHandle" ∧ (parseMethodDescriptor "(III)V").map (fun d => d.parameters.length) = some 3 := by decide +kernel
def f_X5_makeTicket (s_time : Int32) (s_seed : Int32) (s_madeTickets : Int32) (s_T_rows : Int32) (s_T_cells : Nat → Int32) (v1 : Int32) (v2 : Int32) (v3 : Int32) : Option (Int32 × Int32 × Int32 × Int32 × (Nat → Int32)) :=
  (f_X6_addRow 240 24 s_T_rows).bind fun o1 =>
  (f_X6_set 240 10 o1.2 s_T_cells o1.1 0 s_madeTickets).bind fun o2 =>
  Option.bind (if v3 = (-1) then (
    some (0))
  else (
    some (1)) : Option (Int32)) fun j3 =>
  (f_X6_set 240 10 o1.2 o2 o1.1 1 j3).bind fun o4 =>
  (f_X6_set 240 10 o1.2 o4 o1.1 2 v1).bind fun o5 =>
  (f_X6_set 240 10 o1.2 o5 o1.1 3 v2).bind fun o6 =>
  (f_X6_set 240 10 o1.2 o6 o1.1 4 v3).bind fun o7 =>
  (f_X6_set 240 10 o1.2 o7 o1.1 5 s_time).bind fun o8 =>
  (f_X5_drawKey s_seed).bind fun o9 =>
  (f_X6_set 240 10 o1.2 o8 o1.1 8 o9.1).bind fun o10 =>
  some (o1.1, o9.2, (s_madeTickets + 1), o1.2, o10)
set_option maxRecDepth 100000 in
set_option maxHeartbeats 4000000 in
theorem c_X5_makeTicket (l : Launch) {G : (Nat → Prop) → State → Heap → Prop} (hG : vG G) (D : va_G) (c9 : Nat → ClassId) (ad : Nat → Nat) (s_time : Int32) (s_tolerance : Int32) (s_seed : Int32) (s_madeTickets : Int32) (s_cheesesOfText : Int32) (s_R_rows : Int32) (s_R_cells : Nat → Int32) (s_U_rows : Int32) (s_U_cells : Nat → Int32) (s_S_rows : Int32) (s_S_cells : Nat → Int32) (s_T_rows : Int32) (s_T_cells : Nat → Int32) (s_E_rows : Int32) (s_E_cells : Nat → Int32) (v1 : Int32) (v2 : Int32) (v3 : Int32) {o : Int32 × Int32 × Int32 × Int32 × (Nat → Int32)} (hf : f_X5_makeTicket s_time s_seed s_madeTickets s_T_rows s_T_cells v1 v2 v3 = some o) : mI l yX5_makeTicket (wq yX5_makeTicket cX5_makeTicket 5 (some .int)) { frames := 1, cells := 0, slots := 0, locals := 24 } G D (tyA c9) [.ref (ad 0), .int v1, .int v2, .int v3] (wX5 ad c9 s_time s_tolerance s_seed s_madeTickets s_cheesesOfText s_R_rows s_R_cells s_U_rows s_U_cells s_S_rows s_S_cells s_T_rows s_T_cells s_E_rows s_E_cells) [] 0 0 o.1 (wX5 ad c9 s_time s_tolerance o.2.1 o.2.2.1 s_cheesesOfText s_R_rows s_R_cells s_U_rows s_U_cells s_S_rows s_S_cells o.2.2.2.1 o.2.2.2.2 s_E_rows s_E_cells) := by
  refine mI_of hG (cc := cX5_makeTicket) (maxL := 5) (ty := .int) (by decide) rfl (Nat.le_of_ble_eq_true rfl) ?_
  intro p e s m args below meth c A X
  have X : vX p s m args meth c cX5_makeTicket 5 (some .int) RX5 (wq yX5_makeTicket cX5_makeTicket 5 (some .int)) D (tyA c9) G A := X
  refine v_eq (lv2 := [(0, .ref (ad 0)), (1, .int v1), (2, .int v2), (3, .int v3)]) rfl rfl rfl rfl ?_
  rw [f_X5_makeTicket] at hf
  refine v_aload_n X dX5_makeTicket_0 0 rfl rfl 1 rfl ?_
  refine v_get X (C := RX5) (T := TX5) (N := 10) (ci := 7) (v := _) dX5_makeTicket_1 (lay_of layc_X5) 0 rfl rfl 3 (by decide) (mw wc_178) rfl rfl 4 rfl ?_
  obtain ⟨o1, ho1, hf⟩ := bnd hf
  refine v_callUi X (ci := 8) (T := TX7) (C := RX7) (owner := "TicketGate$Table") (As := []) (rest := []) (ws' := (wX5 ad c9 s_time s_tolerance s_seed s_madeTickets s_cheesesOfText s_R_rows s_R_cells s_U_rows s_U_cells s_S_rows s_S_cells o1.2 s_T_cells s_E_rows s_E_cells)) (c_X6_addRow l hG D c9 (fun k => ad ([7, 8].getD k 0)) 240 8 RX7 rfl layc_X7 24 10 s_T_rows s_T_cells ho1) 0 (gU wc_261 wc_262 wc_263 wc_48 wc_34 wc_49) rfl rfl rfl rfl pd_X6_addRow_UX5_makeTicket_157 ⟨Nat.le_of_ble_eq_true rfl, Nat.le_of_ble_eq_true rfl⟩ 7 rfl rfl rfl rfl (Nat.le_of_ble_eq_true rfl) ⟨Nat.zero_le _, Nat.zero_le _⟩ [7, 8] [0, 1, 2, 3, 4, 5, 6, 9, 10] [0, 1, 2, 3, 4, 5, 6, 9, 10, 7, 8] rfl rfl rfl rfl dX5_makeTicket_4 7 rfl ?_
  refine v_istore X (lv' := [(4, .int o1.1), (0, .ref (ad 0)), (1, .int v1), (2, .int v2), (3, .int v3)]) dX5_makeTicket_7 (by decide) rfl 9 rfl ?_
  refine v_aload_n X dX5_makeTicket_9 1 rfl rfl 10 rfl ?_
  refine v_get X (C := RX5) (T := TX5) (N := 10) (ci := 7) (v := _) dX5_makeTicket_10 (lay_of layc_X5) 0 rfl rfl 3 (by decide) (mw wc_178) rfl rfl 13 rfl ?_
  refine v_iload X dX5_makeTicket_13 0 rfl 15 rfl ?_
  refine v_iconst X dX5_makeTicket_15 ic_0 16 rfl ?_
  refine v_aload_n X dX5_makeTicket_16 1 rfl rfl 17 rfl ?_
  refine v_get X (C := RX5) (T := TX5) (N := 10) (ci := 7) (v := _) dX5_makeTicket_17 (lay_of layc_X5) 0 rfl rfl 8 (by decide) (mw wc_189) rfl rfl 20 rfl ?_
  obtain ⟨o2, ho2, hf⟩ := bnd hf
  refine v_callUv X (ci := 8) (T := TX7) (C := RX7) (owner := "TicketGate$Table") (As := [.int o1.1, .int 0, .int s_madeTickets]) (rest := []) (ws' := (wX5 ad c9 s_time s_tolerance s_seed s_madeTickets s_cheesesOfText s_R_rows s_R_cells s_U_rows s_U_cells s_S_rows s_S_cells o1.2 o2 s_E_rows s_E_cells)) (c_X6_set l hG D c9 (fun k => ad ([7, 8].getD k 0)) 240 8 RX7 rfl layc_X7 24 10 o1.2 s_T_cells o1.1 0 s_madeTickets ho2) 3 (gU wc_264 wc_265 wc_266 wc_53 wc_34 wc_54) rfl rfl rfl rfl pd_X6_set_UX5_makeTicket_136 ⟨Nat.le_of_ble_eq_true rfl, Nat.le_of_ble_eq_true rfl⟩ 7 rfl rfl rfl rfl (Nat.le_of_ble_eq_true rfl) ⟨Nat.zero_le _, Nat.zero_le _⟩ [7, 8] [0, 1, 2, 3, 4, 5, 6, 9, 10] [0, 1, 2, 3, 4, 5, 6, 9, 10, 7, 8] rfl rfl rfl rfl dX5_makeTicket_20 23 rfl ?_
  refine v_aload_n X dX5_makeTicket_23 1 rfl rfl 24 rfl ?_
  refine v_get X (C := RX5) (T := TX5) (N := 10) (ci := 7) (v := _) dX5_makeTicket_24 (lay_of layc_X5) 0 rfl rfl 3 (by decide) (mw wc_178) rfl rfl 27 rfl ?_
  refine v_iload X dX5_makeTicket_27 0 rfl 29 rfl ?_
  refine v_iconst X dX5_makeTicket_29 ic_1 30 rfl ?_
  refine v_iload_n X dX5_makeTicket_30 4 rfl rfl 31 rfl ?_
  refine v_iconst X dX5_makeTicket_31 ic_m1 32 rfl ?_
  obtain ⟨j3, hj3, hf⟩ := bnd hf
  have Jj3 : vW p l e { frames := 1, cells := 0, slots := 0, locals := 24 } s m args below meth c 5 D A [] 0 0 (MQ below (eI D (tyA c9) A o.1 ((wX5 ad c9 s_time s_tolerance o.2.1 o.2.2.1 s_cheesesOfText s_R_rows s_R_cells s_U_rows s_U_cells s_S_rows s_S_cells o.2.2.2.1 o.2.2.2.2 s_E_rows s_E_cells) ++ [])) args s 0 0 A) (wX5 ad c9 s_time s_tolerance s_seed s_madeTickets s_cheesesOfText s_R_rows s_R_cells s_U_rows s_U_cells s_S_rows s_S_cells o1.2 o2 s_E_rows s_E_cells) 40 [(0, .ref (ad 0)), (1, .int v1), (2, .int v2), (3, .int v3), (4, .int o1.1)] [.int j3, .int 1, .int o1.1, .ref (ad 7)] := by
    obtain ⟨o4, ho4, hf⟩ := bnd hf
    refine v_callUv X (ci := 8) (T := TX7) (C := RX7) (owner := "TicketGate$Table") (As := [.int o1.1, .int 1, .int j3]) (rest := []) (ws' := (wX5 ad c9 s_time s_tolerance s_seed s_madeTickets s_cheesesOfText s_R_rows s_R_cells s_U_rows s_U_cells s_S_rows s_S_cells o1.2 o4 s_E_rows s_E_cells)) (c_X6_set l hG D c9 (fun k => ad ([7, 8].getD k 0)) 240 8 RX7 rfl layc_X7 24 10 o1.2 o2 o1.1 1 j3 ho4) 3 (gU wc_264 wc_265 wc_266 wc_53 wc_34 wc_54) rfl rfl rfl rfl pd_X6_set_UX5_makeTicket_136 ⟨Nat.le_of_ble_eq_true rfl, Nat.le_of_ble_eq_true rfl⟩ 7 rfl rfl rfl rfl (Nat.le_of_ble_eq_true rfl) ⟨Nat.zero_le _, Nat.zero_le _⟩ [7, 8] [0, 1, 2, 3, 4, 5, 6, 9, 10] [0, 1, 2, 3, 4, 5, 6, 9, 10, 7, 8] rfl rfl rfl rfl dX5_makeTicket_40 43 rfl ?_
    refine v_aload_n X dX5_makeTicket_43 0 rfl rfl 44 rfl ?_
    refine v_get X (C := RX5) (T := TX5) (N := 10) (ci := 7) (v := _) dX5_makeTicket_44 (lay_of layc_X5) 0 rfl rfl 3 (by decide) (mw wc_178) rfl rfl 47 rfl ?_
    refine v_iload X dX5_makeTicket_47 4 rfl 49 rfl ?_
    refine v_iconst X dX5_makeTicket_49 ic_2 50 rfl ?_
    refine v_iload_n X dX5_makeTicket_50 1 rfl rfl 51 rfl ?_
    obtain ⟨o5, ho5, hf⟩ := bnd hf
    refine v_callUv X (ci := 8) (T := TX7) (C := RX7) (owner := "TicketGate$Table") (As := [.int o1.1, .int 2, .int v1]) (rest := []) (ws' := (wX5 ad c9 s_time s_tolerance s_seed s_madeTickets s_cheesesOfText s_R_rows s_R_cells s_U_rows s_U_cells s_S_rows s_S_cells o1.2 o5 s_E_rows s_E_cells)) (c_X6_set l hG D c9 (fun k => ad ([7, 8].getD k 0)) 240 8 RX7 rfl layc_X7 24 10 o1.2 o4 o1.1 2 v1 ho5) 3 (gU wc_264 wc_265 wc_266 wc_53 wc_34 wc_54) rfl rfl rfl rfl pd_X6_set_UX5_makeTicket_136 ⟨Nat.le_of_ble_eq_true rfl, Nat.le_of_ble_eq_true rfl⟩ 7 rfl rfl rfl rfl (Nat.le_of_ble_eq_true rfl) ⟨Nat.zero_le _, Nat.zero_le _⟩ [7, 8] [0, 1, 2, 3, 4, 5, 6, 9, 10] [0, 1, 2, 3, 4, 5, 6, 9, 10, 7, 8] rfl rfl rfl rfl dX5_makeTicket_51 54 rfl ?_
    refine v_aload_n X dX5_makeTicket_54 0 rfl rfl 55 rfl ?_
    refine v_get X (C := RX5) (T := TX5) (N := 10) (ci := 7) (v := _) dX5_makeTicket_55 (lay_of layc_X5) 0 rfl rfl 3 (by decide) (mw wc_178) rfl rfl 58 rfl ?_
    refine v_iload X dX5_makeTicket_58 4 rfl 60 rfl ?_
    refine v_iconst X dX5_makeTicket_60 ic_3 61 rfl ?_
    refine v_iload_n X dX5_makeTicket_61 2 rfl rfl 62 rfl ?_
    obtain ⟨o6, ho6, hf⟩ := bnd hf
    refine v_callUv X (ci := 8) (T := TX7) (C := RX7) (owner := "TicketGate$Table") (As := [.int o1.1, .int 3, .int v2]) (rest := []) (ws' := (wX5 ad c9 s_time s_tolerance s_seed s_madeTickets s_cheesesOfText s_R_rows s_R_cells s_U_rows s_U_cells s_S_rows s_S_cells o1.2 o6 s_E_rows s_E_cells)) (c_X6_set l hG D c9 (fun k => ad ([7, 8].getD k 0)) 240 8 RX7 rfl layc_X7 24 10 o1.2 o5 o1.1 3 v2 ho6) 3 (gU wc_264 wc_265 wc_266 wc_53 wc_34 wc_54) rfl rfl rfl rfl pd_X6_set_UX5_makeTicket_136 ⟨Nat.le_of_ble_eq_true rfl, Nat.le_of_ble_eq_true rfl⟩ 7 rfl rfl rfl rfl (Nat.le_of_ble_eq_true rfl) ⟨Nat.zero_le _, Nat.zero_le _⟩ [7, 8] [0, 1, 2, 3, 4, 5, 6, 9, 10] [0, 1, 2, 3, 4, 5, 6, 9, 10, 7, 8] rfl rfl rfl rfl dX5_makeTicket_62 65 rfl ?_
    refine v_aload_n X dX5_makeTicket_65 0 rfl rfl 66 rfl ?_
    refine v_get X (C := RX5) (T := TX5) (N := 10) (ci := 7) (v := _) dX5_makeTicket_66 (lay_of layc_X5) 0 rfl rfl 3 (by decide) (mw wc_178) rfl rfl 69 rfl ?_
    refine v_iload X dX5_makeTicket_69 4 rfl 71 rfl ?_
    refine v_iconst X dX5_makeTicket_71 ic_4 72 rfl ?_
    refine v_iload_n X dX5_makeTicket_72 3 rfl rfl 73 rfl ?_
    obtain ⟨o7, ho7, hf⟩ := bnd hf
    refine v_callUv X (ci := 8) (T := TX7) (C := RX7) (owner := "TicketGate$Table") (As := [.int o1.1, .int 4, .int v3]) (rest := []) (ws' := (wX5 ad c9 s_time s_tolerance s_seed s_madeTickets s_cheesesOfText s_R_rows s_R_cells s_U_rows s_U_cells s_S_rows s_S_cells o1.2 o7 s_E_rows s_E_cells)) (c_X6_set l hG D c9 (fun k => ad ([7, 8].getD k 0)) 240 8 RX7 rfl layc_X7 24 10 o1.2 o6 o1.1 4 v3 ho7) 3 (gU wc_264 wc_265 wc_266 wc_53 wc_34 wc_54) rfl rfl rfl rfl pd_X6_set_UX5_makeTicket_136 ⟨Nat.le_of_ble_eq_true rfl, Nat.le_of_ble_eq_true rfl⟩ 7 rfl rfl rfl rfl (Nat.le_of_ble_eq_true rfl) ⟨Nat.zero_le _, Nat.zero_le _⟩ [7, 8] [0, 1, 2, 3, 4, 5, 6, 9, 10] [0, 1, 2, 3, 4, 5, 6, 9, 10, 7, 8] rfl rfl rfl rfl dX5_makeTicket_73 76 rfl ?_
    refine v_aload_n X dX5_makeTicket_76 0 rfl rfl 77 rfl ?_
    refine v_get X (C := RX5) (T := TX5) (N := 10) (ci := 7) (v := _) dX5_makeTicket_77 (lay_of layc_X5) 0 rfl rfl 3 (by decide) (mw wc_178) rfl rfl 80 rfl ?_
    refine v_iload X dX5_makeTicket_80 4 rfl 82 rfl ?_
    refine v_iconst X dX5_makeTicket_82 ic_5 83 rfl ?_
    refine v_aload_n X dX5_makeTicket_83 0 rfl rfl 84 rfl ?_
    refine v_get X (C := RX5) (T := TX5) (N := 10) (ci := 7) (v := _) dX5_makeTicket_84 (lay_of layc_X5) 0 rfl rfl 5 (by decide) (mw wc_186) rfl rfl 87 rfl ?_
    obtain ⟨o8, ho8, hf⟩ := bnd hf
    refine v_callUv X (ci := 8) (T := TX7) (C := RX7) (owner := "TicketGate$Table") (As := [.int o1.1, .int 5, .int s_time]) (rest := []) (ws' := (wX5 ad c9 s_time s_tolerance s_seed s_madeTickets s_cheesesOfText s_R_rows s_R_cells s_U_rows s_U_cells s_S_rows s_S_cells o1.2 o8 s_E_rows s_E_cells)) (c_X6_set l hG D c9 (fun k => ad ([7, 8].getD k 0)) 240 8 RX7 rfl layc_X7 24 10 o1.2 o7 o1.1 5 s_time ho8) 3 (gU wc_264 wc_265 wc_266 wc_53 wc_34 wc_54) rfl rfl rfl rfl pd_X6_set_UX5_makeTicket_136 ⟨Nat.le_of_ble_eq_true rfl, Nat.le_of_ble_eq_true rfl⟩ 7 rfl rfl rfl rfl (Nat.le_of_ble_eq_true rfl) ⟨Nat.zero_le _, Nat.zero_le _⟩ [7, 8] [0, 1, 2, 3, 4, 5, 6, 9, 10] [0, 1, 2, 3, 4, 5, 6, 9, 10, 7, 8] rfl rfl rfl rfl dX5_makeTicket_87 90 rfl ?_
    refine v_aload_n X dX5_makeTicket_90 0 rfl rfl 91 rfl ?_
    refine v_get X (C := RX5) (T := TX5) (N := 10) (ci := 7) (v := _) dX5_makeTicket_91 (lay_of layc_X5) 0 rfl rfl 3 (by decide) (mw wc_178) rfl rfl 94 rfl ?_
    refine v_iload X dX5_makeTicket_94 4 rfl 96 rfl ?_
    refine v_bipush X dX5_makeTicket_96 bp_8 98 rfl ?_
    refine v_aload_n X dX5_makeTicket_98 0 rfl rfl 99 rfl ?_
    obtain ⟨o9, ho9, hf⟩ := bnd hf
    refine v_callVi X (ci := 7) (T := TX5) (C := RX5) (As := []) (rest := [.int 8, .int o1.1, .ref (ad 7)]) (ws' := (wX5 ad c9 s_time s_tolerance o9.2 s_madeTickets s_cheesesOfText s_R_rows s_R_cells s_U_rows s_U_cells s_S_rows s_S_cells o1.2 o8 s_E_rows s_E_cells)) (c_X5_drawKey l hG D c9 ad s_time s_tolerance s_seed s_madeTickets s_cheesesOfText s_R_rows s_R_cells s_U_rows s_U_cells s_S_rows s_S_cells o1.2 o8 s_E_rows s_E_cells ho9) 0 (gV wc_267 wc_268 wc_269 wc_233 wc_270) rfl rfl rfl ⟨rfl, pd_X5_drawKey⟩ ⟨Nat.le_of_ble_eq_true rfl, Nat.le_of_ble_eq_true rfl⟩ 0 rfl rfl rfl rfl (Nat.le_of_ble_eq_true rfl) ⟨Nat.zero_le _, Nat.zero_le _⟩ [0, 1, 2, 3, 4, 5, 6, 7, 8, 9, 10] [] [0, 1, 2, 3, 4, 5, 6, 7, 8, 9, 10] rfl rfl rfl rfl dX5_makeTicket_99 102 rfl ?_
    obtain ⟨o10, ho10, hf⟩ := bnd hf
    refine v_callUv X (ci := 8) (T := TX7) (C := RX7) (owner := "TicketGate$Table") (As := [.int o1.1, .int 8, .int o9.1]) (rest := []) (ws' := (wX5 ad c9 s_time s_tolerance o9.2 s_madeTickets s_cheesesOfText s_R_rows s_R_cells s_U_rows s_U_cells s_S_rows s_S_cells o1.2 o10 s_E_rows s_E_cells)) (c_X6_set l hG D c9 (fun k => ad ([7, 8].getD k 0)) 240 8 RX7 rfl layc_X7 24 10 o1.2 o8 o1.1 8 o9.1 ho10) 3 (gU wc_264 wc_265 wc_266 wc_53 wc_34 wc_54) rfl rfl rfl rfl pd_X6_set_UX5_makeTicket_136 ⟨Nat.le_of_ble_eq_true rfl, Nat.le_of_ble_eq_true rfl⟩ 7 rfl rfl rfl rfl (Nat.le_of_ble_eq_true rfl) ⟨Nat.zero_le _, Nat.zero_le _⟩ [7, 8] [0, 1, 2, 3, 4, 5, 6, 9, 10] [0, 1, 2, 3, 4, 5, 6, 9, 10, 7, 8] rfl rfl rfl rfl dX5_makeTicket_102 105 rfl ?_
    refine v_aload_n X dX5_makeTicket_105 0 rfl rfl 106 rfl ?_
    refine v_dup X dX5_makeTicket_106 rfl 107 rfl ?_
    refine v_get X (C := RX5) (T := TX5) (N := 10) (ci := 7) (v := _) dX5_makeTicket_107 (lay_of layc_X5) 0 rfl rfl 8 (by decide) (mw wc_189) rfl rfl 110 rfl ?_
    refine v_iconst X dX5_makeTicket_110 ic_1 111 rfl ?_
    refine v_iadd X dX5_makeTicket_111 112 rfl ?_
    refine v_put X (C := RX5) (T := TX5) (N := 10) (ci := 7) (ty := tyX5 8) (ws' := (wX5 ad c9 s_time s_tolerance o9.2 (s_madeTickets + 1) s_cheesesOfText s_R_rows s_R_cells s_U_rows s_U_cells s_S_rows s_S_cells o1.2 o10 s_E_rows s_E_cells)) dX5_makeTicket_112 (lay_of layc_X5) 0 rfl rfl 8 (by decide) tyX5 tyX5_ok nmX5 (mw wc_189) rfl rfl (tyX5_ok 8 (by decide)) rfl rfl (Nat.le_of_ble_eq_true rfl) rfl 115 rfl ?_
    refine v_iload X dX5_makeTicket_115 4 rfl 117 rfl ?_
    obtain rfl := Option.some.inj hf
    exact v_iret X (Nat.zero_le _) (Nat.zero_le _) dX5_makeTicket_117
  clear hf
  refine v_icmp_ne X (tgt := 39) dX5_makeTicket_32 rfl 35 rfl hj3 (fun hf => ?_) (fun hf => ?_)
  · refine v_iconst X dX5_makeTicket_39 ic_1 40 rfl ?_
    obtain rfl := Option.some.inj hf
    refine v_sub (lv' := [(0, .ref (ad 0)), (1, .int v1), (2, .int v2), (3, .int v3), (4, .int o1.1)]) [1, 2, 3, 4, 0] rfl ?_
    exact Jj3
  · refine v_iconst X dX5_makeTicket_35 ic_0 36 rfl ?_
    refine v_goto X (tgt := 40) dX5_makeTicket_36 rfl ?_
    obtain rfl := Option.some.inj hf
    refine v_sub (lv' := [(0, .ref (ad 0)), (1, .int v1), (2, .int v2), (3, .int v3), (4, .int o1.1)]) [1, 2, 3, 4, 0] rfl ?_
    exact Jj3
theorem pd_X5_makeTicket : yX5_makeTicket.cls ≠ "java/lang/invoke/MethodHandle" ∧ yX5_makeTicket.cls ≠ "java/lang/invoke/VarHandle" ∧ (parseMethodDescriptor yX5_makeTicket.desc).map (fun d => d.parameters.length) = some 3 := by decide +kernel
theorem pd_X6_get_UX5_setLife_93 : "TicketGate$Table" ≠ "java/lang/invoke/MethodHandle" ∧ "TicketGate$Table" ≠ "java/lang/invoke/VarHandle" ∧ (parseMethodDescriptor "(II)I").map (fun d => d.parameters.length) = some 2 := by decide +kernel
theorem pd_X6_get_UX5_setLife_86 : "TicketGate$Table" ≠ "java/lang/invoke/MethodHandle" ∧ "TicketGate$Table" ≠ "java/lang/invoke/VarHandle" ∧ (parseMethodDescriptor "(II)I").map (fun d => d.parameters.length) = some 2 := by decide +kernel
theorem pd_X6_set_UX5_setLife_136 : "TicketGate$Table" ≠ "java/lang/invoke/MethodHandle" ∧ "TicketGate$Table" ≠ "java/lang/invoke/VarHandle" ∧ (parseMethodDescriptor "(III)V").map (fun d => d.parameters.length) = some 3 := by decide +kernel
def f_X5_setLife (s_time : Int32) (s_R_rows : Int32) (s_R_cells : Nat → Int32) (s_T_rows : Int32) (s_T_cells : Nat → Int32) (v1 : Int32) (v2 : Int32) (v3 : Int32) (v4 : Int32) : Option ((Nat → Int32)) :=
  (f_X6_get 240 10 s_T_rows s_T_cells v1 3).bind fun o1 =>
  (f_X6_get 25 5 s_R_rows s_R_cells o1 1).bind fun o2 =>
  (f_X6_get 25 5 s_R_rows s_R_cells o1 2).bind fun o3 =>
  (f_X6_set 240 10 s_T_rows s_T_cells v1 6 (imin (s_time + o2) v3)).bind fun o4 =>
  Option.bind (if v2 = 0 then (
    some ((imin (s_time + o2) v3)))
  else (
    some ((imax (imin (s_time + o2) v3) (imin (s_time + o3) v4)))) : Option (Int32)) fun j5 =>
  (f_X6_set 240 10 s_T_rows o4 v1 7 j5).bind fun o6 =>
  if v2 = 0 then (
    (f_X6_set 240 10 s_T_rows o6 v1 9 0).bind fun o7 =>
    some (o7))
  else (
    (f_X6_set 240 10 s_T_rows o6 v1 9 1).bind fun o8 =>
    some (o8))
set_option maxRecDepth 100000 in
set_option maxHeartbeats 4000000 in
theorem c_X5_setLife (l : Launch) {G : (Nat → Prop) → State → Heap → Prop} (hG : vG G) (D : va_G) (c9 : Nat → ClassId) (ad : Nat → Nat) (s_time : Int32) (s_tolerance : Int32) (s_seed : Int32) (s_madeTickets : Int32) (s_cheesesOfText : Int32) (s_R_rows : Int32) (s_R_cells : Nat → Int32) (s_U_rows : Int32) (s_U_cells : Nat → Int32) (s_S_rows : Int32) (s_S_cells : Nat → Int32) (s_T_rows : Int32) (s_T_cells : Nat → Int32) (s_E_rows : Int32) (s_E_cells : Nat → Int32) (v1 : Int32) (v2 : Int32) (v3 : Int32) (v4 : Int32) {o : (Nat → Int32)} (hf : f_X5_setLife s_time s_R_rows s_R_cells s_T_rows s_T_cells v1 v2 v3 v4 = some o) : mV l yX5_setLife (wq yX5_setLife cX5_setLife 8 none) { frames := 1, cells := 0, slots := 0, locals := 40 } G D (tyA c9) [.ref (ad 0), .int v1, .int v2, .int v3, .int v4] (wX5 ad c9 s_time s_tolerance s_seed s_madeTickets s_cheesesOfText s_R_rows s_R_cells s_U_rows s_U_cells s_S_rows s_S_cells s_T_rows s_T_cells s_E_rows s_E_cells) [] 0 0 (wX5 ad c9 s_time s_tolerance s_seed s_madeTickets s_cheesesOfText s_R_rows s_R_cells s_U_rows s_U_cells s_S_rows s_S_cells s_T_rows o s_E_rows s_E_cells) := by
  refine mV_of hG (cc := cX5_setLife) (maxL := 8) (by decide) rfl (Nat.le_of_ble_eq_true rfl) ?_
  intro p e s m args below meth c A hnm X
  have X : vX p s m args meth c cX5_setLife 8 none RX5 (wq yX5_setLife cX5_setLife 8 none) D (tyA c9) G A := X
  refine v_eq (lv2 := [(0, .ref (ad 0)), (1, .int v1), (2, .int v2), (3, .int v3), (4, .int v4)]) rfl rfl rfl rfl ?_
  rw [f_X5_setLife] at hf
  refine v_aload_n X dX5_setLife_0 0 rfl rfl 1 rfl ?_
  refine v_get X (C := RX5) (T := TX5) (N := 10) (ci := 7) (v := _) dX5_setLife_1 (lay_of layc_X5) 0 rfl rfl 3 (by decide) (mw wc_178) rfl rfl 4 rfl ?_
  refine v_iload_n X dX5_setLife_4 1 rfl rfl 5 rfl ?_
  refine v_iconst X dX5_setLife_5 ic_3 6 rfl ?_
  obtain ⟨o1, ho1, hf⟩ := bnd hf
  refine v_callUi X (ci := 8) (T := TX7) (C := RX7) (owner := "TicketGate$Table") (As := [.int v1, .int 3]) (rest := []) (ws' := (wX5 ad c9 s_time s_tolerance s_seed s_madeTickets s_cheesesOfText s_R_rows s_R_cells s_U_rows s_U_cells s_S_rows s_S_cells s_T_rows s_T_cells s_E_rows s_E_cells)) (c_X6_get l hG D c9 (fun k => ad ([7, 8].getD k 0)) 240 8 RX7 rfl layc_X7 24 10 s_T_rows s_T_cells v1 3 ho1) 2 (gU wc_229 wc_83 wc_84 wc_33 wc_34 wc_35) rfl rfl rfl rfl pd_X6_get_UX5_setLife_93 ⟨Nat.le_of_ble_eq_true rfl, Nat.le_of_ble_eq_true rfl⟩ 7 rfl rfl rfl rfl (Nat.le_of_ble_eq_true rfl) ⟨Nat.zero_le _, Nat.zero_le _⟩ [7, 8] [0, 1, 2, 3, 4, 5, 6, 9, 10] [0, 1, 2, 3, 4, 5, 6, 9, 10, 7, 8] rfl rfl rfl rfl dX5_setLife_6 9 rfl ?_
  refine v_istore X (lv' := [(5, .int o1), (0, .ref (ad 0)), (1, .int v1), (2, .int v2), (3, .int v3), (4, .int v4)]) dX5_setLife_9 (by decide) rfl 11 rfl ?_
  refine v_aload_n X dX5_setLife_11 1 rfl rfl 12 rfl ?_
  refine v_get X (C := RX5) (T := TX5) (N := 10) (ci := 7) (v := _) dX5_setLife_12 (lay_of layc_X5) 0 rfl rfl 5 (by decide) (mw wc_186) rfl rfl 15 rfl ?_
  refine v_aload_n X dX5_setLife_15 1 rfl rfl 16 rfl ?_
  refine v_get X (C := RX5) (T := TX5) (N := 10) (ci := 7) (v := _) dX5_setLife_16 (lay_of layc_X5) 0 rfl rfl 0 (by decide) (mw wc_164) rfl rfl 19 rfl ?_
  refine v_iload X dX5_setLife_19 0 rfl 21 rfl ?_
  refine v_iconst X dX5_setLife_21 ic_1 22 rfl ?_
  obtain ⟨o2, ho2, hf⟩ := bnd hf
  refine v_callUi X (ci := 4) (T := TX2) (C := RX2) (owner := "TicketGate$Table") (As := [.int o1, .int 1]) (rest := [.int s_time]) (ws' := (wX5 ad c9 s_time s_tolerance s_seed s_madeTickets s_cheesesOfText s_R_rows s_R_cells s_U_rows s_U_cells s_S_rows s_S_cells s_T_rows s_T_cells s_E_rows s_E_cells)) (c_X6_get l hG D c9 (fun k => ad ([1, 2].getD k 0)) 25 4 RX2 rfl layc_X2 5 5 s_R_rows s_R_cells o1 1 ho2) 2 (gU wc_225 wc_56 wc_57 wc_33 wc_34 wc_35) rfl rfl rfl rfl pd_X6_get_UX5_setLife_86 ⟨Nat.le_of_ble_eq_true rfl, Nat.le_of_ble_eq_true rfl⟩ 1 rfl rfl rfl rfl (Nat.le_of_ble_eq_true rfl) ⟨Nat.zero_le _, Nat.zero_le _⟩ [1, 2] [0, 3, 4, 5, 6, 7, 8, 9, 10] [0, 9, 10, 1, 2, 3, 4, 5, 6, 7, 8] rfl rfl rfl rfl dX5_setLife_22 25 rfl ?_
  refine v_iadd X dX5_setLife_25 26 rfl ?_
  refine v_iload_n X dX5_setLife_26 4 rfl rfl 27 rfl ?_
  refine v_mmin X dX5_setLife_27 (mw wc_247) (mw wc_24) (mw wc_25) (mw wc_26) (Nat.le_of_ble_eq_true rfl) (Nat.le_of_ble_eq_true rfl) (Nat.zero_le _) (Nat.zero_le _) 30 rfl ?_
  refine v_istore X (lv' := [(6, .int (imin (s_time + o2) v3)), (5, .int o1), (0, .ref (ad 0)), (1, .int v1), (2, .int v2), (3, .int v3), (4, .int v4)]) dX5_setLife_30 (by decide) rfl 32 rfl ?_
  refine v_aload_n X dX5_setLife_32 2 rfl rfl 33 rfl ?_
  refine v_get X (C := RX5) (T := TX5) (N := 10) (ci := 7) (v := _) dX5_setLife_33 (lay_of layc_X5) 0 rfl rfl 5 (by decide) (mw wc_186) rfl rfl 36 rfl ?_
  refine v_aload_n X dX5_setLife_36 2 rfl rfl 37 rfl ?_
  refine v_get X (C := RX5) (T := TX5) (N := 10) (ci := 7) (v := _) dX5_setLife_37 (lay_of layc_X5) 0 rfl rfl 0 (by decide) (mw wc_164) rfl rfl 40 rfl ?_
  refine v_iload X dX5_setLife_40 1 rfl 42 rfl ?_
  refine v_iconst X dX5_setLife_42 ic_2 43 rfl ?_
  obtain ⟨o3, ho3, hf⟩ := bnd hf
  refine v_callUi X (ci := 4) (T := TX2) (C := RX2) (owner := "TicketGate$Table") (As := [.int o1, .int 2]) (rest := [.int s_time]) (ws' := (wX5 ad c9 s_time s_tolerance s_seed s_madeTickets s_cheesesOfText s_R_rows s_R_cells s_U_rows s_U_cells s_S_rows s_S_cells s_T_rows s_T_cells s_E_rows s_E_cells)) (c_X6_get l hG D c9 (fun k => ad ([1, 2].getD k 0)) 25 4 RX2 rfl layc_X2 5 5 s_R_rows s_R_cells o1 2 ho3) 2 (gU wc_225 wc_56 wc_57 wc_33 wc_34 wc_35) rfl rfl rfl rfl pd_X6_get_UX5_setLife_86 ⟨Nat.le_of_ble_eq_true rfl, Nat.le_of_ble_eq_true rfl⟩ 1 rfl rfl rfl rfl (Nat.le_of_ble_eq_true rfl) ⟨Nat.zero_le _, Nat.zero_le _⟩ [1, 2] [0, 3, 4, 5, 6, 7, 8, 9, 10] [0, 9, 10, 1, 2, 3, 4, 5, 6, 7, 8] rfl rfl rfl rfl dX5_setLife_43 46 rfl ?_
  refine v_iadd X dX5_setLife_46 47 rfl ?_
  refine v_iload X dX5_setLife_47 6 rfl 49 rfl ?_
  refine v_mmin X dX5_setLife_49 (mw wc_247) (mw wc_24) (mw wc_25) (mw wc_26) (Nat.le_of_ble_eq_true rfl) (Nat.le_of_ble_eq_true rfl) (Nat.zero_le _) (Nat.zero_le _) 52 rfl ?_
  refine v_istore X (lv' := [(7, .int (imin (s_time + o3) v4)), (6, .int (imin (s_time + o2) v3)), (5, .int o1), (0, .ref (ad 0)), (1, .int v1), (2, .int v2), (3, .int v3), (4, .int v4)]) dX5_setLife_52 (by decide) rfl 54 rfl ?_
  refine v_aload_n X dX5_setLife_54 3 rfl rfl 55 rfl ?_
  refine v_get X (C := RX5) (T := TX5) (N := 10) (ci := 7) (v := _) dX5_setLife_55 (lay_of layc_X5) 0 rfl rfl 3 (by decide) (mw wc_178) rfl rfl 58 rfl ?_
  refine v_iload_n X dX5_setLife_58 4 rfl rfl 59 rfl ?_
  refine v_bipush X dX5_setLife_59 bp_6 61 rfl ?_
  refine v_iload X dX5_setLife_61 1 rfl 63 rfl ?_
  obtain ⟨o4, ho4, hf⟩ := bnd hf
  refine v_callUv X (ci := 8) (T := TX7) (C := RX7) (owner := "TicketGate$Table") (As := [.int v1, .int 6, .int (imin (s_time + o2) v3)]) (rest := []) (ws' := (wX5 ad c9 s_time s_tolerance s_seed s_madeTickets s_cheesesOfText s_R_rows s_R_cells s_U_rows s_U_cells s_S_rows s_S_cells s_T_rows o4 s_E_rows s_E_cells)) (c_X6_set l hG D c9 (fun k => ad ([7, 8].getD k 0)) 240 8 RX7 rfl layc_X7 24 10 s_T_rows s_T_cells v1 6 (imin (s_time + o2) v3) ho4) 3 (gU wc_264 wc_265 wc_266 wc_53 wc_34 wc_54) rfl rfl rfl rfl pd_X6_set_UX5_setLife_136 ⟨Nat.le_of_ble_eq_true rfl, Nat.le_of_ble_eq_true rfl⟩ 7 rfl rfl rfl rfl (Nat.le_of_ble_eq_true rfl) ⟨Nat.zero_le _, Nat.zero_le _⟩ [7, 8] [0, 1, 2, 3, 4, 5, 6, 9, 10] [0, 1, 2, 3, 4, 5, 6, 9, 10, 7, 8] rfl rfl rfl rfl dX5_setLife_63 66 rfl ?_
  refine v_aload_n X dX5_setLife_66 3 rfl rfl 67 rfl ?_
  refine v_get X (C := RX5) (T := TX5) (N := 10) (ci := 7) (v := _) dX5_setLife_67 (lay_of layc_X5) 0 rfl rfl 3 (by decide) (mw wc_178) rfl rfl 70 rfl ?_
  refine v_iload_n X dX5_setLife_70 4 rfl rfl 71 rfl ?_
  refine v_bipush X dX5_setLife_71 bp_7 73 rfl ?_
  refine v_iload_n X dX5_setLife_73 5 rfl rfl 74 rfl ?_
  obtain ⟨j5, hj5, hf⟩ := bnd hf
  have Jj5 : vW p l e { frames := 1, cells := 0, slots := 0, locals := 40 } s m args below meth c 8 D A [] 0 0 (MQ below (eV D (tyA c9) A ((wX5 ad c9 s_time s_tolerance s_seed s_madeTickets s_cheesesOfText s_R_rows s_R_cells s_U_rows s_U_cells s_S_rows s_S_cells s_T_rows o s_E_rows s_E_cells) ++ [])) args s 0 0 A) (wX5 ad c9 s_time s_tolerance s_seed s_madeTickets s_cheesesOfText s_R_rows s_R_cells s_U_rows s_U_cells s_S_rows s_S_cells s_T_rows o4 s_E_rows s_E_cells) 89 [(0, .ref (ad 0)), (1, .int v1), (2, .int v2)] [.int j5, .int 7, .int v1, .ref (ad 7)] := by
    obtain ⟨o6, ho6, hf⟩ := bnd hf
    refine v_callUv X (ci := 8) (T := TX7) (C := RX7) (owner := "TicketGate$Table") (As := [.int v1, .int 7, .int j5]) (rest := []) (ws' := (wX5 ad c9 s_time s_tolerance s_seed s_madeTickets s_cheesesOfText s_R_rows s_R_cells s_U_rows s_U_cells s_S_rows s_S_cells s_T_rows o6 s_E_rows s_E_cells)) (c_X6_set l hG D c9 (fun k => ad ([7, 8].getD k 0)) 240 8 RX7 rfl layc_X7 24 10 s_T_rows o4 v1 7 j5 ho6) 3 (gU wc_264 wc_265 wc_266 wc_53 wc_34 wc_54) rfl rfl rfl rfl pd_X6_set_UX5_setLife_136 ⟨Nat.le_of_ble_eq_true rfl, Nat.le_of_ble_eq_true rfl⟩ 7 rfl rfl rfl rfl (Nat.le_of_ble_eq_true rfl) ⟨Nat.zero_le _, Nat.zero_le _⟩ [7, 8] [0, 1, 2, 3, 4, 5, 6, 9, 10] [0, 1, 2, 3, 4, 5, 6, 9, 10, 7, 8] rfl rfl rfl rfl dX5_setLife_89 92 rfl ?_
    refine v_aload_n X dX5_setLife_92 0 rfl rfl 93 rfl ?_
    refine v_get X (C := RX5) (T := TX5) (N := 10) (ci := 7) (v := _) dX5_setLife_93 (lay_of layc_X5) 0 rfl rfl 3 (by decide) (mw wc_178) rfl rfl 96 rfl ?_
    refine v_iload_n X dX5_setLife_96 1 rfl rfl 97 rfl ?_
    refine v_bipush X dX5_setLife_97 bp_9 99 rfl ?_
    refine v_iload_n X dX5_setLife_99 2 rfl rfl 100 rfl ?_
    refine v_if_eq X (tgt := 107) dX5_setLife_100 rfl 103 rfl hf (fun hf => ?_) (fun hf => ?_)
    · refine v_iconst X dX5_setLife_107 ic_0 108 rfl ?_
      obtain ⟨o7, ho7, hf⟩ := bnd hf
      refine v_callUv X (ci := 8) (T := TX7) (C := RX7) (owner := "TicketGate$Table") (As := [.int v1, .int 9, .int 0]) (rest := []) (ws' := (wX5 ad c9 s_time s_tolerance s_seed s_madeTickets s_cheesesOfText s_R_rows s_R_cells s_U_rows s_U_cells s_S_rows s_S_cells s_T_rows o7 s_E_rows s_E_cells)) (c_X6_set l hG D c9 (fun k => ad ([7, 8].getD k 0)) 240 8 RX7 rfl layc_X7 24 10 s_T_rows o6 v1 9 0 ho7) 3 (gU wc_264 wc_265 wc_266 wc_53 wc_34 wc_54) rfl rfl rfl rfl pd_X6_set_UX5_setLife_136 ⟨Nat.le_of_ble_eq_true rfl, Nat.le_of_ble_eq_true rfl⟩ 7 rfl rfl rfl rfl (Nat.le_of_ble_eq_true rfl) ⟨Nat.zero_le _, Nat.zero_le _⟩ [7, 8] [0, 1, 2, 3, 4, 5, 6, 9, 10] [0, 1, 2, 3, 4, 5, 6, 9, 10, 7, 8] rfl rfl rfl rfl dX5_setLife_108 111 rfl ?_
      obtain rfl := Option.some.inj hf
      exact v_vret X (Nat.zero_le _) (Nat.zero_le _) dX5_setLife_111
    · refine v_iconst X dX5_setLife_103 ic_1 104 rfl ?_
      refine v_goto X (tgt := 108) dX5_setLife_104 rfl ?_
      obtain ⟨o8, ho8, hf⟩ := bnd hf
      refine v_callUv X (ci := 8) (T := TX7) (C := RX7) (owner := "TicketGate$Table") (As := [.int v1, .int 9, .int 1]) (rest := []) (ws' := (wX5 ad c9 s_time s_tolerance s_seed s_madeTickets s_cheesesOfText s_R_rows s_R_cells s_U_rows s_U_cells s_S_rows s_S_cells s_T_rows o8 s_E_rows s_E_cells)) (c_X6_set l hG D c9 (fun k => ad ([7, 8].getD k 0)) 240 8 RX7 rfl layc_X7 24 10 s_T_rows o6 v1 9 1 ho8) 3 (gU wc_264 wc_265 wc_266 wc_53 wc_34 wc_54) rfl rfl rfl rfl pd_X6_set_UX5_setLife_136 ⟨Nat.le_of_ble_eq_true rfl, Nat.le_of_ble_eq_true rfl⟩ 7 rfl rfl rfl rfl (Nat.le_of_ble_eq_true rfl) ⟨Nat.zero_le _, Nat.zero_le _⟩ [7, 8] [0, 1, 2, 3, 4, 5, 6, 9, 10] [0, 1, 2, 3, 4, 5, 6, 9, 10, 7, 8] rfl rfl rfl rfl dX5_setLife_108 111 rfl ?_
      obtain rfl := Option.some.inj hf
      exact v_vret X (Nat.zero_le _) (Nat.zero_le _) dX5_setLife_111
  clear hf
  refine v_if_eq X (tgt := 87) dX5_setLife_74 rfl 77 rfl hj5 (fun hf => ?_) (fun hf => ?_)
  · refine v_iload X dX5_setLife_87 1 rfl 89 rfl ?_
    obtain rfl := Option.some.inj hf
    refine v_sub (lv' := [(0, .ref (ad 0)), (1, .int v1), (2, .int v2)]) [3, 4, 5] rfl ?_
    exact Jj5
  · refine v_iload X dX5_setLife_77 1 rfl 79 rfl ?_
    refine v_iload X dX5_setLife_79 0 rfl 81 rfl ?_
    refine v_mmax X dX5_setLife_81 (mw wc_271) (mw wc_272) (mw wc_25) (mw wc_273) (Nat.le_of_ble_eq_true rfl) (Nat.le_of_ble_eq_true rfl) (Nat.zero_le _) (Nat.zero_le _) 84 rfl ?_
    refine v_goto X (tgt := 89) dX5_setLife_84 rfl ?_
    obtain rfl := Option.some.inj hf
    refine v_sub (lv' := [(0, .ref (ad 0)), (1, .int v1), (2, .int v2)]) [3, 4, 5] rfl ?_
    exact Jj5
theorem pd_X5_setLife : yX5_setLife.cls ≠ "java/lang/invoke/MethodHandle" ∧ yX5_setLife.cls ≠ "java/lang/invoke/VarHandle" ∧ (parseMethodDescriptor yX5_setLife.desc).map (fun d => d.parameters.length) = some 4 := by decide +kernel
theorem pd_X6_get_UX5_makeLogin_83 : "TicketGate$Table" ≠ "java/lang/invoke/MethodHandle" ∧ "TicketGate$Table" ≠ "java/lang/invoke/VarHandle" ∧ (parseMethodDescriptor "(II)I").map (fun d => d.parameters.length) = some 2 := by decide +kernel
theorem pd_X6_get_UX5_makeLogin_93 : "TicketGate$Table" ≠ "java/lang/invoke/MethodHandle" ∧ "TicketGate$Table" ≠ "java/lang/invoke/VarHandle" ∧ (parseMethodDescriptor "(II)I").map (fun d => d.parameters.length) = some 2 := by decide +kernel
def f_X5_makeLogin (s_time : Int32) (s_seed : Int32) (s_madeTickets : Int32) (s_R_rows : Int32) (s_R_cells : Nat → Int32) (s_U_rows : Int32) (s_U_cells : Nat → Int32) (s_T_rows : Int32) (s_T_cells : Nat → Int32) (v1 : Int32) (v2 : Int32) : Option (Int32 × Int32 × Int32 × Int32 × (Nat → Int32)) :=
  (f_X6_get 30 5 s_U_rows s_U_cells v1 1).bind fun o1 =>
  (f_X5_makeTicket s_time s_seed s_madeTickets s_T_rows s_T_cells v1 o1 (-1)).bind fun o2 =>
  (f_X5_setLife s_time s_R_rows s_R_cells o2.2.2.2.1 o2.2.2.2.2 o2.1 v2 2147483647 2147483647).bind fun o3 =>
  (f_X6_get 240 10 o2.2.2.2.1 o3 o2.1 0).bind fun o4 =>
  some (o4, o2.2.1, o2.2.2.1, o2.2.2.2.1, o3)
set_option maxRecDepth 100000 in
set_option maxHeartbeats 4000000 in
theorem c_X5_makeLogin (l : Launch) {G : (Nat → Prop) → State → Heap → Prop} (hG : vG G) (D : va_G) (c9 : Nat → ClassId) (ad : Nat → Nat) (s_time : Int32) (s_tolerance : Int32) (s_seed : Int32) (s_madeTickets : Int32) (s_cheesesOfText : Int32) (s_R_rows : Int32) (s_R_cells : Nat → Int32) (s_U_rows : Int32) (s_U_cells : Nat → Int32) (s_S_rows : Int32) (s_S_cells : Nat → Int32) (s_T_rows : Int32) (s_T_cells : Nat → Int32) (s_E_rows : Int32) (s_E_cells : Nat → Int32) (v1 : Int32) (v2 : Int32) {o : Int32 × Int32 × Int32 × Int32 × (Nat → Int32)} (hf : f_X5_makeLogin s_time s_seed s_madeTickets s_R_rows s_R_cells s_U_rows s_U_cells s_T_rows s_T_cells v1 v2 = some o) : mI l yX5_makeLogin (wq yX5_makeLogin cX5_makeLogin 4 (some .int)) { frames := 2, cells := 0, slots := 0, locals := 67 } G D (tyA c9) [.ref (ad 0), .int v1, .int v2] (wX5 ad c9 s_time s_tolerance s_seed s_madeTickets s_cheesesOfText s_R_rows s_R_cells s_U_rows s_U_cells s_S_rows s_S_cells s_T_rows s_T_cells s_E_rows s_E_cells) [] 0 0 o.1 (wX5 ad c9 s_time s_tolerance o.2.1 o.2.2.1 s_cheesesOfText s_R_rows s_R_cells s_U_rows s_U_cells s_S_rows s_S_cells o.2.2.2.1 o.2.2.2.2 s_E_rows s_E_cells) := by
  refine mI_of hG (cc := cX5_makeLogin) (maxL := 4) (ty := .int) (by decide) rfl (Nat.le_of_ble_eq_true rfl) ?_
  intro p e s m args below meth c A X
  have X : vX p s m args meth c cX5_makeLogin 4 (some .int) RX5 (wq yX5_makeLogin cX5_makeLogin 4 (some .int)) D (tyA c9) G A := X
  refine v_eq (lv2 := [(0, .ref (ad 0)), (1, .int v1), (2, .int v2)]) rfl rfl rfl rfl ?_
  rw [f_X5_makeLogin] at hf
  refine v_aload_n X dX5_makeLogin_0 0 rfl rfl 1 rfl ?_
  refine v_iload_n X dX5_makeLogin_1 1 rfl rfl 2 rfl ?_
  refine v_aload_n X dX5_makeLogin_2 0 rfl rfl 3 rfl ?_
  refine v_get X (C := RX5) (T := TX5) (N := 10) (ci := 7) (v := _) dX5_makeLogin_3 (lay_of layc_X5) 0 rfl rfl 1 (by decide) (mw wc_170) rfl rfl 6 rfl ?_
  refine v_iload_n X dX5_makeLogin_6 1 rfl rfl 7 rfl ?_
  refine v_iconst X dX5_makeLogin_7 ic_1 8 rfl ?_
  obtain ⟨o1, ho1, hf⟩ := bnd hf
  refine v_callUi X (ci := 9) (T := TX8) (C := RX8) (owner := "TicketGate$Table") (As := [.int v1, .int 1]) (rest := [.int v1, .ref (ad 0)]) (ws' := (wX5 ad c9 s_time s_tolerance s_seed s_madeTickets s_cheesesOfText s_R_rows s_R_cells s_U_rows s_U_cells s_S_rows s_S_cells s_T_rows s_T_cells s_E_rows s_E_cells)) (c_X6_get l hG D c9 (fun k => ad ([3, 4].getD k 0)) 30 9 RX8 rfl layc_X8 6 5 s_U_rows s_U_cells v1 1 ho1) 2 (gU wc_222 wc_223 wc_224 wc_33 wc_34 wc_35) rfl rfl rfl rfl pd_X6_get_UX5_makeLogin_83 ⟨Nat.le_of_ble_eq_true rfl, Nat.le_of_ble_eq_true rfl⟩ 3 rfl rfl rfl rfl (Nat.le_of_ble_eq_true rfl) ⟨Nat.zero_le _, Nat.zero_le _⟩ [3, 4] [0, 1, 2, 5, 6, 7, 8, 9, 10] [0, 1, 2, 9, 10, 3, 4, 5, 6, 7, 8] rfl rfl rfl rfl dX5_makeLogin_8 11 rfl ?_
  refine v_iconst X dX5_makeLogin_11 ic_m1 12 rfl ?_
  obtain ⟨o2, ho2, hf⟩ := bnd hf
  refine v_callVi X (ci := 7) (T := TX5) (C := RX5) (As := [.int v1, .int o1, .int (-1)]) (rest := []) (ws' := (wX5 ad c9 s_time s_tolerance o2.2.1 o2.2.2.1 s_cheesesOfText s_R_rows s_R_cells s_U_rows s_U_cells s_S_rows s_S_cells o2.2.2.2.1 o2.2.2.2.2 s_E_rows s_E_cells)) (c_X5_makeTicket l hG D c9 ad s_time s_tolerance s_seed s_madeTickets s_cheesesOfText s_R_rows s_R_cells s_U_rows s_U_cells s_S_rows s_S_cells s_T_rows s_T_cells s_E_rows s_E_cells v1 o1 (-1) ho2) 3 (gV wc_274 wc_275 wc_276 wc_233 wc_277) rfl rfl rfl ⟨rfl, pd_X5_makeTicket⟩ ⟨Nat.le_of_ble_eq_true rfl, Nat.le_of_ble_eq_true rfl⟩ 0 rfl rfl rfl rfl (Nat.le_of_ble_eq_true rfl) ⟨Nat.zero_le _, Nat.zero_le _⟩ [0, 1, 2, 3, 4, 5, 6, 7, 8, 9, 10] [] [0, 1, 2, 3, 4, 5, 6, 7, 8, 9, 10] rfl rfl rfl rfl dX5_makeLogin_12 15 rfl ?_
  refine v_istore_n X (lv' := [(3, .int o2.1), (0, .ref (ad 0)), (1, .int v1), (2, .int v2)]) dX5_makeLogin_15 rfl (by decide) rfl 16 rfl ?_
  refine v_aload_n X dX5_makeLogin_16 1 rfl rfl 17 rfl ?_
  refine v_iload_n X dX5_makeLogin_17 0 rfl rfl 18 rfl ?_
  refine v_iload_n X dX5_makeLogin_18 3 rfl rfl 19 rfl ?_
  refine v_ldc X dX5_makeLogin_19 (X.2.2.2.2.2.1 _ (mw wc_278)) 21 rfl ?_
  refine v_ldc X dX5_makeLogin_21 (X.2.2.2.2.2.1 _ (mw wc_278)) 23 rfl ?_
  obtain ⟨o3, ho3, hf⟩ := bnd hf
  refine v_callVv X (ci := 7) (T := TX5) (C := RX5) (As := [.int o2.1, .int v2, .int 2147483647, .int 2147483647]) (rest := []) (ws' := (wX5 ad c9 s_time s_tolerance o2.2.1 o2.2.2.1 s_cheesesOfText s_R_rows s_R_cells s_U_rows s_U_cells s_S_rows s_S_cells o2.2.2.2.1 o3 s_E_rows s_E_cells)) (c_X5_setLife l hG D c9 ad s_time s_tolerance o2.2.1 o2.2.2.1 s_cheesesOfText s_R_rows s_R_cells s_U_rows s_U_cells s_S_rows s_S_cells o2.2.2.2.1 o2.2.2.2.2 s_E_rows s_E_cells o2.1 v2 2147483647 2147483647 ho3) 4 (gV wc_279 wc_280 wc_281 wc_233 wc_282) rfl rfl rfl ⟨rfl, pd_X5_setLife⟩ ⟨Nat.le_of_ble_eq_true rfl, Nat.le_of_ble_eq_true rfl⟩ 0 rfl rfl rfl rfl (Nat.le_of_ble_eq_true rfl) ⟨Nat.zero_le _, Nat.zero_le _⟩ [0, 1, 2, 3, 4, 5, 6, 7, 8, 9, 10] [] [0, 1, 2, 3, 4, 5, 6, 7, 8, 9, 10] rfl rfl rfl rfl dX5_makeLogin_23 26 rfl ?_
  refine v_aload_n X dX5_makeLogin_26 1 rfl rfl 27 rfl ?_
  refine v_get X (C := RX5) (T := TX5) (N := 10) (ci := 7) (v := _) dX5_makeLogin_27 (lay_of layc_X5) 0 rfl rfl 3 (by decide) (mw wc_178) rfl rfl 30 rfl ?_
  refine v_iload_n X dX5_makeLogin_30 0 rfl rfl 31 rfl ?_
  refine v_iconst X dX5_makeLogin_31 ic_0 32 rfl ?_
  obtain ⟨o4, ho4, hf⟩ := bnd hf
  refine v_callUi X (ci := 8) (T := TX7) (C := RX7) (owner := "TicketGate$Table") (As := [.int o2.1, .int 0]) (rest := []) (ws' := (wX5 ad c9 s_time s_tolerance o2.2.1 o2.2.2.1 s_cheesesOfText s_R_rows s_R_cells s_U_rows s_U_cells s_S_rows s_S_cells o2.2.2.2.1 o3 s_E_rows s_E_cells)) (c_X6_get l hG D c9 (fun k => ad ([7, 8].getD k 0)) 240 8 RX7 rfl layc_X7 24 10 o2.2.2.2.1 o3 o2.1 0 ho4) 2 (gU wc_229 wc_83 wc_84 wc_33 wc_34 wc_35) rfl rfl rfl rfl pd_X6_get_UX5_makeLogin_93 ⟨Nat.le_of_ble_eq_true rfl, Nat.le_of_ble_eq_true rfl⟩ 7 rfl rfl rfl rfl (Nat.le_of_ble_eq_true rfl) ⟨Nat.zero_le _, Nat.zero_le _⟩ [7, 8] [0, 1, 2, 3, 4, 5, 6, 9, 10] [0, 1, 2, 3, 4, 5, 6, 9, 10, 7, 8] rfl rfl rfl rfl dX5_makeLogin_32 35 rfl ?_
  obtain rfl := Option.some.inj hf
  exact v_iret X (Nat.zero_le _) (Nat.zero_le _) dX5_makeLogin_35
theorem pd_X5_makeLogin : yX5_makeLogin.cls ≠ "java/lang/invoke/MethodHandle" ∧ yX5_makeLogin.cls ≠ "java/lang/invoke/VarHandle" ∧ (parseMethodDescriptor yX5_makeLogin.desc).map (fun d => d.parameters.length) = some 2 := by decide +kernel
theorem pd_X6_get_UX5_inheritLife_93 : "TicketGate$Table" ≠ "java/lang/invoke/MethodHandle" ∧ "TicketGate$Table" ≠ "java/lang/invoke/VarHandle" ∧ (parseMethodDescriptor "(II)I").map (fun d => d.parameters.length) = some 2 := by decide +kernel
def f_X5_inheritLife (s_time : Int32) (s_R_rows : Int32) (s_R_cells : Nat → Int32) (s_T_rows : Int32) (s_T_cells : Nat → Int32) (v1 : Int32) (v2 : Int32) : Option ((Nat → Int32)) :=
  (f_X6_get 240 10 s_T_rows s_T_cells v2 6).bind fun o1 =>
  (f_X7_canBeRenewed s_T_rows s_T_cells v2).bind fun o2 =>
  (f_X6_get 240 10 s_T_rows s_T_cells v2 7).bind fun o3 =>
  (f_X5_setLife s_time s_R_rows s_R_cells s_T_rows s_T_cells v1 o2 o1 o3).bind fun o4 =>
  some (o4)
set_option maxRecDepth 100000 in
set_option maxHeartbeats 4000000 in
theorem c_X5_inheritLife (l : Launch) {G : (Nat → Prop) → State → Heap → Prop} (hG : vG G) (D : va_G) (c9 : Nat → ClassId) (ad : Nat → Nat) (s_time : Int32) (s_tolerance : Int32) (s_seed : Int32) (s_madeTickets : Int32) (s_cheesesOfText : Int32) (s_R_rows : Int32) (s_R_cells : Nat → Int32) (s_U_rows : Int32) (s_U_cells : Nat → Int32) (s_S_rows : Int32) (s_S_cells : Nat → Int32) (s_T_rows : Int32) (s_T_cells : Nat → Int32) (s_E_rows : Int32) (s_E_cells : Nat → Int32) (v1 : Int32) (v2 : Int32) {o : (Nat → Int32)} (hf : f_X5_inheritLife s_time s_R_rows s_R_cells s_T_rows s_T_cells v1 v2 = some o) : mV l yX5_inheritLife (wq yX5_inheritLife cX5_inheritLife 4 none) { frames := 2, cells := 0, slots := 0, locals := 67 } G D (tyA c9) [.ref (ad 0), .int v1, .int v2] (wX5 ad c9 s_time s_tolerance s_seed s_madeTickets s_cheesesOfText s_R_rows s_R_cells s_U_rows s_U_cells s_S_rows s_S_cells s_T_rows s_T_cells s_E_rows s_E_cells) [] 0 0 (wX5 ad c9 s_time s_tolerance s_seed s_madeTickets s_cheesesOfText s_R_rows s_R_cells s_U_rows s_U_cells s_S_rows s_S_cells s_T_rows o s_E_rows s_E_cells) := by
  refine mV_of hG (cc := cX5_inheritLife) (maxL := 4) (by decide) rfl (Nat.le_of_ble_eq_true rfl) ?_
  intro p e s m args below meth c A hnm X
  have X : vX p s m args meth c cX5_inheritLife 4 none RX5 (wq yX5_inheritLife cX5_inheritLife 4 none) D (tyA c9) G A := X
  refine v_eq (lv2 := [(0, .ref (ad 0)), (1, .int v1), (2, .int v2)]) rfl rfl rfl rfl ?_
  rw [f_X5_inheritLife] at hf
  refine v_aload_n X dX5_inheritLife_0 0 rfl rfl 1 rfl ?_
  refine v_get X (C := RX5) (T := TX5) (N := 10) (ci := 7) (v := _) dX5_inheritLife_1 (lay_of layc_X5) 0 rfl rfl 3 (by decide) (mw wc_178) rfl rfl 4 rfl ?_
  refine v_iload_n X dX5_inheritLife_4 2 rfl rfl 5 rfl ?_
  refine v_bipush X dX5_inheritLife_5 bp_6 7 rfl ?_
  obtain ⟨o1, ho1, hf⟩ := bnd hf
  refine v_callUi X (ci := 8) (T := TX7) (C := RX7) (owner := "TicketGate$Table") (As := [.int v2, .int 6]) (rest := []) (ws' := (wX5 ad c9 s_time s_tolerance s_seed s_madeTickets s_cheesesOfText s_R_rows s_R_cells s_U_rows s_U_cells s_S_rows s_S_cells s_T_rows s_T_cells s_E_rows s_E_cells)) (c_X6_get l hG D c9 (fun k => ad ([7, 8].getD k 0)) 240 8 RX7 rfl layc_X7 24 10 s_T_rows s_T_cells v2 6 ho1) 2 (gU wc_229 wc_83 wc_84 wc_33 wc_34 wc_35) rfl rfl rfl rfl pd_X6_get_UX5_inheritLife_93 ⟨Nat.le_of_ble_eq_true rfl, Nat.le_of_ble_eq_true rfl⟩ 7 rfl rfl rfl rfl (Nat.le_of_ble_eq_true rfl) ⟨Nat.zero_le _, Nat.zero_le _⟩ [7, 8] [0, 1, 2, 3, 4, 5, 6, 9, 10] [0, 1, 2, 3, 4, 5, 6, 9, 10, 7, 8] rfl rfl rfl rfl dX5_inheritLife_7 10 rfl ?_
  refine v_istore_n X (lv' := [(3, .int o1), (0, .ref (ad 0)), (1, .int v1), (2, .int v2)]) dX5_inheritLife_10 rfl (by decide) rfl 11 rfl ?_
  refine v_aload_n X dX5_inheritLife_11 1 rfl rfl 12 rfl ?_
  refine v_iload_n X dX5_inheritLife_12 2 rfl rfl 13 rfl ?_
  refine v_aload_n X dX5_inheritLife_13 1 rfl rfl 14 rfl ?_
  refine v_get X (C := RX5) (T := TX5) (N := 10) (ci := 7) (v := _) dX5_inheritLife_14 (lay_of layc_X5) 0 rfl rfl 3 (by decide) (mw wc_178) rfl rfl 17 rfl ?_
  refine v_iload_n X dX5_inheritLife_17 3 rfl rfl 18 rfl ?_
  obtain ⟨o2, ho2, hf⟩ := bnd hf
  refine v_callVi X (ci := 8) (T := TX7) (C := RX7) (As := [.int v2]) (rest := [.int v1, .ref (ad 0)]) (ws' := (wX5 ad c9 s_time s_tolerance s_seed s_madeTickets s_cheesesOfText s_R_rows s_R_cells s_U_rows s_U_cells s_S_rows s_S_cells s_T_rows s_T_cells s_E_rows s_E_cells)) (c_X7_canBeRenewed l hG D c9 (fun k => ad ([7, 8].getD k 0)) s_T_rows s_T_cells v2 ho2) 1 (gV wc_248 wc_249 wc_250 wc_91 wc_251) rfl rfl rfl ⟨rfl, pd_X7_canBeRenewed⟩ ⟨Nat.le_of_ble_eq_true rfl, Nat.le_of_ble_eq_true rfl⟩ 7 rfl rfl rfl rfl (Nat.le_of_ble_eq_true rfl) ⟨Nat.zero_le _, Nat.zero_le _⟩ [7, 8] [0, 1, 2, 3, 4, 5, 6, 9, 10] [0, 1, 2, 3, 4, 5, 6, 9, 10, 7, 8] rfl rfl rfl rfl dX5_inheritLife_18 21 rfl ?_
  refine v_iload_n X dX5_inheritLife_21 0 rfl rfl 22 rfl ?_
  refine v_aload_n X dX5_inheritLife_22 1 rfl rfl 23 rfl ?_
  refine v_get X (C := RX5) (T := TX5) (N := 10) (ci := 7) (v := _) dX5_inheritLife_23 (lay_of layc_X5) 0 rfl rfl 3 (by decide) (mw wc_178) rfl rfl 26 rfl ?_
  refine v_iload_n X dX5_inheritLife_26 3 rfl rfl 27 rfl ?_
  refine v_bipush X dX5_inheritLife_27 bp_7 29 rfl ?_
  obtain ⟨o3, ho3, hf⟩ := bnd hf
  refine v_callUi X (ci := 8) (T := TX7) (C := RX7) (owner := "TicketGate$Table") (As := [.int v2, .int 7]) (rest := [.int o1, .int o2, .int v1, .ref (ad 0)]) (ws' := (wX5 ad c9 s_time s_tolerance s_seed s_madeTickets s_cheesesOfText s_R_rows s_R_cells s_U_rows s_U_cells s_S_rows s_S_cells s_T_rows s_T_cells s_E_rows s_E_cells)) (c_X6_get l hG D c9 (fun k => ad ([7, 8].getD k 0)) 240 8 RX7 rfl layc_X7 24 10 s_T_rows s_T_cells v2 7 ho3) 2 (gU wc_229 wc_83 wc_84 wc_33 wc_34 wc_35) rfl rfl rfl rfl pd_X6_get_UX5_inheritLife_93 ⟨Nat.le_of_ble_eq_true rfl, Nat.le_of_ble_eq_true rfl⟩ 7 rfl rfl rfl rfl (Nat.le_of_ble_eq_true rfl) ⟨Nat.zero_le _, Nat.zero_le _⟩ [7, 8] [0, 1, 2, 3, 4, 5, 6, 9, 10] [0, 1, 2, 3, 4, 5, 6, 9, 10, 7, 8] rfl rfl rfl rfl dX5_inheritLife_29 32 rfl ?_
  obtain ⟨o4, ho4, hf⟩ := bnd hf
  refine v_callVv X (ci := 7) (T := TX5) (C := RX5) (As := [.int v1, .int o2, .int o1, .int o3]) (rest := []) (ws' := (wX5 ad c9 s_time s_tolerance s_seed s_madeTickets s_cheesesOfText s_R_rows s_R_cells s_U_rows s_U_cells s_S_rows s_S_cells s_T_rows o4 s_E_rows s_E_cells)) (c_X5_setLife l hG D c9 ad s_time s_tolerance s_seed s_madeTickets s_cheesesOfText s_R_rows s_R_cells s_U_rows s_U_cells s_S_rows s_S_cells s_T_rows s_T_cells s_E_rows s_E_cells v1 o2 o1 o3 ho4) 4 (gV wc_279 wc_280 wc_281 wc_233 wc_282) rfl rfl rfl ⟨rfl, pd_X5_setLife⟩ ⟨Nat.le_of_ble_eq_true rfl, Nat.le_of_ble_eq_true rfl⟩ 0 rfl rfl rfl rfl (Nat.le_of_ble_eq_true rfl) ⟨Nat.zero_le _, Nat.zero_le _⟩ [0, 1, 2, 3, 4, 5, 6, 7, 8, 9, 10] [] [0, 1, 2, 3, 4, 5, 6, 7, 8, 9, 10] rfl rfl rfl rfl dX5_inheritLife_32 35 rfl ?_
  obtain rfl := Option.some.inj hf
  exact v_vret X (Nat.zero_le _) (Nat.zero_le _) dX5_inheritLife_35
theorem pd_X5_inheritLife : yX5_inheritLife.cls ≠ "java/lang/invoke/MethodHandle" ∧ yX5_inheritLife.cls ≠ "java/lang/invoke/VarHandle" ∧ (parseMethodDescriptor yX5_inheritLife.desc).map (fun d => d.parameters.length) = some 2 := by decide +kernel
theorem pd_X6_get_UX5_makeReferral_93 : "TicketGate$Table" ≠ "java/lang/invoke/MethodHandle" ∧ "TicketGate$Table" ≠ "java/lang/invoke/VarHandle" ∧ (parseMethodDescriptor "(II)I").map (fun d => d.parameters.length) = some 2 := by decide +kernel
def f_X5_makeReferral (s_time : Int32) (s_seed : Int32) (s_madeTickets : Int32) (s_R_rows : Int32) (s_R_cells : Nat → Int32) (s_T_rows : Int32) (s_T_cells : Nat → Int32) (v1 : Int32) (v2 : Int32) : Option (Int32 × Int32 × Int32 × Int32 × (Nat → Int32)) :=
  (f_X6_get 240 10 s_T_rows s_T_cells v1 2).bind fun o1 =>
  (f_X5_makeTicket s_time s_seed s_madeTickets s_T_rows s_T_cells o1 v2 (-1)).bind fun o2 =>
  (f_X5_inheritLife s_time s_R_rows s_R_cells o2.2.2.2.1 o2.2.2.2.2 o2.1 v1).bind fun o3 =>
  (f_X6_get 240 10 o2.2.2.2.1 o3 o2.1 0).bind fun o4 =>
  some (o4, o2.2.1, o2.2.2.1, o2.2.2.2.1, o3)
set_option maxRecDepth 100000 in
set_option maxHeartbeats 4000000 in
theorem c_X5_makeReferral (l : Launch) {G : (Nat → Prop) → State → Heap → Prop} (hG : vG G) (D : va_G) (c9 : Nat → ClassId) (ad : Nat → Nat) (s_time : Int32) (s_tolerance : Int32) (s_seed : Int32) (s_madeTickets : Int32) (s_cheesesOfText : Int32) (s_R_rows : Int32) (s_R_cells : Nat → Int32) (s_U_rows : Int32) (s_U_cells : Nat → Int32) (s_S_rows : Int32) (s_S_cells : Nat → Int32) (s_T_rows : Int32) (s_T_cells : Nat → Int32) (s_E_rows : Int32) (s_E_cells : Nat → Int32) (v1 : Int32) (v2 : Int32) {o : Int32 × Int32 × Int32 × Int32 × (Nat → Int32)} (hf : f_X5_makeReferral s_time s_seed s_madeTickets s_R_rows s_R_cells s_T_rows s_T_cells v1 v2 = some o) : mI l yX5_makeReferral (wq yX5_makeReferral cX5_makeReferral 4 (some .int)) { frames := 3, cells := 0, slots := 0, locals := 90 } G D (tyA c9) [.ref (ad 0), .int v1, .int v2] (wX5 ad c9 s_time s_tolerance s_seed s_madeTickets s_cheesesOfText s_R_rows s_R_cells s_U_rows s_U_cells s_S_rows s_S_cells s_T_rows s_T_cells s_E_rows s_E_cells) [] 0 0 o.1 (wX5 ad c9 s_time s_tolerance o.2.1 o.2.2.1 s_cheesesOfText s_R_rows s_R_cells s_U_rows s_U_cells s_S_rows s_S_cells o.2.2.2.1 o.2.2.2.2 s_E_rows s_E_cells) := by
  refine mI_of hG (cc := cX5_makeReferral) (maxL := 4) (ty := .int) (by decide) rfl (Nat.le_of_ble_eq_true rfl) ?_
  intro p e s m args below meth c A X
  have X : vX p s m args meth c cX5_makeReferral 4 (some .int) RX5 (wq yX5_makeReferral cX5_makeReferral 4 (some .int)) D (tyA c9) G A := X
  refine v_eq (lv2 := [(0, .ref (ad 0)), (1, .int v1), (2, .int v2)]) rfl rfl rfl rfl ?_
  rw [f_X5_makeReferral] at hf
  refine v_aload_n X dX5_makeReferral_0 0 rfl rfl 1 rfl ?_
  refine v_aload_n X dX5_makeReferral_1 0 rfl rfl 2 rfl ?_
  refine v_get X (C := RX5) (T := TX5) (N := 10) (ci := 7) (v := _) dX5_makeReferral_2 (lay_of layc_X5) 0 rfl rfl 3 (by decide) (mw wc_178) rfl rfl 5 rfl ?_
  refine v_iload_n X dX5_makeReferral_5 1 rfl rfl 6 rfl ?_
  refine v_iconst X dX5_makeReferral_6 ic_2 7 rfl ?_
  obtain ⟨o1, ho1, hf⟩ := bnd hf
  refine v_callUi X (ci := 8) (T := TX7) (C := RX7) (owner := "TicketGate$Table") (As := [.int v1, .int 2]) (rest := [.ref (ad 0)]) (ws' := (wX5 ad c9 s_time s_tolerance s_seed s_madeTickets s_cheesesOfText s_R_rows s_R_cells s_U_rows s_U_cells s_S_rows s_S_cells s_T_rows s_T_cells s_E_rows s_E_cells)) (c_X6_get l hG D c9 (fun k => ad ([7, 8].getD k 0)) 240 8 RX7 rfl layc_X7 24 10 s_T_rows s_T_cells v1 2 ho1) 2 (gU wc_229 wc_83 wc_84 wc_33 wc_34 wc_35) rfl rfl rfl rfl pd_X6_get_UX5_makeReferral_93 ⟨Nat.le_of_ble_eq_true rfl, Nat.le_of_ble_eq_true rfl⟩ 7 rfl rfl rfl rfl (Nat.le_of_ble_eq_true rfl) ⟨Nat.zero_le _, Nat.zero_le _⟩ [7, 8] [0, 1, 2, 3, 4, 5, 6, 9, 10] [0, 1, 2, 3, 4, 5, 6, 9, 10, 7, 8] rfl rfl rfl rfl dX5_makeReferral_7 10 rfl ?_
  refine v_iload_n X dX5_makeReferral_10 2 rfl rfl 11 rfl ?_
  refine v_iconst X dX5_makeReferral_11 ic_m1 12 rfl ?_
  obtain ⟨o2, ho2, hf⟩ := bnd hf
  refine v_callVi X (ci := 7) (T := TX5) (C := RX5) (As := [.int o1, .int v2, .int (-1)]) (rest := []) (ws' := (wX5 ad c9 s_time s_tolerance o2.2.1 o2.2.2.1 s_cheesesOfText s_R_rows s_R_cells s_U_rows s_U_cells s_S_rows s_S_cells o2.2.2.2.1 o2.2.2.2.2 s_E_rows s_E_cells)) (c_X5_makeTicket l hG D c9 ad s_time s_tolerance s_seed s_madeTickets s_cheesesOfText s_R_rows s_R_cells s_U_rows s_U_cells s_S_rows s_S_cells s_T_rows s_T_cells s_E_rows s_E_cells o1 v2 (-1) ho2) 3 (gV wc_274 wc_275 wc_276 wc_233 wc_277) rfl rfl rfl ⟨rfl, pd_X5_makeTicket⟩ ⟨Nat.le_of_ble_eq_true rfl, Nat.le_of_ble_eq_true rfl⟩ 0 rfl rfl rfl rfl (Nat.le_of_ble_eq_true rfl) ⟨Nat.zero_le _, Nat.zero_le _⟩ [0, 1, 2, 3, 4, 5, 6, 7, 8, 9, 10] [] [0, 1, 2, 3, 4, 5, 6, 7, 8, 9, 10] rfl rfl rfl rfl dX5_makeReferral_12 15 rfl ?_
  refine v_istore_n X (lv' := [(3, .int o2.1), (0, .ref (ad 0)), (1, .int v1), (2, .int v2)]) dX5_makeReferral_15 rfl (by decide) rfl 16 rfl ?_
  refine v_aload_n X dX5_makeReferral_16 1 rfl rfl 17 rfl ?_
  refine v_iload_n X dX5_makeReferral_17 0 rfl rfl 18 rfl ?_
  refine v_iload_n X dX5_makeReferral_18 2 rfl rfl 19 rfl ?_
  obtain ⟨o3, ho3, hf⟩ := bnd hf
  refine v_callVv X (ci := 7) (T := TX5) (C := RX5) (As := [.int o2.1, .int v1]) (rest := []) (ws' := (wX5 ad c9 s_time s_tolerance o2.2.1 o2.2.2.1 s_cheesesOfText s_R_rows s_R_cells s_U_rows s_U_cells s_S_rows s_S_cells o2.2.2.2.1 o3 s_E_rows s_E_cells)) (c_X5_inheritLife l hG D c9 ad s_time s_tolerance o2.2.1 o2.2.2.1 s_cheesesOfText s_R_rows s_R_cells s_U_rows s_U_cells s_S_rows s_S_cells o2.2.2.2.1 o2.2.2.2.2 s_E_rows s_E_cells o2.1 v1 ho3) 2 (gV wc_283 wc_284 wc_285 wc_233 wc_286) rfl rfl rfl ⟨rfl, pd_X5_inheritLife⟩ ⟨Nat.le_of_ble_eq_true rfl, Nat.le_of_ble_eq_true rfl⟩ 0 rfl rfl rfl rfl (Nat.le_of_ble_eq_true rfl) ⟨Nat.zero_le _, Nat.zero_le _⟩ [0, 1, 2, 3, 4, 5, 6, 7, 8, 9, 10] [] [0, 1, 2, 3, 4, 5, 6, 7, 8, 9, 10] rfl rfl rfl rfl dX5_makeReferral_19 22 rfl ?_
  refine v_aload_n X dX5_makeReferral_22 1 rfl rfl 23 rfl ?_
  refine v_get X (C := RX5) (T := TX5) (N := 10) (ci := 7) (v := _) dX5_makeReferral_23 (lay_of layc_X5) 0 rfl rfl 3 (by decide) (mw wc_178) rfl rfl 26 rfl ?_
  refine v_iload_n X dX5_makeReferral_26 0 rfl rfl 27 rfl ?_
  refine v_iconst X dX5_makeReferral_27 ic_0 28 rfl ?_
  obtain ⟨o4, ho4, hf⟩ := bnd hf
  refine v_callUi X (ci := 8) (T := TX7) (C := RX7) (owner := "TicketGate$Table") (As := [.int o2.1, .int 0]) (rest := []) (ws' := (wX5 ad c9 s_time s_tolerance o2.2.1 o2.2.2.1 s_cheesesOfText s_R_rows s_R_cells s_U_rows s_U_cells s_S_rows s_S_cells o2.2.2.2.1 o3 s_E_rows s_E_cells)) (c_X6_get l hG D c9 (fun k => ad ([7, 8].getD k 0)) 240 8 RX7 rfl layc_X7 24 10 o2.2.2.2.1 o3 o2.1 0 ho4) 2 (gU wc_229 wc_83 wc_84 wc_33 wc_34 wc_35) rfl rfl rfl rfl pd_X6_get_UX5_makeReferral_93 ⟨Nat.le_of_ble_eq_true rfl, Nat.le_of_ble_eq_true rfl⟩ 7 rfl rfl rfl rfl (Nat.le_of_ble_eq_true rfl) ⟨Nat.zero_le _, Nat.zero_le _⟩ [7, 8] [0, 1, 2, 3, 4, 5, 6, 9, 10] [0, 1, 2, 3, 4, 5, 6, 9, 10, 7, 8] rfl rfl rfl rfl dX5_makeReferral_28 31 rfl ?_
  obtain rfl := Option.some.inj hf
  exact v_iret X (Nat.zero_le _) (Nat.zero_le _) dX5_makeReferral_31
theorem pd_X5_makeReferral : yX5_makeReferral.cls ≠ "java/lang/invoke/MethodHandle" ∧ yX5_makeReferral.cls ≠ "java/lang/invoke/VarHandle" ∧ (parseMethodDescriptor yX5_makeReferral.desc).map (fun d => d.parameters.length) = some 2 := by decide +kernel
theorem pd_X6_get_UX5_makeRequest_93 : "TicketGate$Table" ≠ "java/lang/invoke/MethodHandle" ∧ "TicketGate$Table" ≠ "java/lang/invoke/VarHandle" ∧ (parseMethodDescriptor "(II)I").map (fun d => d.parameters.length) = some 2 := by decide +kernel
def f_X5_makeRequest (s_time : Int32) (s_seed : Int32) (s_madeTickets : Int32) (s_R_rows : Int32) (s_R_cells : Nat → Int32) (s_T_rows : Int32) (s_T_cells : Nat → Int32) (v1 : Int32) (v2 : Int32) : Option (Int32 × Int32 × Int32 × Int32 × (Nat → Int32)) :=
  (f_X6_get 240 10 s_T_rows s_T_cells v1 3).bind fun o1 =>
  (f_X6_get 240 10 s_T_rows s_T_cells v1 2).bind fun o2 =>
  (f_X5_makeTicket s_time s_seed s_madeTickets s_T_rows s_T_cells o2 o1 v2).bind fun o3 =>
  (f_X5_inheritLife s_time s_R_rows s_R_cells o3.2.2.2.1 o3.2.2.2.2 o3.1 v1).bind fun o4 =>
  (f_X6_get 240 10 o3.2.2.2.1 o4 o3.1 0).bind fun o5 =>
  some (o5, o3.2.1, o3.2.2.1, o3.2.2.2.1, o4)
set_option maxRecDepth 100000 in
set_option maxHeartbeats 4000000 in
theorem c_X5_makeRequest (l : Launch) {G : (Nat → Prop) → State → Heap → Prop} (hG : vG G) (D : va_G) (c9 : Nat → ClassId) (ad : Nat → Nat) (s_time : Int32) (s_tolerance : Int32) (s_seed : Int32) (s_madeTickets : Int32) (s_cheesesOfText : Int32) (s_R_rows : Int32) (s_R_cells : Nat → Int32) (s_U_rows : Int32) (s_U_cells : Nat → Int32) (s_S_rows : Int32) (s_S_cells : Nat → Int32) (s_T_rows : Int32) (s_T_cells : Nat → Int32) (s_E_rows : Int32) (s_E_cells : Nat → Int32) (v1 : Int32) (v2 : Int32) {o : Int32 × Int32 × Int32 × Int32 × (Nat → Int32)} (hf : f_X5_makeRequest s_time s_seed s_madeTickets s_R_rows s_R_cells s_T_rows s_T_cells v1 v2 = some o) : mI l yX5_makeRequest (wq yX5_makeRequest cX5_makeRequest 5 (some .int)) { frames := 3, cells := 0, slots := 0, locals := 90 } G D (tyA c9) [.ref (ad 0), .int v1, .int v2] (wX5 ad c9 s_time s_tolerance s_seed s_madeTickets s_cheesesOfText s_R_rows s_R_cells s_U_rows s_U_cells s_S_rows s_S_cells s_T_rows s_T_cells s_E_rows s_E_cells) [] 0 0 o.1 (wX5 ad c9 s_time s_tolerance o.2.1 o.2.2.1 s_cheesesOfText s_R_rows s_R_cells s_U_rows s_U_cells s_S_rows s_S_cells o.2.2.2.1 o.2.2.2.2 s_E_rows s_E_cells) := by
  refine mI_of hG (cc := cX5_makeRequest) (maxL := 5) (ty := .int) (by decide) rfl (Nat.le_of_ble_eq_true rfl) ?_
  intro p e s m args below meth c A X
  have X : vX p s m args meth c cX5_makeRequest 5 (some .int) RX5 (wq yX5_makeRequest cX5_makeRequest 5 (some .int)) D (tyA c9) G A := X
  refine v_eq (lv2 := [(0, .ref (ad 0)), (1, .int v1), (2, .int v2)]) rfl rfl rfl rfl ?_
  rw [f_X5_makeRequest] at hf
  refine v_aload_n X dX5_makeRequest_0 0 rfl rfl 1 rfl ?_
  refine v_get X (C := RX5) (T := TX5) (N := 10) (ci := 7) (v := _) dX5_makeRequest_1 (lay_of layc_X5) 0 rfl rfl 3 (by decide) (mw wc_178) rfl rfl 4 rfl ?_
  refine v_iload_n X dX5_makeRequest_4 1 rfl rfl 5 rfl ?_
  refine v_iconst X dX5_makeRequest_5 ic_3 6 rfl ?_
  obtain ⟨o1, ho1, hf⟩ := bnd hf
  refine v_callUi X (ci := 8) (T := TX7) (C := RX7) (owner := "TicketGate$Table") (As := [.int v1, .int 3]) (rest := []) (ws' := (wX5 ad c9 s_time s_tolerance s_seed s_madeTickets s_cheesesOfText s_R_rows s_R_cells s_U_rows s_U_cells s_S_rows s_S_cells s_T_rows s_T_cells s_E_rows s_E_cells)) (c_X6_get l hG D c9 (fun k => ad ([7, 8].getD k 0)) 240 8 RX7 rfl layc_X7 24 10 s_T_rows s_T_cells v1 3 ho1) 2 (gU wc_229 wc_83 wc_84 wc_33 wc_34 wc_35) rfl rfl rfl rfl pd_X6_get_UX5_makeRequest_93 ⟨Nat.le_of_ble_eq_true rfl, Nat.le_of_ble_eq_true rfl⟩ 7 rfl rfl rfl rfl (Nat.le_of_ble_eq_true rfl) ⟨Nat.zero_le _, Nat.zero_le _⟩ [7, 8] [0, 1, 2, 3, 4, 5, 6, 9, 10] [0, 1, 2, 3, 4, 5, 6, 9, 10, 7, 8] rfl rfl rfl rfl dX5_makeRequest_6 9 rfl ?_
  refine v_istore_n X (lv' := [(3, .int o1), (0, .ref (ad 0)), (1, .int v1), (2, .int v2)]) dX5_makeRequest_9 rfl (by decide) rfl 10 rfl ?_
  refine v_aload_n X dX5_makeRequest_10 1 rfl rfl 11 rfl ?_
  refine v_aload_n X dX5_makeRequest_11 1 rfl rfl 12 rfl ?_
  refine v_get X (C := RX5) (T := TX5) (N := 10) (ci := 7) (v := _) dX5_makeRequest_12 (lay_of layc_X5) 0 rfl rfl 3 (by decide) (mw wc_178) rfl rfl 15 rfl ?_
  refine v_iload_n X dX5_makeRequest_15 2 rfl rfl 16 rfl ?_
  refine v_iconst X dX5_makeRequest_16 ic_2 17 rfl ?_
  obtain ⟨o2, ho2, hf⟩ := bnd hf
  refine v_callUi X (ci := 8) (T := TX7) (C := RX7) (owner := "TicketGate$Table") (As := [.int v1, .int 2]) (rest := [.ref (ad 0)]) (ws' := (wX5 ad c9 s_time s_tolerance s_seed s_madeTickets s_cheesesOfText s_R_rows s_R_cells s_U_rows s_U_cells s_S_rows s_S_cells s_T_rows s_T_cells s_E_rows s_E_cells)) (c_X6_get l hG D c9 (fun k => ad ([7, 8].getD k 0)) 240 8 RX7 rfl layc_X7 24 10 s_T_rows s_T_cells v1 2 ho2) 2 (gU wc_229 wc_83 wc_84 wc_33 wc_34 wc_35) rfl rfl rfl rfl pd_X6_get_UX5_makeRequest_93 ⟨Nat.le_of_ble_eq_true rfl, Nat.le_of_ble_eq_true rfl⟩ 7 rfl rfl rfl rfl (Nat.le_of_ble_eq_true rfl) ⟨Nat.zero_le _, Nat.zero_le _⟩ [7, 8] [0, 1, 2, 3, 4, 5, 6, 9, 10] [0, 1, 2, 3, 4, 5, 6, 9, 10, 7, 8] rfl rfl rfl rfl dX5_makeRequest_17 20 rfl ?_
  refine v_iload_n X dX5_makeRequest_20 0 rfl rfl 21 rfl ?_
  refine v_iload_n X dX5_makeRequest_21 3 rfl rfl 22 rfl ?_
  obtain ⟨o3, ho3, hf⟩ := bnd hf
  refine v_callVi X (ci := 7) (T := TX5) (C := RX5) (As := [.int o2, .int o1, .int v2]) (rest := []) (ws' := (wX5 ad c9 s_time s_tolerance o3.2.1 o3.2.2.1 s_cheesesOfText s_R_rows s_R_cells s_U_rows s_U_cells s_S_rows s_S_cells o3.2.2.2.1 o3.2.2.2.2 s_E_rows s_E_cells)) (c_X5_makeTicket l hG D c9 ad s_time s_tolerance s_seed s_madeTickets s_cheesesOfText s_R_rows s_R_cells s_U_rows s_U_cells s_S_rows s_S_cells s_T_rows s_T_cells s_E_rows s_E_cells o2 o1 v2 ho3) 3 (gV wc_274 wc_275 wc_276 wc_233 wc_277) rfl rfl rfl ⟨rfl, pd_X5_makeTicket⟩ ⟨Nat.le_of_ble_eq_true rfl, Nat.le_of_ble_eq_true rfl⟩ 0 rfl rfl rfl rfl (Nat.le_of_ble_eq_true rfl) ⟨Nat.zero_le _, Nat.zero_le _⟩ [0, 1, 2, 3, 4, 5, 6, 7, 8, 9, 10] [] [0, 1, 2, 3, 4, 5, 6, 7, 8, 9, 10] rfl rfl rfl rfl dX5_makeRequest_22 25 rfl ?_
  refine v_istore X (lv' := [(4, .int o3.1), (3, .int o1), (0, .ref (ad 0)), (1, .int v1), (2, .int v2)]) dX5_makeRequest_25 (by decide) rfl 27 rfl ?_
  refine v_aload_n X dX5_makeRequest_27 2 rfl rfl 28 rfl ?_
  refine v_iload X dX5_makeRequest_28 0 rfl 30 rfl ?_
  refine v_iload_n X dX5_makeRequest_30 3 rfl rfl 31 rfl ?_
  obtain ⟨o4, ho4, hf⟩ := bnd hf
  refine v_callVv X (ci := 7) (T := TX5) (C := RX5) (As := [.int o3.1, .int v1]) (rest := []) (ws' := (wX5 ad c9 s_time s_tolerance o3.2.1 o3.2.2.1 s_cheesesOfText s_R_rows s_R_cells s_U_rows s_U_cells s_S_rows s_S_cells o3.2.2.2.1 o4 s_E_rows s_E_cells)) (c_X5_inheritLife l hG D c9 ad s_time s_tolerance o3.2.1 o3.2.2.1 s_cheesesOfText s_R_rows s_R_cells s_U_rows s_U_cells s_S_rows s_S_cells o3.2.2.2.1 o3.2.2.2.2 s_E_rows s_E_cells o3.1 v1 ho4) 2 (gV wc_283 wc_284 wc_285 wc_233 wc_286) rfl rfl rfl ⟨rfl, pd_X5_inheritLife⟩ ⟨Nat.le_of_ble_eq_true rfl, Nat.le_of_ble_eq_true rfl⟩ 0 rfl rfl rfl rfl (Nat.le_of_ble_eq_true rfl) ⟨Nat.zero_le _, Nat.zero_le _⟩ [0, 1, 2, 3, 4, 5, 6, 7, 8, 9, 10] [] [0, 1, 2, 3, 4, 5, 6, 7, 8, 9, 10] rfl rfl rfl rfl dX5_makeRequest_31 34 rfl ?_
  refine v_aload_n X dX5_makeRequest_34 2 rfl rfl 35 rfl ?_
  refine v_get X (C := RX5) (T := TX5) (N := 10) (ci := 7) (v := _) dX5_makeRequest_35 (lay_of layc_X5) 0 rfl rfl 3 (by decide) (mw wc_178) rfl rfl 38 rfl ?_
  refine v_iload X dX5_makeRequest_38 0 rfl 40 rfl ?_
  refine v_iconst X dX5_makeRequest_40 ic_0 41 rfl ?_
  obtain ⟨o5, ho5, hf⟩ := bnd hf
  refine v_callUi X (ci := 8) (T := TX7) (C := RX7) (owner := "TicketGate$Table") (As := [.int o3.1, .int 0]) (rest := []) (ws' := (wX5 ad c9 s_time s_tolerance o3.2.1 o3.2.2.1 s_cheesesOfText s_R_rows s_R_cells s_U_rows s_U_cells s_S_rows s_S_cells o3.2.2.2.1 o4 s_E_rows s_E_cells)) (c_X6_get l hG D c9 (fun k => ad ([7, 8].getD k 0)) 240 8 RX7 rfl layc_X7 24 10 o3.2.2.2.1 o4 o3.1 0 ho5) 2 (gU wc_229 wc_83 wc_84 wc_33 wc_34 wc_35) rfl rfl rfl rfl pd_X6_get_UX5_makeRequest_93 ⟨Nat.le_of_ble_eq_true rfl, Nat.le_of_ble_eq_true rfl⟩ 7 rfl rfl rfl rfl (Nat.le_of_ble_eq_true rfl) ⟨Nat.zero_le _, Nat.zero_le _⟩ [7, 8] [0, 1, 2, 3, 4, 5, 6, 9, 10] [0, 1, 2, 3, 4, 5, 6, 9, 10, 7, 8] rfl rfl rfl rfl dX5_makeRequest_41 44 rfl ?_
  obtain rfl := Option.some.inj hf
  exact v_iret X (Nat.zero_le _) (Nat.zero_le _) dX5_makeRequest_44
theorem pd_X5_makeRequest : yX5_makeRequest.cls ≠ "java/lang/invoke/MethodHandle" ∧ yX5_makeRequest.cls ≠ "java/lang/invoke/VarHandle" ∧ (parseMethodDescriptor yX5_makeRequest.desc).map (fun d => d.parameters.length) = some 2 := by decide +kernel
theorem pd_X6_set_UX5_makeRenewal_136 : "TicketGate$Table" ≠ "java/lang/invoke/MethodHandle" ∧ "TicketGate$Table" ≠ "java/lang/invoke/VarHandle" ∧ (parseMethodDescriptor "(III)V").map (fun d => d.parameters.length) = some 3 := by decide +kernel
def f_X5_makeRenewal (s_time : Int32) (s_seed : Int32) (s_R_rows : Int32) (s_R_cells : Nat → Int32) (s_T_rows : Int32) (s_T_cells : Nat → Int32) (v1 : Int32) : Option (Int32 × Int32 × (Nat → Int32)) :=
  (f_X5_renewedEnd s_time s_R_rows s_R_cells s_T_rows s_T_cells v1).bind fun o1 =>
  (f_X6_set 240 10 s_T_rows s_T_cells v1 6 o1).bind fun o2 =>
  (f_X5_drawKey s_seed).bind fun o3 =>
  (f_X6_set 240 10 s_T_rows o2 v1 8 o3.1).bind fun o4 =>
  some (o1, o3.2, o4)
set_option maxRecDepth 100000 in
set_option maxHeartbeats 4000000 in
theorem c_X5_makeRenewal (l : Launch) {G : (Nat → Prop) → State → Heap → Prop} (hG : vG G) (D : va_G) (c9 : Nat → ClassId) (ad : Nat → Nat) (s_time : Int32) (s_tolerance : Int32) (s_seed : Int32) (s_madeTickets : Int32) (s_cheesesOfText : Int32) (s_R_rows : Int32) (s_R_cells : Nat → Int32) (s_U_rows : Int32) (s_U_cells : Nat → Int32) (s_S_rows : Int32) (s_S_cells : Nat → Int32) (s_T_rows : Int32) (s_T_cells : Nat → Int32) (s_E_rows : Int32) (s_E_cells : Nat → Int32) (v1 : Int32) {o : Int32 × Int32 × (Nat → Int32)} (hf : f_X5_makeRenewal s_time s_seed s_R_rows s_R_cells s_T_rows s_T_cells v1 = some o) : mI l yX5_makeRenewal (wq yX5_makeRenewal cX5_makeRenewal 3 (some .int)) { frames := 2, cells := 0, slots := 0, locals := 63 } G D (tyA c9) [.ref (ad 0), .int v1] (wX5 ad c9 s_time s_tolerance s_seed s_madeTickets s_cheesesOfText s_R_rows s_R_cells s_U_rows s_U_cells s_S_rows s_S_cells s_T_rows s_T_cells s_E_rows s_E_cells) [] 0 0 o.1 (wX5 ad c9 s_time s_tolerance o.2.1 s_madeTickets s_cheesesOfText s_R_rows s_R_cells s_U_rows s_U_cells s_S_rows s_S_cells s_T_rows o.2.2 s_E_rows s_E_cells) := by
  refine mI_of hG (cc := cX5_makeRenewal) (maxL := 3) (ty := .int) (by decide) rfl (Nat.le_of_ble_eq_true rfl) ?_
  intro p e s m args below meth c A X
  have X : vX p s m args meth c cX5_makeRenewal 3 (some .int) RX5 (wq yX5_makeRenewal cX5_makeRenewal 3 (some .int)) D (tyA c9) G A := X
  refine v_eq (lv2 := [(0, .ref (ad 0)), (1, .int v1)]) rfl rfl rfl rfl ?_
  rw [f_X5_makeRenewal] at hf
  refine v_aload_n X dX5_makeRenewal_0 0 rfl rfl 1 rfl ?_
  refine v_iload_n X dX5_makeRenewal_1 1 rfl rfl 2 rfl ?_
  obtain ⟨o1, ho1, hf⟩ := bnd hf
  refine v_callVi X (ci := 7) (T := TX5) (C := RX5) (As := [.int v1]) (rest := []) (ws' := (wX5 ad c9 s_time s_tolerance s_seed s_madeTickets s_cheesesOfText s_R_rows s_R_cells s_U_rows s_U_cells s_S_rows s_S_cells s_T_rows s_T_cells s_E_rows s_E_cells)) (c_X5_renewedEnd l hG D c9 ad s_time s_tolerance s_seed s_madeTickets s_cheesesOfText s_R_rows s_R_cells s_U_rows s_U_cells s_S_rows s_S_cells s_T_rows s_T_cells s_E_rows s_E_cells v1 ho1) 1 (gV wc_252 wc_253 wc_254 wc_233 wc_255) rfl rfl rfl ⟨rfl, pd_X5_renewedEnd⟩ ⟨Nat.le_of_ble_eq_true rfl, Nat.le_of_ble_eq_true rfl⟩ 0 rfl rfl rfl rfl (Nat.le_of_ble_eq_true rfl) ⟨Nat.zero_le _, Nat.zero_le _⟩ [0, 1, 2, 3, 4, 5, 6, 7, 8, 9, 10] [] [0, 1, 2, 3, 4, 5, 6, 7, 8, 9, 10] rfl rfl rfl rfl dX5_makeRenewal_2 5 rfl ?_
  refine v_istore_n X (lv' := [(2, .int o1), (0, .ref (ad 0)), (1, .int v1)]) dX5_makeRenewal_5 rfl (by decide) rfl 6 rfl ?_
  refine v_aload_n X dX5_makeRenewal_6 1 rfl rfl 7 rfl ?_
  refine v_get X (C := RX5) (T := TX5) (N := 10) (ci := 7) (v := _) dX5_makeRenewal_7 (lay_of layc_X5) 0 rfl rfl 3 (by decide) (mw wc_178) rfl rfl 10 rfl ?_
  refine v_iload_n X dX5_makeRenewal_10 2 rfl rfl 11 rfl ?_
  refine v_bipush X dX5_makeRenewal_11 bp_6 13 rfl ?_
  refine v_iload_n X dX5_makeRenewal_13 0 rfl rfl 14 rfl ?_
  obtain ⟨o2, ho2, hf⟩ := bnd hf
  refine v_callUv X (ci := 8) (T := TX7) (C := RX7) (owner := "TicketGate$Table") (As := [.int v1, .int 6, .int o1]) (rest := []) (ws' := (wX5 ad c9 s_time s_tolerance s_seed s_madeTickets s_cheesesOfText s_R_rows s_R_cells s_U_rows s_U_cells s_S_rows s_S_cells s_T_rows o2 s_E_rows s_E_cells)) (c_X6_set l hG D c9 (fun k => ad ([7, 8].getD k 0)) 240 8 RX7 rfl layc_X7 24 10 s_T_rows s_T_cells v1 6 o1 ho2) 3 (gU wc_264 wc_265 wc_266 wc_53 wc_34 wc_54) rfl rfl rfl rfl pd_X6_set_UX5_makeRenewal_136 ⟨Nat.le_of_ble_eq_true rfl, Nat.le_of_ble_eq_true rfl⟩ 7 rfl rfl rfl rfl (Nat.le_of_ble_eq_true rfl) ⟨Nat.zero_le _, Nat.zero_le _⟩ [7, 8] [0, 1, 2, 3, 4, 5, 6, 9, 10] [0, 1, 2, 3, 4, 5, 6, 9, 10, 7, 8] rfl rfl rfl rfl dX5_makeRenewal_14 17 rfl ?_
  refine v_aload_n X dX5_makeRenewal_17 1 rfl rfl 18 rfl ?_
  refine v_get X (C := RX5) (T := TX5) (N := 10) (ci := 7) (v := _) dX5_makeRenewal_18 (lay_of layc_X5) 0 rfl rfl 3 (by decide) (mw wc_178) rfl rfl 21 rfl ?_
  refine v_iload_n X dX5_makeRenewal_21 2 rfl rfl 22 rfl ?_
  refine v_bipush X dX5_makeRenewal_22 bp_8 24 rfl ?_
  refine v_aload_n X dX5_makeRenewal_24 1 rfl rfl 25 rfl ?_
  obtain ⟨o3, ho3, hf⟩ := bnd hf
  refine v_callVi X (ci := 7) (T := TX5) (C := RX5) (As := []) (rest := [.int 8, .int v1, .ref (ad 7)]) (ws' := (wX5 ad c9 s_time s_tolerance o3.2 s_madeTickets s_cheesesOfText s_R_rows s_R_cells s_U_rows s_U_cells s_S_rows s_S_cells s_T_rows o2 s_E_rows s_E_cells)) (c_X5_drawKey l hG D c9 ad s_time s_tolerance s_seed s_madeTickets s_cheesesOfText s_R_rows s_R_cells s_U_rows s_U_cells s_S_rows s_S_cells s_T_rows o2 s_E_rows s_E_cells ho3) 0 (gV wc_267 wc_268 wc_269 wc_233 wc_270) rfl rfl rfl ⟨rfl, pd_X5_drawKey⟩ ⟨Nat.le_of_ble_eq_true rfl, Nat.le_of_ble_eq_true rfl⟩ 0 rfl rfl rfl rfl (Nat.le_of_ble_eq_true rfl) ⟨Nat.zero_le _, Nat.zero_le _⟩ [0, 1, 2, 3, 4, 5, 6, 7, 8, 9, 10] [] [0, 1, 2, 3, 4, 5, 6, 7, 8, 9, 10] rfl rfl rfl rfl dX5_makeRenewal_25 28 rfl ?_
  obtain ⟨o4, ho4, hf⟩ := bnd hf
  refine v_callUv X (ci := 8) (T := TX7) (C := RX7) (owner := "TicketGate$Table") (As := [.int v1, .int 8, .int o3.1]) (rest := []) (ws' := (wX5 ad c9 s_time s_tolerance o3.2 s_madeTickets s_cheesesOfText s_R_rows s_R_cells s_U_rows s_U_cells s_S_rows s_S_cells s_T_rows o4 s_E_rows s_E_cells)) (c_X6_set l hG D c9 (fun k => ad ([7, 8].getD k 0)) 240 8 RX7 rfl layc_X7 24 10 s_T_rows o2 v1 8 o3.1 ho4) 3 (gU wc_264 wc_265 wc_266 wc_53 wc_34 wc_54) rfl rfl rfl rfl pd_X6_set_UX5_makeRenewal_136 ⟨Nat.le_of_ble_eq_true rfl, Nat.le_of_ble_eq_true rfl⟩ 7 rfl rfl rfl rfl (Nat.le_of_ble_eq_true rfl) ⟨Nat.zero_le _, Nat.zero_le _⟩ [7, 8] [0, 1, 2, 3, 4, 5, 6, 9, 10] [0, 1, 2, 3, 4, 5, 6, 9, 10, 7, 8] rfl rfl rfl rfl dX5_makeRenewal_28 31 rfl ?_
  refine v_iload_n X dX5_makeRenewal_31 0 rfl rfl 32 rfl ?_
  obtain rfl := Option.some.inj hf
  exact v_iret X (Nat.zero_le _) (Nat.zero_le _) dX5_makeRenewal_32
theorem pd_X5_makeRenewal : yX5_makeRenewal.cls ≠ "java/lang/invoke/MethodHandle" ∧ yX5_makeRenewal.cls ≠ "java/lang/invoke/VarHandle" ∧ (parseMethodDescriptor yX5_makeRenewal.desc).map (fun d => d.parameters.length) = some 1 := by decide +kernel
theorem pd_X6_get_UX5_giveCheese_93 : "TicketGate$Table" ≠ "java/lang/invoke/MethodHandle" ∧ "TicketGate$Table" ≠ "java/lang/invoke/VarHandle" ∧ (parseMethodDescriptor "(II)I").map (fun d => d.parameters.length) = some 2 := by decide +kernel
theorem pd_X6_get_UX5_giveCheese_83 : "TicketGate$Table" ≠ "java/lang/invoke/MethodHandle" ∧ "TicketGate$Table" ≠ "java/lang/invoke/VarHandle" ∧ (parseMethodDescriptor "(II)I").map (fun d => d.parameters.length) = some 2 := by decide +kernel
theorem pd_X6_get_UX5_giveCheese_112 : "TicketGate$Table" ≠ "java/lang/invoke/MethodHandle" ∧ "TicketGate$Table" ≠ "java/lang/invoke/VarHandle" ∧ (parseMethodDescriptor "(II)I").map (fun d => d.parameters.length) = some 2 := by decide +kernel
theorem pd_X6_set_UX5_giveCheese_148 : "TicketGate$Table" ≠ "java/lang/invoke/MethodHandle" ∧ "TicketGate$Table" ≠ "java/lang/invoke/VarHandle" ∧ (parseMethodDescriptor "(III)V").map (fun d => d.parameters.length) = some 3 := by decide +kernel
theorem pd_X6_set_UX5_giveCheese_149 : "TicketGate$Table" ≠ "java/lang/invoke/MethodHandle" ∧ "TicketGate$Table" ≠ "java/lang/invoke/VarHandle" ∧ (parseMethodDescriptor "(III)V").map (fun d => d.parameters.length) = some 3 := by decide +kernel
def f_X5_giveCheese (s_time : Int32) (s_U_rows : Int32) (s_U_cells : Nat → Int32) (s_S_rows : Int32) (s_S_cells : Nat → Int32) (s_T_rows : Int32) (s_T_cells : Nat → Int32) (s_E_rows : Int32) (s_E_cells : Nat → Int32) (v1 : Int32) : Option (Int32 × (Nat → Int32) × (Nat → Int32) × Int32 × (Nat → Int32)) :=
  (f_X6_get 240 10 s_T_rows s_T_cells v1 2).bind fun o1 =>
  (f_X6_get 240 10 s_T_rows s_T_cells v1 4).bind fun o2 =>
  (f_X6_get 30 5 s_U_rows s_U_cells o1 4).bind fun o3 =>
  (f_X6_get 30 5 s_U_rows s_U_cells o1 3).bind fun o4 =>
  (f_X9_addUse s_E_rows s_E_cells o1 o2 (s_time + o4) s_time).bind fun o5 =>
  (f_X6_get 18 3 s_S_rows s_S_cells o2 2).bind fun o6 =>
  (f_X6_set 18 3 s_S_rows s_S_cells o2 2 (o6 - 1)).bind fun o7 =>
  (f_X6_set 30 5 s_U_rows s_U_cells o1 4 (o3 + 1)).bind fun o8 =>
  some ((o3 + 1), o8, o7, o5.1, o5.2)
set_option maxRecDepth 100000 in
set_option maxHeartbeats 4000000 in
theorem c_X5_giveCheese (l : Launch) {G : (Nat → Prop) → State → Heap → Prop} (hG : vG G) (D : va_G) (c9 : Nat → ClassId) (ad : Nat → Nat) (s_time : Int32) (s_tolerance : Int32) (s_seed : Int32) (s_madeTickets : Int32) (s_cheesesOfText : Int32) (s_R_rows : Int32) (s_R_cells : Nat → Int32) (s_U_rows : Int32) (s_U_cells : Nat → Int32) (s_S_rows : Int32) (s_S_cells : Nat → Int32) (s_T_rows : Int32) (s_T_cells : Nat → Int32) (s_E_rows : Int32) (s_E_cells : Nat → Int32) (v1 : Int32) {o : Int32 × (Nat → Int32) × (Nat → Int32) × Int32 × (Nat → Int32)} (hf : f_X5_giveCheese s_time s_U_rows s_U_cells s_S_rows s_S_cells s_T_rows s_T_cells s_E_rows s_E_cells v1 = some o) : mI l yX5_giveCheese (wq yX5_giveCheese cX5_giveCheese 5 (some .int)) { frames := 2, cells := 0, slots := 0, locals := 49 } G D (tyA c9) [.ref (ad 0), .int v1] (wX5 ad c9 s_time s_tolerance s_seed s_madeTickets s_cheesesOfText s_R_rows s_R_cells s_U_rows s_U_cells s_S_rows s_S_cells s_T_rows s_T_cells s_E_rows s_E_cells) [] 0 0 o.1 (wX5 ad c9 s_time s_tolerance s_seed s_madeTickets s_cheesesOfText s_R_rows s_R_cells s_U_rows o.2.1 s_S_rows o.2.2.1 s_T_rows s_T_cells o.2.2.2.1 o.2.2.2.2) := by
  refine mI_of hG (cc := cX5_giveCheese) (maxL := 5) (ty := .int) (by decide) rfl (Nat.le_of_ble_eq_true rfl) ?_
  intro p e s m args below meth c A X
  have X : vX p s m args meth c cX5_giveCheese 5 (some .int) RX5 (wq yX5_giveCheese cX5_giveCheese 5 (some .int)) D (tyA c9) G A := X
  refine v_eq (lv2 := [(0, .ref (ad 0)), (1, .int v1)]) rfl rfl rfl rfl ?_
  rw [f_X5_giveCheese] at hf
  refine v_aload_n X dX5_giveCheese_0 0 rfl rfl 1 rfl ?_
  refine v_get X (C := RX5) (T := TX5) (N := 10) (ci := 7) (v := _) dX5_giveCheese_1 (lay_of layc_X5) 0 rfl rfl 3 (by decide) (mw wc_178) rfl rfl 4 rfl ?_
  refine v_iload_n X dX5_giveCheese_4 1 rfl rfl 5 rfl ?_
  refine v_iconst X dX5_giveCheese_5 ic_2 6 rfl ?_
  obtain ⟨o1, ho1, hf⟩ := bnd hf
  refine v_callUi X (ci := 8) (T := TX7) (C := RX7) (owner := "TicketGate$Table") (As := [.int v1, .int 2]) (rest := []) (ws' := (wX5 ad c9 s_time s_tolerance s_seed s_madeTickets s_cheesesOfText s_R_rows s_R_cells s_U_rows s_U_cells s_S_rows s_S_cells s_T_rows s_T_cells s_E_rows s_E_cells)) (c_X6_get l hG D c9 (fun k => ad ([7, 8].getD k 0)) 240 8 RX7 rfl layc_X7 24 10 s_T_rows s_T_cells v1 2 ho1) 2 (gU wc_229 wc_83 wc_84 wc_33 wc_34 wc_35) rfl rfl rfl rfl pd_X6_get_UX5_giveCheese_93 ⟨Nat.le_of_ble_eq_true rfl, Nat.le_of_ble_eq_true rfl⟩ 7 rfl rfl rfl rfl (Nat.le_of_ble_eq_true rfl) ⟨Nat.zero_le _, Nat.zero_le _⟩ [7, 8] [0, 1, 2, 3, 4, 5, 6, 9, 10] [0, 1, 2, 3, 4, 5, 6, 9, 10, 7, 8] rfl rfl rfl rfl dX5_giveCheese_6 9 rfl ?_
  refine v_istore_n X (lv' := [(2, .int o1), (0, .ref (ad 0)), (1, .int v1)]) dX5_giveCheese_9 rfl (by decide) rfl 10 rfl ?_
  refine v_aload_n X dX5_giveCheese_10 1 rfl rfl 11 rfl ?_
  refine v_get X (C := RX5) (T := TX5) (N := 10) (ci := 7) (v := _) dX5_giveCheese_11 (lay_of layc_X5) 0 rfl rfl 3 (by decide) (mw wc_178) rfl rfl 14 rfl ?_
  refine v_iload_n X dX5_giveCheese_14 2 rfl rfl 15 rfl ?_
  refine v_iconst X dX5_giveCheese_15 ic_4 16 rfl ?_
  obtain ⟨o2, ho2, hf⟩ := bnd hf
  refine v_callUi X (ci := 8) (T := TX7) (C := RX7) (owner := "TicketGate$Table") (As := [.int v1, .int 4]) (rest := []) (ws' := (wX5 ad c9 s_time s_tolerance s_seed s_madeTickets s_cheesesOfText s_R_rows s_R_cells s_U_rows s_U_cells s_S_rows s_S_cells s_T_rows s_T_cells s_E_rows s_E_cells)) (c_X6_get l hG D c9 (fun k => ad ([7, 8].getD k 0)) 240 8 RX7 rfl layc_X7 24 10 s_T_rows s_T_cells v1 4 ho2) 2 (gU wc_229 wc_83 wc_84 wc_33 wc_34 wc_35) rfl rfl rfl rfl pd_X6_get_UX5_giveCheese_93 ⟨Nat.le_of_ble_eq_true rfl, Nat.le_of_ble_eq_true rfl⟩ 7 rfl rfl rfl rfl (Nat.le_of_ble_eq_true rfl) ⟨Nat.zero_le _, Nat.zero_le _⟩ [7, 8] [0, 1, 2, 3, 4, 5, 6, 9, 10] [0, 1, 2, 3, 4, 5, 6, 9, 10, 7, 8] rfl rfl rfl rfl dX5_giveCheese_16 19 rfl ?_
  refine v_istore_n X (lv' := [(3, .int o2), (2, .int o1), (0, .ref (ad 0)), (1, .int v1)]) dX5_giveCheese_19 rfl (by decide) rfl 20 rfl ?_
  refine v_aload_n X dX5_giveCheese_20 2 rfl rfl 21 rfl ?_
  refine v_get X (C := RX5) (T := TX5) (N := 10) (ci := 7) (v := _) dX5_giveCheese_21 (lay_of layc_X5) 0 rfl rfl 1 (by decide) (mw wc_170) rfl rfl 24 rfl ?_
  refine v_iload_n X dX5_giveCheese_24 1 rfl rfl 25 rfl ?_
  refine v_iconst X dX5_giveCheese_25 ic_4 26 rfl ?_
  obtain ⟨o3, ho3, hf⟩ := bnd hf
  refine v_callUi X (ci := 9) (T := TX8) (C := RX8) (owner := "TicketGate$Table") (As := [.int o1, .int 4]) (rest := []) (ws' := (wX5 ad c9 s_time s_tolerance s_seed s_madeTickets s_cheesesOfText s_R_rows s_R_cells s_U_rows s_U_cells s_S_rows s_S_cells s_T_rows s_T_cells s_E_rows s_E_cells)) (c_X6_get l hG D c9 (fun k => ad ([3, 4].getD k 0)) 30 9 RX8 rfl layc_X8 6 5 s_U_rows s_U_cells o1 4 ho3) 2 (gU wc_222 wc_223 wc_224 wc_33 wc_34 wc_35) rfl rfl rfl rfl pd_X6_get_UX5_giveCheese_83 ⟨Nat.le_of_ble_eq_true rfl, Nat.le_of_ble_eq_true rfl⟩ 3 rfl rfl rfl rfl (Nat.le_of_ble_eq_true rfl) ⟨Nat.zero_le _, Nat.zero_le _⟩ [3, 4] [0, 1, 2, 5, 6, 7, 8, 9, 10] [0, 1, 2, 9, 10, 3, 4, 5, 6, 7, 8] rfl rfl rfl rfl dX5_giveCheese_26 29 rfl ?_
  refine v_iconst X dX5_giveCheese_29 ic_1 30 rfl ?_
  refine v_iadd X dX5_giveCheese_30 31 rfl ?_
  refine v_istore X (lv' := [(4, .int (o3 + 1)), (3, .int o2), (2, .int o1), (0, .ref (ad 0)), (1, .int v1)]) dX5_giveCheese_31 (by decide) rfl 33 rfl ?_
  refine v_aload_n X dX5_giveCheese_33 3 rfl rfl 34 rfl ?_
  refine v_get X (C := RX5) (T := TX5) (N := 10) (ci := 7) (v := _) dX5_giveCheese_34 (lay_of layc_X5) 0 rfl rfl 4 (by decide) (mw wc_182) rfl rfl 37 rfl ?_
  refine v_iload_n X dX5_giveCheese_37 2 rfl rfl 38 rfl ?_
  refine v_iload_n X dX5_giveCheese_38 1 rfl rfl 39 rfl ?_
  refine v_aload_n X dX5_giveCheese_39 3 rfl rfl 40 rfl ?_
  refine v_get X (C := RX5) (T := TX5) (N := 10) (ci := 7) (v := _) dX5_giveCheese_40 (lay_of layc_X5) 0 rfl rfl 5 (by decide) (mw wc_186) rfl rfl 43 rfl ?_
  refine v_aload_n X dX5_giveCheese_43 3 rfl rfl 44 rfl ?_
  refine v_get X (C := RX5) (T := TX5) (N := 10) (ci := 7) (v := _) dX5_giveCheese_44 (lay_of layc_X5) 0 rfl rfl 1 (by decide) (mw wc_170) rfl rfl 47 rfl ?_
  refine v_iload_n X dX5_giveCheese_47 2 rfl rfl 48 rfl ?_
  refine v_iconst X dX5_giveCheese_48 ic_3 49 rfl ?_
  obtain ⟨o4, ho4, hf⟩ := bnd hf
  refine v_callUi X (ci := 9) (T := TX8) (C := RX8) (owner := "TicketGate$Table") (As := [.int o1, .int 3]) (rest := [.int s_time, .int o2, .int o1, .ref (ad 9)]) (ws' := (wX5 ad c9 s_time s_tolerance s_seed s_madeTickets s_cheesesOfText s_R_rows s_R_cells s_U_rows s_U_cells s_S_rows s_S_cells s_T_rows s_T_cells s_E_rows s_E_cells)) (c_X6_get l hG D c9 (fun k => ad ([3, 4].getD k 0)) 30 9 RX8 rfl layc_X8 6 5 s_U_rows s_U_cells o1 3 ho4) 2 (gU wc_222 wc_223 wc_224 wc_33 wc_34 wc_35) rfl rfl rfl rfl pd_X6_get_UX5_giveCheese_83 ⟨Nat.le_of_ble_eq_true rfl, Nat.le_of_ble_eq_true rfl⟩ 3 rfl rfl rfl rfl (Nat.le_of_ble_eq_true rfl) ⟨Nat.zero_le _, Nat.zero_le _⟩ [3, 4] [0, 1, 2, 5, 6, 7, 8, 9, 10] [0, 1, 2, 9, 10, 3, 4, 5, 6, 7, 8] rfl rfl rfl rfl dX5_giveCheese_49 52 rfl ?_
  refine v_iadd X dX5_giveCheese_52 53 rfl ?_
  refine v_aload_n X dX5_giveCheese_53 3 rfl rfl 54 rfl ?_
  refine v_get X (C := RX5) (T := TX5) (N := 10) (ci := 7) (v := _) dX5_giveCheese_54 (lay_of layc_X5) 0 rfl rfl 5 (by decide) (mw wc_186) rfl rfl 57 rfl ?_
  obtain ⟨o5, ho5, hf⟩ := bnd hf
  refine v_callVv X (ci := 10) (T := TX9) (C := RX9) (As := [.int o1, .int o2, .int (s_time + o4), .int s_time]) (rest := []) (ws' := (wX5 ad c9 s_time s_tolerance s_seed s_madeTickets s_cheesesOfText s_R_rows s_R_cells s_U_rows s_U_cells s_S_rows s_S_cells s_T_rows s_T_cells o5.1 o5.2)) (c_X9_addUse l hG D c9 (fun k => ad ([9, 10].getD k 0)) s_E_rows s_E_cells o1 o2 (s_time + o4) s_time ho5) 4 (gV wc_287 wc_288 wc_289 wc_259 wc_290) rfl rfl rfl ⟨rfl, pd_X9_addUse⟩ ⟨Nat.le_of_ble_eq_true rfl, Nat.le_of_ble_eq_true rfl⟩ 9 rfl rfl rfl rfl (Nat.le_of_ble_eq_true rfl) ⟨Nat.zero_le _, Nat.zero_le _⟩ [9, 10] [0, 1, 2, 3, 4, 5, 6, 7, 8] [0, 1, 2, 3, 4, 5, 6, 7, 8, 9, 10] rfl rfl rfl rfl dX5_giveCheese_57 60 rfl ?_
  refine v_aload_n X dX5_giveCheese_60 3 rfl rfl 61 rfl ?_
  refine v_get X (C := RX5) (T := TX5) (N := 10) (ci := 7) (v := _) dX5_giveCheese_61 (lay_of layc_X5) 0 rfl rfl 2 (by decide) (mw wc_174) rfl rfl 64 rfl ?_
  refine v_iload_n X dX5_giveCheese_64 1 rfl rfl 65 rfl ?_
  refine v_iconst X dX5_giveCheese_65 ic_2 66 rfl ?_
  refine v_aload_n X dX5_giveCheese_66 3 rfl rfl 67 rfl ?_
  refine v_get X (C := RX5) (T := TX5) (N := 10) (ci := 7) (v := _) dX5_giveCheese_67 (lay_of layc_X5) 0 rfl rfl 2 (by decide) (mw wc_174) rfl rfl 70 rfl ?_
  refine v_iload_n X dX5_giveCheese_70 1 rfl rfl 71 rfl ?_
  refine v_iconst X dX5_giveCheese_71 ic_2 72 rfl ?_
  obtain ⟨o6, ho6, hf⟩ := bnd hf
  refine v_callUi X (ci := 5) (T := TX3) (C := RX3) (owner := "TicketGate$Table") (As := [.int o2, .int 2]) (rest := [.int 2, .int o2, .ref (ad 5)]) (ws' := (wX5 ad c9 s_time s_tolerance s_seed s_madeTickets s_cheesesOfText s_R_rows s_R_cells s_U_rows s_U_cells s_S_rows s_S_cells s_T_rows s_T_cells o5.1 o5.2)) (c_X6_get l hG D c9 (fun k => ad ([5, 6].getD k 0)) 18 5 RX3 rfl layc_X3 6 3 s_S_rows s_S_cells o2 2 ho6) 2 (gU wc_244 wc_245 wc_246 wc_33 wc_34 wc_35) rfl rfl rfl rfl pd_X6_get_UX5_giveCheese_112 ⟨Nat.le_of_ble_eq_true rfl, Nat.le_of_ble_eq_true rfl⟩ 5 rfl rfl rfl rfl (Nat.le_of_ble_eq_true rfl) ⟨Nat.zero_le _, Nat.zero_le _⟩ [5, 6] [0, 1, 2, 3, 4, 7, 8, 9, 10] [0, 1, 2, 3, 4, 9, 10, 5, 6, 7, 8] rfl rfl rfl rfl dX5_giveCheese_72 75 rfl ?_
  refine v_iconst X dX5_giveCheese_75 ic_1 76 rfl ?_
  refine v_isub X dX5_giveCheese_76 77 rfl ?_
  obtain ⟨o7, ho7, hf⟩ := bnd hf
  refine v_callUv X (ci := 5) (T := TX3) (C := RX3) (owner := "TicketGate$Table") (As := [.int o2, .int 2, .int (o6 - 1)]) (rest := []) (ws' := (wX5 ad c9 s_time s_tolerance s_seed s_madeTickets s_cheesesOfText s_R_rows s_R_cells s_U_rows s_U_cells s_S_rows o7 s_T_rows s_T_cells o5.1 o5.2)) (c_X6_set l hG D c9 (fun k => ad ([5, 6].getD k 0)) 18 5 RX3 rfl layc_X3 6 3 s_S_rows s_S_cells o2 2 (o6 - 1) ho7) 3 (gU wc_291 wc_76 wc_77 wc_53 wc_34 wc_54) rfl rfl rfl rfl pd_X6_set_UX5_giveCheese_148 ⟨Nat.le_of_ble_eq_true rfl, Nat.le_of_ble_eq_true rfl⟩ 5 rfl rfl rfl rfl (Nat.le_of_ble_eq_true rfl) ⟨Nat.zero_le _, Nat.zero_le _⟩ [5, 6] [0, 1, 2, 3, 4, 7, 8, 9, 10] [0, 1, 2, 3, 4, 9, 10, 5, 6, 7, 8] rfl rfl rfl rfl dX5_giveCheese_77 80 rfl ?_
  refine v_aload_n X dX5_giveCheese_80 3 rfl rfl 81 rfl ?_
  refine v_get X (C := RX5) (T := TX5) (N := 10) (ci := 7) (v := _) dX5_giveCheese_81 (lay_of layc_X5) 0 rfl rfl 1 (by decide) (mw wc_170) rfl rfl 84 rfl ?_
  refine v_iload_n X dX5_giveCheese_84 2 rfl rfl 85 rfl ?_
  refine v_iconst X dX5_giveCheese_85 ic_4 86 rfl ?_
  refine v_iload X dX5_giveCheese_86 0 rfl 88 rfl ?_
  obtain ⟨o8, ho8, hf⟩ := bnd hf
  refine v_callUv X (ci := 9) (T := TX8) (C := RX8) (owner := "TicketGate$Table") (As := [.int o1, .int 4, .int (o3 + 1)]) (rest := []) (ws' := (wX5 ad c9 s_time s_tolerance s_seed s_madeTickets s_cheesesOfText s_R_rows s_R_cells s_U_rows o8 s_S_rows o7 s_T_rows s_T_cells o5.1 o5.2)) (c_X6_set l hG D c9 (fun k => ad ([3, 4].getD k 0)) 30 9 RX8 rfl layc_X8 6 5 s_U_rows s_U_cells o1 4 (o3 + 1) ho8) 3 (gU wc_292 wc_106 wc_107 wc_53 wc_34 wc_54) rfl rfl rfl rfl pd_X6_set_UX5_giveCheese_149 ⟨Nat.le_of_ble_eq_true rfl, Nat.le_of_ble_eq_true rfl⟩ 3 rfl rfl rfl rfl (Nat.le_of_ble_eq_true rfl) ⟨Nat.zero_le _, Nat.zero_le _⟩ [3, 4] [0, 1, 2, 5, 6, 7, 8, 9, 10] [0, 1, 2, 9, 10, 3, 4, 5, 6, 7, 8] rfl rfl rfl rfl dX5_giveCheese_88 91 rfl ?_
  refine v_iload X dX5_giveCheese_91 0 rfl 93 rfl ?_
  obtain rfl := Option.some.inj hf
  exact v_iret X (Nat.zero_le _) (Nat.zero_le _) dX5_giveCheese_93
theorem pd_X5_giveCheese : yX5_giveCheese.cls ≠ "java/lang/invoke/MethodHandle" ∧ yX5_giveCheese.cls ≠ "java/lang/invoke/VarHandle" ∧ (parseMethodDescriptor yX5_giveCheese.desc).map (fun d => d.parameters.length) = some 1 := by decide +kernel
def f_X5_letPass (s_time : Int32) (s_tolerance : Int32) (s_E_rows : Int32) (s_E_cells : Nat → Int32) (v1 : Int32) : Option (Int32 × Int32 × (Nat → Int32)) :=
  (f_X9_forgetBefore s_E_rows s_E_cells ((s_time + v1) - s_tolerance)).bind fun o1 =>
  some ((s_time + v1), o1.1, o1.2)
set_option maxRecDepth 100000 in
set_option maxHeartbeats 4000000 in
theorem c_X5_letPass (l : Launch) {G : (Nat → Prop) → State → Heap → Prop} (hG : vG G) (D : va_G) (c9 : Nat → ClassId) (ad : Nat → Nat) (s_time : Int32) (s_tolerance : Int32) (s_seed : Int32) (s_madeTickets : Int32) (s_cheesesOfText : Int32) (s_R_rows : Int32) (s_R_cells : Nat → Int32) (s_U_rows : Int32) (s_U_cells : Nat → Int32) (s_S_rows : Int32) (s_S_cells : Nat → Int32) (s_T_rows : Int32) (s_T_cells : Nat → Int32) (s_E_rows : Int32) (s_E_cells : Nat → Int32) (v1 : Int32) {o : Int32 × Int32 × (Nat → Int32)} (hf : f_X5_letPass s_time s_tolerance s_E_rows s_E_cells v1 = some o) : mV l yX5_letPass (wq yX5_letPass cX5_letPass 2 none) { frames := 2, cells := 0, slots := 0, locals := 46 } G D (tyA c9) [.ref (ad 0), .int v1] (wX5 ad c9 s_time s_tolerance s_seed s_madeTickets s_cheesesOfText s_R_rows s_R_cells s_U_rows s_U_cells s_S_rows s_S_cells s_T_rows s_T_cells s_E_rows s_E_cells) [] 0 0 (wX5 ad c9 o.1 s_tolerance s_seed s_madeTickets s_cheesesOfText s_R_rows s_R_cells s_U_rows s_U_cells s_S_rows s_S_cells s_T_rows s_T_cells o.2.1 o.2.2) := by
  refine mV_of hG (cc := cX5_letPass) (maxL := 2) (by decide) rfl (Nat.le_of_ble_eq_true rfl) ?_
  intro p e s m args below meth c A hnm X
  have X : vX p s m args meth c cX5_letPass 2 none RX5 (wq yX5_letPass cX5_letPass 2 none) D (tyA c9) G A := X
  refine v_eq (lv2 := [(0, .ref (ad 0)), (1, .int v1)]) rfl rfl rfl rfl ?_
  rw [f_X5_letPass] at hf
  refine v_aload_n X dX5_letPass_0 0 rfl rfl 1 rfl ?_
  refine v_dup X dX5_letPass_1 rfl 2 rfl ?_
  refine v_get X (C := RX5) (T := TX5) (N := 10) (ci := 7) (v := _) dX5_letPass_2 (lay_of layc_X5) 0 rfl rfl 5 (by decide) (mw wc_186) rfl rfl 5 rfl ?_
  refine v_iload_n X dX5_letPass_5 1 rfl rfl 6 rfl ?_
  refine v_iadd X dX5_letPass_6 7 rfl ?_
  refine v_put X (C := RX5) (T := TX5) (N := 10) (ci := 7) (ty := tyX5 5) (ws' := (wX5 ad c9 (s_time + v1) s_tolerance s_seed s_madeTickets s_cheesesOfText s_R_rows s_R_cells s_U_rows s_U_cells s_S_rows s_S_cells s_T_rows s_T_cells s_E_rows s_E_cells)) dX5_letPass_7 (lay_of layc_X5) 0 rfl rfl 5 (by decide) tyX5 tyX5_ok nmX5 (mw wc_186) rfl rfl (tyX5_ok 5 (by decide)) rfl rfl (Nat.le_of_ble_eq_true rfl) rfl 10 rfl ?_
  refine v_aload_n X dX5_letPass_10 0 rfl rfl 11 rfl ?_
  refine v_get X (C := RX5) (T := TX5) (N := 10) (ci := 7) (v := _) dX5_letPass_11 (lay_of layc_X5) 0 rfl rfl 4 (by decide) (mw wc_182) rfl rfl 14 rfl ?_
  refine v_aload_n X dX5_letPass_14 0 rfl rfl 15 rfl ?_
  refine v_get X (C := RX5) (T := TX5) (N := 10) (ci := 7) (v := _) dX5_letPass_15 (lay_of layc_X5) 0 rfl rfl 5 (by decide) (mw wc_186) rfl rfl 18 rfl ?_
  refine v_aload_n X dX5_letPass_18 0 rfl rfl 19 rfl ?_
  refine v_get X (C := RX5) (T := TX5) (N := 10) (ci := 7) (v := _) dX5_letPass_19 (lay_of layc_X5) 0 rfl rfl 6 (by decide) (mw wc_187) rfl rfl 22 rfl ?_
  refine v_isub X dX5_letPass_22 23 rfl ?_
  obtain ⟨o1, ho1, hf⟩ := bnd hf
  refine v_callVv X (ci := 10) (T := TX9) (C := RX9) (As := [.int ((s_time + v1) - s_tolerance)]) (rest := []) (ws' := (wX5 ad c9 (s_time + v1) s_tolerance s_seed s_madeTickets s_cheesesOfText s_R_rows s_R_cells s_U_rows s_U_cells s_S_rows s_S_cells s_T_rows s_T_cells o1.1 o1.2)) (c_X9_forgetBefore l hG D c9 (fun k => ad ([9, 10].getD k 0)) s_E_rows s_E_cells ((s_time + v1) - s_tolerance) ho1) 1 (gV wc_293 wc_294 wc_295 wc_259 wc_296) rfl rfl rfl ⟨rfl, pd_X9_forgetBefore⟩ ⟨Nat.le_of_ble_eq_true rfl, Nat.le_of_ble_eq_true rfl⟩ 9 rfl rfl rfl rfl (Nat.le_of_ble_eq_true rfl) ⟨Nat.zero_le _, Nat.zero_le _⟩ [9, 10] [0, 1, 2, 3, 4, 5, 6, 7, 8] [0, 1, 2, 3, 4, 5, 6, 7, 8, 9, 10] rfl rfl rfl rfl dX5_letPass_23 26 rfl ?_
  obtain rfl := Option.some.inj hf
  exact v_vret X (Nat.zero_le _) (Nat.zero_le _) dX5_letPass_26
theorem pd_X5_letPass : yX5_letPass.cls ≠ "java/lang/invoke/MethodHandle" ∧ yX5_letPass.cls ≠ "java/lang/invoke/VarHandle" ∧ (parseMethodDescriptor yX5_letPass.desc).map (fun d => d.parameters.length) = some 1 := by decide +kernel
