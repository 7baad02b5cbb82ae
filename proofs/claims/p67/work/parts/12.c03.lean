theorem pd_X6_removeAll_UX5_begin_46 : "TicketGate$Table" ≠ "java/lang/invoke/MethodHandle" ∧ "TicketGate$Table" ≠ "java/lang/invoke/VarHandle" ∧ (parseMethodDescriptor "()V").map (fun d => d.parameters.length) = some 0 := by decide +kernel
theorem pd_X6_removeAll_UX5_begin_49 : "TicketGate$Table" ≠ "java/lang/invoke/MethodHandle" ∧ "TicketGate$Table" ≠ "java/lang/invoke/VarHandle" ∧ (parseMethodDescriptor "()V").map (fun d => d.parameters.length) = some 0 := by decide +kernel
theorem pd_X6_removeAll_UX5_begin_50 : "TicketGate$Table" ≠ "java/lang/invoke/MethodHandle" ∧ "TicketGate$Table" ≠ "java/lang/invoke/VarHandle" ∧ (parseMethodDescriptor "()V").map (fun d => d.parameters.length) = some 0 := by decide +kernel
theorem pd_X6_removeAll_UX5_begin_51 : "TicketGate$Table" ≠ "java/lang/invoke/MethodHandle" ∧ "TicketGate$Table" ≠ "java/lang/invoke/VarHandle" ∧ (parseMethodDescriptor "()V").map (fun d => d.parameters.length) = some 0 := by decide +kernel
theorem pd_X6_removeAll_UX5_begin_52 : "TicketGate$Table" ≠ "java/lang/invoke/MethodHandle" ∧ "TicketGate$Table" ≠ "java/lang/invoke/VarHandle" ∧ (parseMethodDescriptor "()V").map (fun d => d.parameters.length) = some 0 := by decide +kernel
def f_X5_begin (s_time : Int32) (s_tolerance : Int32) (s_seed : Int32) (s_madeTickets : Int32) (s_cheesesOfText : Int32) (s_R_rows : Int32) (s_U_rows : Int32) (s_S_rows : Int32) (s_T_rows : Int32) (s_E_rows : Int32) (v1 : Int32) (v2 : Int32) : Option (Int32 × Int32 × Int32 × Int32 × Int32 × Int32 × Int32 × Int32 × Int32 × Int32) :=
  (f_X6_removeAll 25 s_R_rows).bind fun o1 =>
  (f_X6_removeAll 30 s_U_rows).bind fun o2 =>
  (f_X6_removeAll 18 s_S_rows).bind fun o3 =>
  (f_X6_removeAll 240 s_T_rows).bind fun o4 =>
  (f_X6_removeAll 120 s_E_rows).bind fun o5 =>
  some (0, v1, v2, 0, 0, o1, o2, o3, o4, o5)
set_option maxRecDepth 100000 in
set_option maxHeartbeats 4000000 in
theorem c_X5_begin (l : Launch) {G : (Nat → Prop) → State → Heap → Prop} (hG : vG G) (D : va_G) (c9 : Nat → ClassId) (ad : Nat → Nat) (s_time : Int32) (s_tolerance : Int32) (s_seed : Int32) (s_madeTickets : Int32) (s_cheesesOfText : Int32) (s_R_rows : Int32) (s_R_cells : Nat → Int32) (s_U_rows : Int32) (s_U_cells : Nat → Int32) (s_S_rows : Int32) (s_S_cells : Nat → Int32) (s_T_rows : Int32) (s_T_cells : Nat → Int32) (s_E_rows : Int32) (s_E_cells : Nat → Int32) (v1 : Int32) (v2 : Int32) {o : Int32 × Int32 × Int32 × Int32 × Int32 × Int32 × Int32 × Int32 × Int32 × Int32} (hf : f_X5_begin s_time s_tolerance s_seed s_madeTickets s_cheesesOfText s_R_rows s_U_rows s_S_rows s_T_rows s_E_rows v1 v2 = some o) : mV l yX5_begin (wq yX5_begin cX5_begin 3 none) { frames := 1, cells := 0, slots := 0, locals := 20 } G D (tyA c9) [.ref (ad 0), .int v1, .int v2] (wX5 ad c9 s_time s_tolerance s_seed s_madeTickets s_cheesesOfText s_R_rows s_R_cells s_U_rows s_U_cells s_S_rows s_S_cells s_T_rows s_T_cells s_E_rows s_E_cells) [] 0 0 (wX5 ad c9 o.1 o.2.1 o.2.2.1 o.2.2.2.1 o.2.2.2.2.1 o.2.2.2.2.2.1 s_R_cells o.2.2.2.2.2.2.1 s_U_cells o.2.2.2.2.2.2.2.1 s_S_cells o.2.2.2.2.2.2.2.2.1 s_T_cells o.2.2.2.2.2.2.2.2.2 s_E_cells) := by
  refine mV_of hG (cc := cX5_begin) (maxL := 3) (by decide) rfl (Nat.le_of_ble_eq_true rfl) ?_
  intro p e s m args below meth c A hnm X
  have X : vX p s m args meth c cX5_begin 3 none RX5 (wq yX5_begin cX5_begin 3 none) D (tyA c9) G A := X
  refine v_eq (lv2 := [(0, .ref (ad 0)), (1, .int v1), (2, .int v2)]) rfl rfl rfl rfl ?_
  rw [f_X5_begin] at hf
  refine v_aload_n X dX5_begin_0 0 rfl rfl 1 rfl ?_
  refine v_get X (C := RX5) (T := TX5) (N := 10) (ci := 7) (v := _) dX5_begin_1 (lay_of layc_X5) 0 rfl rfl 0 (by decide) (mw wc_164) rfl rfl 4 rfl ?_
  obtain ⟨o1, ho1, hf⟩ := bnd hf
  refine v_callUv X (ci := 4) (T := TX2) (C := RX2) (owner := "TicketGate$Table") (As := []) (rest := []) (ws' := (wX5 ad c9 s_time s_tolerance s_seed s_madeTickets s_cheesesOfText o1 s_R_cells s_U_rows s_U_cells s_S_rows s_S_cells s_T_rows s_T_cells s_E_rows s_E_cells)) (c_X6_removeAll l hG D c9 (fun k => ad ([1, 2].getD k 0)) 25 4 RX2 rfl layc_X2 5 5 s_R_rows s_R_cells ho1) 0 (gU wc_165 wc_166 wc_167 wc_168 wc_34 wc_169) rfl rfl rfl rfl pd_X6_removeAll_UX5_begin_46 ⟨Nat.le_of_ble_eq_true rfl, Nat.le_of_ble_eq_true rfl⟩ 1 rfl rfl rfl rfl (Nat.le_of_ble_eq_true rfl) ⟨Nat.zero_le _, Nat.zero_le _⟩ [1, 2] [0, 3, 4, 5, 6, 7, 8, 9, 10] [0, 9, 10, 1, 2, 3, 4, 5, 6, 7, 8] rfl rfl rfl rfl dX5_begin_4 7 rfl ?_
  refine v_aload_n X dX5_begin_7 0 rfl rfl 8 rfl ?_
  refine v_get X (C := RX5) (T := TX5) (N := 10) (ci := 7) (v := _) dX5_begin_8 (lay_of layc_X5) 0 rfl rfl 1 (by decide) (mw wc_170) rfl rfl 11 rfl ?_
  obtain ⟨o2, ho2, hf⟩ := bnd hf
  refine v_callUv X (ci := 9) (T := TX8) (C := RX8) (owner := "TicketGate$Table") (As := []) (rest := []) (ws' := (wX5 ad c9 s_time s_tolerance s_seed s_madeTickets s_cheesesOfText o1 s_R_cells o2 s_U_cells s_S_rows s_S_cells s_T_rows s_T_cells s_E_rows s_E_cells)) (c_X6_removeAll l hG D c9 (fun k => ad ([3, 4].getD k 0)) 30 9 RX8 rfl layc_X8 6 5 s_U_rows s_U_cells ho2) 0 (gU wc_171 wc_172 wc_173 wc_168 wc_34 wc_169) rfl rfl rfl rfl pd_X6_removeAll_UX5_begin_49 ⟨Nat.le_of_ble_eq_true rfl, Nat.le_of_ble_eq_true rfl⟩ 3 rfl rfl rfl rfl (Nat.le_of_ble_eq_true rfl) ⟨Nat.zero_le _, Nat.zero_le _⟩ [3, 4] [0, 1, 2, 5, 6, 7, 8, 9, 10] [0, 1, 2, 9, 10, 3, 4, 5, 6, 7, 8] rfl rfl rfl rfl dX5_begin_11 14 rfl ?_
  refine v_aload_n X dX5_begin_14 0 rfl rfl 15 rfl ?_
  refine v_get X (C := RX5) (T := TX5) (N := 10) (ci := 7) (v := _) dX5_begin_15 (lay_of layc_X5) 0 rfl rfl 2 (by decide) (mw wc_174) rfl rfl 18 rfl ?_
  obtain ⟨o3, ho3, hf⟩ := bnd hf
  refine v_callUv X (ci := 5) (T := TX3) (C := RX3) (owner := "TicketGate$Table") (As := []) (rest := []) (ws' := (wX5 ad c9 s_time s_tolerance s_seed s_madeTickets s_cheesesOfText o1 s_R_cells o2 s_U_cells o3 s_S_cells s_T_rows s_T_cells s_E_rows s_E_cells)) (c_X6_removeAll l hG D c9 (fun k => ad ([5, 6].getD k 0)) 18 5 RX3 rfl layc_X3 6 3 s_S_rows s_S_cells ho3) 0 (gU wc_175 wc_176 wc_177 wc_168 wc_34 wc_169) rfl rfl rfl rfl pd_X6_removeAll_UX5_begin_50 ⟨Nat.le_of_ble_eq_true rfl, Nat.le_of_ble_eq_true rfl⟩ 5 rfl rfl rfl rfl (Nat.le_of_ble_eq_true rfl) ⟨Nat.zero_le _, Nat.zero_le _⟩ [5, 6] [0, 1, 2, 3, 4, 7, 8, 9, 10] [0, 1, 2, 3, 4, 9, 10, 5, 6, 7, 8] rfl rfl rfl rfl dX5_begin_18 21 rfl ?_
  refine v_aload_n X dX5_begin_21 0 rfl rfl 22 rfl ?_
  refine v_get X (C := RX5) (T := TX5) (N := 10) (ci := 7) (v := _) dX5_begin_22 (lay_of layc_X5) 0 rfl rfl 3 (by decide) (mw wc_178) rfl rfl 25 rfl ?_
  obtain ⟨o4, ho4, hf⟩ := bnd hf
  refine v_callUv X (ci := 8) (T := TX7) (C := RX7) (owner := "TicketGate$Table") (As := []) (rest := []) (ws' := (wX5 ad c9 s_time s_tolerance s_seed s_madeTickets s_cheesesOfText o1 s_R_cells o2 s_U_cells o3 s_S_cells o4 s_T_cells s_E_rows s_E_cells)) (c_X6_removeAll l hG D c9 (fun k => ad ([7, 8].getD k 0)) 240 8 RX7 rfl layc_X7 24 10 s_T_rows s_T_cells ho4) 0 (gU wc_179 wc_180 wc_181 wc_168 wc_34 wc_169) rfl rfl rfl rfl pd_X6_removeAll_UX5_begin_51 ⟨Nat.le_of_ble_eq_true rfl, Nat.le_of_ble_eq_true rfl⟩ 7 rfl rfl rfl rfl (Nat.le_of_ble_eq_true rfl) ⟨Nat.zero_le _, Nat.zero_le _⟩ [7, 8] [0, 1, 2, 3, 4, 5, 6, 9, 10] [0, 1, 2, 3, 4, 5, 6, 9, 10, 7, 8] rfl rfl rfl rfl dX5_begin_25 28 rfl ?_
  refine v_aload_n X dX5_begin_28 0 rfl rfl 29 rfl ?_
  refine v_get X (C := RX5) (T := TX5) (N := 10) (ci := 7) (v := _) dX5_begin_29 (lay_of layc_X5) 0 rfl rfl 4 (by decide) (mw wc_182) rfl rfl 32 rfl ?_
  obtain ⟨o5, ho5, hf⟩ := bnd hf
  refine v_callUv X (ci := 10) (T := TX9) (C := RX9) (owner := "TicketGate$Table") (As := []) (rest := []) (ws' := (wX5 ad c9 s_time s_tolerance s_seed s_madeTickets s_cheesesOfText o1 s_R_cells o2 s_U_cells o3 s_S_cells o4 s_T_cells o5 s_E_cells)) (c_X6_removeAll l hG D c9 (fun k => ad ([9, 10].getD k 0)) 120 10 RX9 rfl layc_X9 30 4 s_E_rows s_E_cells ho5) 0 (gU wc_183 wc_184 wc_185 wc_168 wc_34 wc_169) rfl rfl rfl rfl pd_X6_removeAll_UX5_begin_52 ⟨Nat.le_of_ble_eq_true rfl, Nat.le_of_ble_eq_true rfl⟩ 9 rfl rfl rfl rfl (Nat.le_of_ble_eq_true rfl) ⟨Nat.zero_le _, Nat.zero_le _⟩ [9, 10] [0, 1, 2, 3, 4, 5, 6, 7, 8] [0, 1, 2, 3, 4, 5, 6, 7, 8, 9, 10] rfl rfl rfl rfl dX5_begin_32 35 rfl ?_
  refine v_aload_n X dX5_begin_35 0 rfl rfl 36 rfl ?_
  refine v_iconst X dX5_begin_36 ic_0 37 rfl ?_
  refine v_put X (C := RX5) (T := TX5) (N := 10) (ci := 7) (ty := tyX5 5) (ws' := (wX5 ad c9 0 s_tolerance s_seed s_madeTickets s_cheesesOfText o1 s_R_cells o2 s_U_cells o3 s_S_cells o4 s_T_cells o5 s_E_cells)) dX5_begin_37 (lay_of layc_X5) 0 rfl rfl 5 (by decide) tyX5 tyX5_ok nmX5 (mw wc_186) rfl rfl (tyX5_ok 5 (by decide)) rfl rfl (Nat.le_of_ble_eq_true rfl) rfl 40 rfl ?_
  refine v_aload_n X dX5_begin_40 0 rfl rfl 41 rfl ?_
  refine v_iload_n X dX5_begin_41 1 rfl rfl 42 rfl ?_
  refine v_put X (C := RX5) (T := TX5) (N := 10) (ci := 7) (ty := tyX5 6) (ws' := (wX5 ad c9 0 v1 s_seed s_madeTickets s_cheesesOfText o1 s_R_cells o2 s_U_cells o3 s_S_cells o4 s_T_cells o5 s_E_cells)) dX5_begin_42 (lay_of layc_X5) 0 rfl rfl 6 (by decide) tyX5 tyX5_ok nmX5 (mw wc_187) rfl rfl (tyX5_ok 6 (by decide)) rfl rfl (Nat.le_of_ble_eq_true rfl) rfl 45 rfl ?_
  refine v_aload_n X dX5_begin_45 0 rfl rfl 46 rfl ?_
  refine v_iload_n X dX5_begin_46 2 rfl rfl 47 rfl ?_
  refine v_put X (C := RX5) (T := TX5) (N := 10) (ci := 7) (ty := tyX5 7) (ws' := (wX5 ad c9 0 v1 v2 s_madeTickets s_cheesesOfText o1 s_R_cells o2 s_U_cells o3 s_S_cells o4 s_T_cells o5 s_E_cells)) dX5_begin_47 (lay_of layc_X5) 0 rfl rfl 7 (by decide) tyX5 tyX5_ok nmX5 (mw wc_188) rfl rfl (tyX5_ok 7 (by decide)) rfl rfl (Nat.le_of_ble_eq_true rfl) rfl 50 rfl ?_
  refine v_aload_n X dX5_begin_50 0 rfl rfl 51 rfl ?_
  refine v_iconst X dX5_begin_51 ic_0 52 rfl ?_
  refine v_put X (C := RX5) (T := TX5) (N := 10) (ci := 7) (ty := tyX5 8) (ws' := (wX5 ad c9 0 v1 v2 0 s_cheesesOfText o1 s_R_cells o2 s_U_cells o3 s_S_cells o4 s_T_cells o5 s_E_cells)) dX5_begin_52 (lay_of layc_X5) 0 rfl rfl 8 (by decide) tyX5 tyX5_ok nmX5 (mw wc_189) rfl rfl (tyX5_ok 8 (by decide)) rfl rfl (Nat.le_of_ble_eq_true rfl) rfl 55 rfl ?_
  refine v_aload_n X dX5_begin_55 0 rfl rfl 56 rfl ?_
  refine v_iconst X dX5_begin_56 ic_0 57 rfl ?_
  refine v_put X (C := RX5) (T := TX5) (N := 10) (ci := 7) (ty := tyX5 9) (ws' := (wX5 ad c9 0 v1 v2 0 0 o1 s_R_cells o2 s_U_cells o3 s_S_cells o4 s_T_cells o5 s_E_cells)) dX5_begin_57 (lay_of layc_X5) 0 rfl rfl 9 (by decide) tyX5 tyX5_ok nmX5 (mw wc_190) rfl rfl (tyX5_ok 9 (by decide)) rfl rfl (Nat.le_of_ble_eq_true rfl) rfl 60 rfl ?_
  obtain rfl := Option.some.inj hf
  exact v_vret X (Nat.zero_le _) (Nat.zero_le _) dX5_begin_60
theorem pd_X5_begin : yX5_begin.cls ≠ "java/lang/invoke/MethodHandle" ∧ yX5_begin.cls ≠ "java/lang/invoke/VarHandle" ∧ (parseMethodDescriptor yX5_begin.desc).map (fun d => d.parameters.length) = some 2 := by decide +kernel
theorem pd_X6_copyFrom_UX5_copyFrom_69 : "TicketGate$Table" ≠ "java/lang/invoke/MethodHandle" ∧ "TicketGate$Table" ≠ "java/lang/invoke/VarHandle" ∧ (parseMethodDescriptor "(LTicketGate$Table;)V").map (fun d => d.parameters.length) = some 1 := by decide +kernel
theorem pd_X6_copyFrom_UX5_copyFrom_73 : "TicketGate$Table" ≠ "java/lang/invoke/MethodHandle" ∧ "TicketGate$Table" ≠ "java/lang/invoke/VarHandle" ∧ (parseMethodDescriptor "(LTicketGate$Table;)V").map (fun d => d.parameters.length) = some 1 := by decide +kernel
theorem pd_X6_copyFrom_UX5_copyFrom_74 : "TicketGate$Table" ≠ "java/lang/invoke/MethodHandle" ∧ "TicketGate$Table" ≠ "java/lang/invoke/VarHandle" ∧ (parseMethodDescriptor "(LTicketGate$Table;)V").map (fun d => d.parameters.length) = some 1 := by decide +kernel
theorem pd_X6_copyFrom_UX5_copyFrom_75 : "TicketGate$Table" ≠ "java/lang/invoke/MethodHandle" ∧ "TicketGate$Table" ≠ "java/lang/invoke/VarHandle" ∧ (parseMethodDescriptor "(LTicketGate$Table;)V").map (fun d => d.parameters.length) = some 1 := by decide +kernel
theorem pd_X6_copyFrom_UX5_copyFrom_76 : "TicketGate$Table" ≠ "java/lang/invoke/MethodHandle" ∧ "TicketGate$Table" ≠ "java/lang/invoke/VarHandle" ∧ (parseMethodDescriptor "(LTicketGate$Table;)V").map (fun d => d.parameters.length) = some 1 := by decide +kernel
def f_X5_copyFrom (s_time : Int32) (s_tolerance : Int32) (s_seed : Int32) (s_madeTickets : Int32) (s_cheesesOfText : Int32) (s_R_rows : Int32) (s_R_cells : Nat → Int32) (s_U_rows : Int32) (s_U_cells : Nat → Int32) (s_S_rows : Int32) (s_S_cells : Nat → Int32) (s_T_rows : Int32) (s_T_cells : Nat → Int32) (s_E_rows : Int32) (s_E_cells : Nat → Int32) (zs_time : Int32) (zs_tolerance : Int32) (zs_seed : Int32) (zs_madeTickets : Int32) (zs_cheesesOfText : Int32) (zs_R_rows : Int32) (zs_R_cells : Nat → Int32) (zs_U_rows : Int32) (zs_U_cells : Nat → Int32) (zs_S_rows : Int32) (zs_S_cells : Nat → Int32) (zs_T_rows : Int32) (zs_T_cells : Nat → Int32) (zs_E_rows : Int32) (zs_E_cells : Nat → Int32) : Option (Int32 × Int32 × Int32 × Int32 × Int32 × Int32 × (Nat → Int32) × Int32 × (Nat → Int32) × Int32 × (Nat → Int32) × Int32 × (Nat → Int32) × Int32 × (Nat → Int32)) :=
  (f_X6_copyFrom 25 25 s_R_rows s_R_cells zs_R_rows zs_R_cells).bind fun o1 =>
  (f_X6_copyFrom 30 30 s_U_rows s_U_cells zs_U_rows zs_U_cells).bind fun o2 =>
  (f_X6_copyFrom 18 18 s_S_rows s_S_cells zs_S_rows zs_S_cells).bind fun o3 =>
  (f_X6_copyFrom 240 240 s_T_rows s_T_cells zs_T_rows zs_T_cells).bind fun o4 =>
  (f_X6_copyFrom 120 120 s_E_rows s_E_cells zs_E_rows zs_E_cells).bind fun o5 =>
  some (zs_time, zs_tolerance, zs_seed, zs_madeTickets, zs_cheesesOfText, o1.1, o1.2, o2.1, o2.2, o3.1, o3.2, o4.1, o4.2, o5.1, o5.2)
set_option maxRecDepth 100000 in
set_option maxHeartbeats 4000000 in
theorem c_X5_copyFrom (l : Launch) {G : (Nat → Prop) → State → Heap → Prop} (hG : vG G) (D : va_G) (c9 : Nat → ClassId) (ad : Nat → Nat) (ad1 : Nat → Nat) (s_time : Int32) (s_tolerance : Int32) (s_seed : Int32) (s_madeTickets : Int32) (s_cheesesOfText : Int32) (s_R_rows : Int32) (s_R_cells : Nat → Int32) (s_U_rows : Int32) (s_U_cells : Nat → Int32) (s_S_rows : Int32) (s_S_cells : Nat → Int32) (s_T_rows : Int32) (s_T_cells : Nat → Int32) (s_E_rows : Int32) (s_E_cells : Nat → Int32) (zs_time : Int32) (zs_tolerance : Int32) (zs_seed : Int32) (zs_madeTickets : Int32) (zs_cheesesOfText : Int32) (zs_R_rows : Int32) (zs_R_cells : Nat → Int32) (zs_U_rows : Int32) (zs_U_cells : Nat → Int32) (zs_S_rows : Int32) (zs_S_cells : Nat → Int32) (zs_T_rows : Int32) (zs_T_cells : Nat → Int32) (zs_E_rows : Int32) (zs_E_cells : Nat → Int32)  {o : Int32 × Int32 × Int32 × Int32 × Int32 × Int32 × (Nat → Int32) × Int32 × (Nat → Int32) × Int32 × (Nat → Int32) × Int32 × (Nat → Int32) × Int32 × (Nat → Int32)} (hf : f_X5_copyFrom s_time s_tolerance s_seed s_madeTickets s_cheesesOfText s_R_rows s_R_cells s_U_rows s_U_cells s_S_rows s_S_cells s_T_rows s_T_cells s_E_rows s_E_cells zs_time zs_tolerance zs_seed zs_madeTickets zs_cheesesOfText zs_R_rows zs_R_cells zs_U_rows zs_U_cells zs_S_rows zs_S_cells zs_T_rows zs_T_cells zs_E_rows zs_E_cells = some o) : mV l yX5_copyFrom (wq yX5_copyFrom cX5_copyFrom 2 none) { frames := 2, cells := 0, slots := 0, locals := 62 } G D (tyA c9) [.ref (ad 0), .ref (ad1 0)] ((wX5 ad c9 s_time s_tolerance s_seed s_madeTickets s_cheesesOfText s_R_rows s_R_cells s_U_rows s_U_cells s_S_rows s_S_cells s_T_rows s_T_cells s_E_rows s_E_cells) ++ (wX5 ad1 c9 zs_time zs_tolerance zs_seed zs_madeTickets zs_cheesesOfText zs_R_rows zs_R_cells zs_U_rows zs_U_cells zs_S_rows zs_S_cells zs_T_rows zs_T_cells zs_E_rows zs_E_cells)) [] 0 0 ((wX5 ad c9 o.1 o.2.1 o.2.2.1 o.2.2.2.1 o.2.2.2.2.1 o.2.2.2.2.2.1 o.2.2.2.2.2.2.1 o.2.2.2.2.2.2.2.1 o.2.2.2.2.2.2.2.2.1 o.2.2.2.2.2.2.2.2.2.1 o.2.2.2.2.2.2.2.2.2.2.1 o.2.2.2.2.2.2.2.2.2.2.2.1 o.2.2.2.2.2.2.2.2.2.2.2.2.1 o.2.2.2.2.2.2.2.2.2.2.2.2.2.1 o.2.2.2.2.2.2.2.2.2.2.2.2.2.2) ++ (wX5 ad1 c9 zs_time zs_tolerance zs_seed zs_madeTickets zs_cheesesOfText zs_R_rows zs_R_cells zs_U_rows zs_U_cells zs_S_rows zs_S_cells zs_T_rows zs_T_cells zs_E_rows zs_E_cells)) := by
  refine mV_of hG (cc := cX5_copyFrom) (maxL := 2) (by decide) rfl (Nat.le_of_ble_eq_true rfl) ?_
  intro p e s m args below meth c A hnm X
  have X : vX p s m args meth c cX5_copyFrom 2 none RX5 (wq yX5_copyFrom cX5_copyFrom 2 none) D (tyA c9) G A := X
  refine v_eq (lv2 := [(0, .ref (ad 0)), (1, .ref (ad1 0))]) rfl rfl rfl rfl ?_
  rw [f_X5_copyFrom] at hf
  refine v_aload_n X dX5_copyFrom_0 0 rfl rfl 1 rfl ?_
  refine v_get X (C := RX5) (T := TX5) (N := 10) (ci := 7) (v := _) dX5_copyFrom_1 (lay_of layc_X5) 0 rfl rfl 0 (by decide) (mw wc_164) rfl rfl 4 rfl ?_
  refine v_aload_n X dX5_copyFrom_4 1 rfl rfl 5 rfl ?_
  refine v_get X (C := RX5) (T := TX5) (N := 10) (ci := 7) (v := _) dX5_copyFrom_5 (lay_of layc_X5) 11 rfl rfl 0 (by decide) (mw wc_164) rfl rfl 8 rfl ?_
  obtain ⟨o1, ho1, hf⟩ := bnd hf
  refine v_callUv X (ci := 4) (T := TX2) (C := RX2) (owner := "TicketGate$Table") (As := [.ref (ad1 1)]) (rest := []) (ws' := ((wX5 ad c9 s_time s_tolerance s_seed s_madeTickets s_cheesesOfText o1.1 o1.2 s_U_rows s_U_cells s_S_rows s_S_cells s_T_rows s_T_cells s_E_rows s_E_cells) ++ (wX5 ad1 c9 zs_time zs_tolerance zs_seed zs_madeTickets zs_cheesesOfText zs_R_rows zs_R_cells zs_U_rows zs_U_cells zs_S_rows zs_S_cells zs_T_rows zs_T_cells zs_E_rows zs_E_cells))) (c_X6_copyFrom l hG D c9 (fun k => ad ([1, 2].getD k 0)) (fun k => ad1 ([1, 2].getD k 0)) 25 25 4 RX2 rfl layc_X2 5 5 s_R_rows s_R_cells 5 5 zs_R_rows zs_R_cells ho1) 1 (gU wc_191 wc_192 wc_193 wc_194 wc_34 wc_195) rfl rfl rfl rfl pd_X6_copyFrom_UX5_copyFrom_69 ⟨Nat.le_of_ble_eq_true rfl, Nat.le_of_ble_eq_true rfl⟩ 1 rfl rfl rfl rfl (Nat.le_of_ble_eq_true rfl) ⟨Nat.zero_le _, Nat.zero_le _⟩ [1, 2, 12, 13] [0, 3, 4, 5, 6, 7, 8, 9, 10, 11, 14, 15, 16, 17, 18, 19, 20, 21] [0, 18, 19, 1, 2, 3, 4, 5, 6, 7, 8, 9, 20, 21, 10, 11, 12, 13, 14, 15, 16, 17] rfl rfl rfl rfl dX5_copyFrom_8 11 rfl ?_
  refine v_aload_n X dX5_copyFrom_11 0 rfl rfl 12 rfl ?_
  refine v_get X (C := RX5) (T := TX5) (N := 10) (ci := 7) (v := _) dX5_copyFrom_12 (lay_of layc_X5) 0 rfl rfl 1 (by decide) (mw wc_170) rfl rfl 15 rfl ?_
  refine v_aload_n X dX5_copyFrom_15 1 rfl rfl 16 rfl ?_
  refine v_get X (C := RX5) (T := TX5) (N := 10) (ci := 7) (v := _) dX5_copyFrom_16 (lay_of layc_X5) 11 rfl rfl 1 (by decide) (mw wc_170) rfl rfl 19 rfl ?_
  obtain ⟨o2, ho2, hf⟩ := bnd hf
  refine v_callUv X (ci := 9) (T := TX8) (C := RX8) (owner := "TicketGate$Table") (As := [.ref (ad1 3)]) (rest := []) (ws' := ((wX5 ad c9 s_time s_tolerance s_seed s_madeTickets s_cheesesOfText o1.1 o1.2 o2.1 o2.2 s_S_rows s_S_cells s_T_rows s_T_cells s_E_rows s_E_cells) ++ (wX5 ad1 c9 zs_time zs_tolerance zs_seed zs_madeTickets zs_cheesesOfText zs_R_rows zs_R_cells zs_U_rows zs_U_cells zs_S_rows zs_S_cells zs_T_rows zs_T_cells zs_E_rows zs_E_cells))) (c_X6_copyFrom l hG D c9 (fun k => ad ([3, 4].getD k 0)) (fun k => ad1 ([3, 4].getD k 0)) 30 30 9 RX8 rfl layc_X8 6 5 s_U_rows s_U_cells 6 5 zs_U_rows zs_U_cells ho2) 1 (gU wc_196 wc_197 wc_198 wc_194 wc_34 wc_195) rfl rfl rfl rfl pd_X6_copyFrom_UX5_copyFrom_73 ⟨Nat.le_of_ble_eq_true rfl, Nat.le_of_ble_eq_true rfl⟩ 3 rfl rfl rfl rfl (Nat.le_of_ble_eq_true rfl) ⟨Nat.zero_le _, Nat.zero_le _⟩ [3, 4, 14, 15] [0, 1, 2, 5, 6, 7, 8, 9, 10, 11, 12, 13, 16, 17, 18, 19, 20, 21] [0, 1, 2, 18, 19, 3, 4, 5, 6, 7, 8, 9, 10, 11, 20, 21, 12, 13, 14, 15, 16, 17] rfl rfl rfl rfl dX5_copyFrom_19 22 rfl ?_
  refine v_aload_n X dX5_copyFrom_22 0 rfl rfl 23 rfl ?_
  refine v_get X (C := RX5) (T := TX5) (N := 10) (ci := 7) (v := _) dX5_copyFrom_23 (lay_of layc_X5) 0 rfl rfl 2 (by decide) (mw wc_174) rfl rfl 26 rfl ?_
  refine v_aload_n X dX5_copyFrom_26 1 rfl rfl 27 rfl ?_
  refine v_get X (C := RX5) (T := TX5) (N := 10) (ci := 7) (v := _) dX5_copyFrom_27 (lay_of layc_X5) 11 rfl rfl 2 (by decide) (mw wc_174) rfl rfl 30 rfl ?_
  obtain ⟨o3, ho3, hf⟩ := bnd hf
  refine v_callUv X (ci := 5) (T := TX3) (C := RX3) (owner := "TicketGate$Table") (As := [.ref (ad1 5)]) (rest := []) (ws' := ((wX5 ad c9 s_time s_tolerance s_seed s_madeTickets s_cheesesOfText o1.1 o1.2 o2.1 o2.2 o3.1 o3.2 s_T_rows s_T_cells s_E_rows s_E_cells) ++ (wX5 ad1 c9 zs_time zs_tolerance zs_seed zs_madeTickets zs_cheesesOfText zs_R_rows zs_R_cells zs_U_rows zs_U_cells zs_S_rows zs_S_cells zs_T_rows zs_T_cells zs_E_rows zs_E_cells))) (c_X6_copyFrom l hG D c9 (fun k => ad ([5, 6].getD k 0)) (fun k => ad1 ([5, 6].getD k 0)) 18 18 5 RX3 rfl layc_X3 6 3 s_S_rows s_S_cells 6 3 zs_S_rows zs_S_cells ho3) 1 (gU wc_199 wc_200 wc_201 wc_194 wc_34 wc_195) rfl rfl rfl rfl pd_X6_copyFrom_UX5_copyFrom_74 ⟨Nat.le_of_ble_eq_true rfl, Nat.le_of_ble_eq_true rfl⟩ 5 rfl rfl rfl rfl (Nat.le_of_ble_eq_true rfl) ⟨Nat.zero_le _, Nat.zero_le _⟩ [5, 6, 16, 17] [0, 1, 2, 3, 4, 7, 8, 9, 10, 11, 12, 13, 14, 15, 18, 19, 20, 21] [0, 1, 2, 3, 4, 18, 19, 5, 6, 7, 8, 9, 10, 11, 12, 13, 20, 21, 14, 15, 16, 17] rfl rfl rfl rfl dX5_copyFrom_30 33 rfl ?_
  refine v_aload_n X dX5_copyFrom_33 0 rfl rfl 34 rfl ?_
  refine v_get X (C := RX5) (T := TX5) (N := 10) (ci := 7) (v := _) dX5_copyFrom_34 (lay_of layc_X5) 0 rfl rfl 3 (by decide) (mw wc_178) rfl rfl 37 rfl ?_
  refine v_aload_n X dX5_copyFrom_37 1 rfl rfl 38 rfl ?_
  refine v_get X (C := RX5) (T := TX5) (N := 10) (ci := 7) (v := _) dX5_copyFrom_38 (lay_of layc_X5) 11 rfl rfl 3 (by decide) (mw wc_178) rfl rfl 41 rfl ?_
  obtain ⟨o4, ho4, hf⟩ := bnd hf
  refine v_callUv X (ci := 8) (T := TX7) (C := RX7) (owner := "TicketGate$Table") (As := [.ref (ad1 7)]) (rest := []) (ws' := ((wX5 ad c9 s_time s_tolerance s_seed s_madeTickets s_cheesesOfText o1.1 o1.2 o2.1 o2.2 o3.1 o3.2 o4.1 o4.2 s_E_rows s_E_cells) ++ (wX5 ad1 c9 zs_time zs_tolerance zs_seed zs_madeTickets zs_cheesesOfText zs_R_rows zs_R_cells zs_U_rows zs_U_cells zs_S_rows zs_S_cells zs_T_rows zs_T_cells zs_E_rows zs_E_cells))) (c_X6_copyFrom l hG D c9 (fun k => ad ([7, 8].getD k 0)) (fun k => ad1 ([7, 8].getD k 0)) 240 240 8 RX7 rfl layc_X7 24 10 s_T_rows s_T_cells 24 10 zs_T_rows zs_T_cells ho4) 1 (gU wc_202 wc_203 wc_204 wc_194 wc_34 wc_195) rfl rfl rfl rfl pd_X6_copyFrom_UX5_copyFrom_75 ⟨Nat.le_of_ble_eq_true rfl, Nat.le_of_ble_eq_true rfl⟩ 7 rfl rfl rfl rfl (Nat.le_of_ble_eq_true rfl) ⟨Nat.zero_le _, Nat.zero_le _⟩ [7, 8, 18, 19] [0, 1, 2, 3, 4, 5, 6, 9, 10, 11, 12, 13, 14, 15, 16, 17, 20, 21] [0, 1, 2, 3, 4, 5, 6, 18, 19, 7, 8, 9, 10, 11, 12, 13, 14, 15, 20, 21, 16, 17] rfl rfl rfl rfl dX5_copyFrom_41 44 rfl ?_
  refine v_aload_n X dX5_copyFrom_44 0 rfl rfl 45 rfl ?_
  refine v_get X (C := RX5) (T := TX5) (N := 10) (ci := 7) (v := _) dX5_copyFrom_45 (lay_of layc_X5) 0 rfl rfl 4 (by decide) (mw wc_182) rfl rfl 48 rfl ?_
  refine v_aload_n X dX5_copyFrom_48 1 rfl rfl 49 rfl ?_
  refine v_get X (C := RX5) (T := TX5) (N := 10) (ci := 7) (v := _) dX5_copyFrom_49 (lay_of layc_X5) 11 rfl rfl 4 (by decide) (mw wc_182) rfl rfl 52 rfl ?_
  obtain ⟨o5, ho5, hf⟩ := bnd hf
  refine v_callUv X (ci := 10) (T := TX9) (C := RX9) (owner := "TicketGate$Table") (As := [.ref (ad1 9)]) (rest := []) (ws' := ((wX5 ad c9 s_time s_tolerance s_seed s_madeTickets s_cheesesOfText o1.1 o1.2 o2.1 o2.2 o3.1 o3.2 o4.1 o4.2 o5.1 o5.2) ++ (wX5 ad1 c9 zs_time zs_tolerance zs_seed zs_madeTickets zs_cheesesOfText zs_R_rows zs_R_cells zs_U_rows zs_U_cells zs_S_rows zs_S_cells zs_T_rows zs_T_cells zs_E_rows zs_E_cells))) (c_X6_copyFrom l hG D c9 (fun k => ad ([9, 10].getD k 0)) (fun k => ad1 ([9, 10].getD k 0)) 120 120 10 RX9 rfl layc_X9 30 4 s_E_rows s_E_cells 30 4 zs_E_rows zs_E_cells ho5) 1 (gU wc_205 wc_206 wc_207 wc_194 wc_34 wc_195) rfl rfl rfl rfl pd_X6_copyFrom_UX5_copyFrom_76 ⟨Nat.le_of_ble_eq_true rfl, Nat.le_of_ble_eq_true rfl⟩ 9 rfl rfl rfl rfl (Nat.le_of_ble_eq_true rfl) ⟨Nat.zero_le _, Nat.zero_le _⟩ [9, 10, 20, 21] [0, 1, 2, 3, 4, 5, 6, 7, 8, 11, 12, 13, 14, 15, 16, 17, 18, 19] [0, 1, 2, 3, 4, 5, 6, 7, 8, 18, 19, 9, 10, 11, 12, 13, 14, 15, 16, 17, 20, 21] rfl rfl rfl rfl dX5_copyFrom_52 55 rfl ?_
  refine v_aload_n X dX5_copyFrom_55 0 rfl rfl 56 rfl ?_
  refine v_aload_n X dX5_copyFrom_56 1 rfl rfl 57 rfl ?_
  refine v_get X (C := RX5) (T := TX5) (N := 10) (ci := 7) (v := _) dX5_copyFrom_57 (lay_of layc_X5) 11 rfl rfl 5 (by decide) (mw wc_186) rfl rfl 60 rfl ?_
  refine v_put X (C := RX5) (T := TX5) (N := 10) (ci := 7) (ty := tyX5 5) (ws' := ((wX5 ad c9 zs_time s_tolerance s_seed s_madeTickets s_cheesesOfText o1.1 o1.2 o2.1 o2.2 o3.1 o3.2 o4.1 o4.2 o5.1 o5.2) ++ (wX5 ad1 c9 zs_time zs_tolerance zs_seed zs_madeTickets zs_cheesesOfText zs_R_rows zs_R_cells zs_U_rows zs_U_cells zs_S_rows zs_S_cells zs_T_rows zs_T_cells zs_E_rows zs_E_cells))) dX5_copyFrom_60 (lay_of layc_X5) 0 rfl rfl 5 (by decide) tyX5 tyX5_ok nmX5 (mw wc_186) rfl rfl (tyX5_ok 5 (by decide)) rfl rfl (Nat.le_of_ble_eq_true rfl) rfl 63 rfl ?_
  refine v_aload_n X dX5_copyFrom_63 0 rfl rfl 64 rfl ?_
  refine v_aload_n X dX5_copyFrom_64 1 rfl rfl 65 rfl ?_
  refine v_get X (C := RX5) (T := TX5) (N := 10) (ci := 7) (v := _) dX5_copyFrom_65 (lay_of layc_X5) 11 rfl rfl 6 (by decide) (mw wc_187) rfl rfl 68 rfl ?_
  refine v_put X (C := RX5) (T := TX5) (N := 10) (ci := 7) (ty := tyX5 6) (ws' := ((wX5 ad c9 zs_time zs_tolerance s_seed s_madeTickets s_cheesesOfText o1.1 o1.2 o2.1 o2.2 o3.1 o3.2 o4.1 o4.2 o5.1 o5.2) ++ (wX5 ad1 c9 zs_time zs_tolerance zs_seed zs_madeTickets zs_cheesesOfText zs_R_rows zs_R_cells zs_U_rows zs_U_cells zs_S_rows zs_S_cells zs_T_rows zs_T_cells zs_E_rows zs_E_cells))) dX5_copyFrom_68 (lay_of layc_X5) 0 rfl rfl 6 (by decide) tyX5 tyX5_ok nmX5 (mw wc_187) rfl rfl (tyX5_ok 6 (by decide)) rfl rfl (Nat.le_of_ble_eq_true rfl) rfl 71 rfl ?_
  refine v_aload_n X dX5_copyFrom_71 0 rfl rfl 72 rfl ?_
  refine v_aload_n X dX5_copyFrom_72 1 rfl rfl 73 rfl ?_
  refine v_get X (C := RX5) (T := TX5) (N := 10) (ci := 7) (v := _) dX5_copyFrom_73 (lay_of layc_X5) 11 rfl rfl 7 (by decide) (mw wc_188) rfl rfl 76 rfl ?_
  refine v_put X (C := RX5) (T := TX5) (N := 10) (ci := 7) (ty := tyX5 7) (ws' := ((wX5 ad c9 zs_time zs_tolerance zs_seed s_madeTickets s_cheesesOfText o1.1 o1.2 o2.1 o2.2 o3.1 o3.2 o4.1 o4.2 o5.1 o5.2) ++ (wX5 ad1 c9 zs_time zs_tolerance zs_seed zs_madeTickets zs_cheesesOfText zs_R_rows zs_R_cells zs_U_rows zs_U_cells zs_S_rows zs_S_cells zs_T_rows zs_T_cells zs_E_rows zs_E_cells))) dX5_copyFrom_76 (lay_of layc_X5) 0 rfl rfl 7 (by decide) tyX5 tyX5_ok nmX5 (mw wc_188) rfl rfl (tyX5_ok 7 (by decide)) rfl rfl (Nat.le_of_ble_eq_true rfl) rfl 79 rfl ?_
  refine v_aload_n X dX5_copyFrom_79 0 rfl rfl 80 rfl ?_
  refine v_aload_n X dX5_copyFrom_80 1 rfl rfl 81 rfl ?_
  refine v_get X (C := RX5) (T := TX5) (N := 10) (ci := 7) (v := _) dX5_copyFrom_81 (lay_of layc_X5) 11 rfl rfl 8 (by decide) (mw wc_189) rfl rfl 84 rfl ?_
  refine v_put X (C := RX5) (T := TX5) (N := 10) (ci := 7) (ty := tyX5 8) (ws' := ((wX5 ad c9 zs_time zs_tolerance zs_seed zs_madeTickets s_cheesesOfText o1.1 o1.2 o2.1 o2.2 o3.1 o3.2 o4.1 o4.2 o5.1 o5.2) ++ (wX5 ad1 c9 zs_time zs_tolerance zs_seed zs_madeTickets zs_cheesesOfText zs_R_rows zs_R_cells zs_U_rows zs_U_cells zs_S_rows zs_S_cells zs_T_rows zs_T_cells zs_E_rows zs_E_cells))) dX5_copyFrom_84 (lay_of layc_X5) 0 rfl rfl 8 (by decide) tyX5 tyX5_ok nmX5 (mw wc_189) rfl rfl (tyX5_ok 8 (by decide)) rfl rfl (Nat.le_of_ble_eq_true rfl) rfl 87 rfl ?_
  refine v_aload_n X dX5_copyFrom_87 0 rfl rfl 88 rfl ?_
  refine v_aload_n X dX5_copyFrom_88 1 rfl rfl 89 rfl ?_
  refine v_get X (C := RX5) (T := TX5) (N := 10) (ci := 7) (v := _) dX5_copyFrom_89 (lay_of layc_X5) 11 rfl rfl 9 (by decide) (mw wc_190) rfl rfl 92 rfl ?_
  refine v_put X (C := RX5) (T := TX5) (N := 10) (ci := 7) (ty := tyX5 9) (ws' := ((wX5 ad c9 zs_time zs_tolerance zs_seed zs_madeTickets zs_cheesesOfText o1.1 o1.2 o2.1 o2.2 o3.1 o3.2 o4.1 o4.2 o5.1 o5.2) ++ (wX5 ad1 c9 zs_time zs_tolerance zs_seed zs_madeTickets zs_cheesesOfText zs_R_rows zs_R_cells zs_U_rows zs_U_cells zs_S_rows zs_S_cells zs_T_rows zs_T_cells zs_E_rows zs_E_cells))) dX5_copyFrom_92 (lay_of layc_X5) 0 rfl rfl 9 (by decide) tyX5 tyX5_ok nmX5 (mw wc_190) rfl rfl (tyX5_ok 9 (by decide)) rfl rfl (Nat.le_of_ble_eq_true rfl) rfl 95 rfl ?_
  obtain rfl := Option.some.inj hf
  exact v_vret X (Nat.zero_le _) (Nat.zero_le _) dX5_copyFrom_95
theorem pd_X5_copyFrom : yX5_copyFrom.cls ≠ "java/lang/invoke/MethodHandle" ∧ yX5_copyFrom.cls ≠ "java/lang/invoke/VarHandle" ∧ (parseMethodDescriptor yX5_copyFrom.desc).map (fun d => d.parameters.length) = some 1 := by decide +kernel
theorem pd_X6_rowWith_UX5_codeOfName_77 : "TicketGate$Table" ≠ "java/lang/invoke/MethodHandle" ∧ "TicketGate$Table" ≠ "java/lang/invoke/VarHandle" ∧ (parseMethodDescriptor "(II)I").map (fun d => d.parameters.length) = some 2 := by decide +kernel
theorem pd_X6_rowWith_UX5_codeOfName_81 : "TicketGate$Table" ≠ "java/lang/invoke/MethodHandle" ∧ "TicketGate$Table" ≠ "java/lang/invoke/VarHandle" ∧ (parseMethodDescriptor "(II)I").map (fun d => d.parameters.length) = some 2 := by decide +kernel
theorem pd_X6_rowWith_UX5_codeOfName_82 : "TicketGate$Table" ≠ "java/lang/invoke/MethodHandle" ∧ "TicketGate$Table" ≠ "java/lang/invoke/VarHandle" ∧ (parseMethodDescriptor "(II)I").map (fun d => d.parameters.length) = some 2 := by decide +kernel
def f_X5_codeOfName (s_R_rows : Int32) (s_R_cells : Nat → Int32) (s_U_rows : Int32) (s_U_cells : Nat → Int32) (s_S_rows : Int32) (s_S_cells : Nat → Int32) (v1 : Int32) : Option (Int32) :=
  (f_X6_rowWith 25 5 s_R_rows s_R_cells 0 v1).bind fun o1 =>
  (f_X6_rowWith 30 5 s_U_rows s_U_cells 0 v1).bind fun o2 =>
  (f_X6_rowWith 18 3 s_S_rows s_S_cells 0 v1).bind fun o3 =>
  if o1 = (-1) then (
    if o2 = (-1) then (
      if o3 = (-1) then (
        some ((-1)))
      else (
        some ((200 + o3))))
    else (
      some ((100 + o2))))
  else (
    some (o1))
set_option maxRecDepth 100000 in
set_option maxHeartbeats 4000000 in
theorem c_X5_codeOfName (l : Launch) {G : (Nat → Prop) → State → Heap → Prop} (hG : vG G) (D : va_G) (c9 : Nat → ClassId) (ad : Nat → Nat) (s_time : Int32) (s_tolerance : Int32) (s_seed : Int32) (s_madeTickets : Int32) (s_cheesesOfText : Int32) (s_R_rows : Int32) (s_R_cells : Nat → Int32) (s_U_rows : Int32) (s_U_cells : Nat → Int32) (s_S_rows : Int32) (s_S_cells : Nat → Int32) (s_T_rows : Int32) (s_T_cells : Nat → Int32) (s_E_rows : Int32) (s_E_cells : Nat → Int32) (v1 : Int32) {o : Int32} (hf : f_X5_codeOfName s_R_rows s_R_cells s_U_rows s_U_cells s_S_rows s_S_cells v1 = some o) : mI l yX5_codeOfName (wq yX5_codeOfName cX5_codeOfName 5 (some .int)) { frames := 2, cells := 0, slots := 0, locals := 47 } G D (tyA c9) [.ref (ad 0), .int v1] (wX5 ad c9 s_time s_tolerance s_seed s_madeTickets s_cheesesOfText s_R_rows s_R_cells s_U_rows s_U_cells s_S_rows s_S_cells s_T_rows s_T_cells s_E_rows s_E_cells) [] 0 0 o (wX5 ad c9 s_time s_tolerance s_seed s_madeTickets s_cheesesOfText s_R_rows s_R_cells s_U_rows s_U_cells s_S_rows s_S_cells s_T_rows s_T_cells s_E_rows s_E_cells) := by
  refine mI_of hG (cc := cX5_codeOfName) (maxL := 5) (ty := .int) (by decide) rfl (Nat.le_of_ble_eq_true rfl) ?_
  intro p e s m args below meth c A X
  have X : vX p s m args meth c cX5_codeOfName 5 (some .int) RX5 (wq yX5_codeOfName cX5_codeOfName 5 (some .int)) D (tyA c9) G A := X
  refine v_eq (lv2 := [(0, .ref (ad 0)), (1, .int v1)]) rfl rfl rfl rfl ?_
  rw [f_X5_codeOfName] at hf
  refine v_aload_n X dX5_codeOfName_0 0 rfl rfl 1 rfl ?_
  refine v_get X (C := RX5) (T := TX5) (N := 10) (ci := 7) (v := _) dX5_codeOfName_1 (lay_of layc_X5) 0 rfl rfl 0 (by decide) (mw wc_164) rfl rfl 4 rfl ?_
  refine v_iconst X dX5_codeOfName_4 ic_0 5 rfl ?_
  refine v_iload_n X dX5_codeOfName_5 1 rfl rfl 6 rfl ?_
  obtain ⟨o1, ho1, hf⟩ := bnd hf
  refine v_callUi X (ci := 4) (T := TX2) (C := RX2) (owner := "TicketGate$Table") (As := [.int 0, .int v1]) (rest := []) (ws' := (wX5 ad c9 s_time s_tolerance s_seed s_madeTickets s_cheesesOfText s_R_rows s_R_cells s_U_rows s_U_cells s_S_rows s_S_cells s_T_rows s_T_cells s_E_rows s_E_cells)) (c_X6_rowWith l hG D c9 (fun k => ad ([1, 2].getD k 0)) 25 4 RX2 rfl layc_X2 wc_208 5 5 s_R_rows s_R_cells 0 v1 ho1) 2 (gU wc_209 wc_210 wc_211 wc_212 wc_34 wc_213) rfl rfl rfl rfl pd_X6_rowWith_UX5_codeOfName_77 ⟨Nat.le_of_ble_eq_true rfl, Nat.le_of_ble_eq_true rfl⟩ 1 rfl rfl rfl rfl (Nat.le_of_ble_eq_true rfl) ⟨Nat.zero_le _, Nat.zero_le _⟩ [1, 2] [0, 3, 4, 5, 6, 7, 8, 9, 10] [0, 9, 10, 1, 2, 3, 4, 5, 6, 7, 8] rfl rfl rfl rfl dX5_codeOfName_6 9 rfl ?_
  refine v_istore_n X (lv' := [(2, .int o1), (0, .ref (ad 0)), (1, .int v1)]) dX5_codeOfName_9 rfl (by decide) rfl 10 rfl ?_
  refine v_aload_n X dX5_codeOfName_10 1 rfl rfl 11 rfl ?_
  refine v_get X (C := RX5) (T := TX5) (N := 10) (ci := 7) (v := _) dX5_codeOfName_11 (lay_of layc_X5) 0 rfl rfl 1 (by decide) (mw wc_170) rfl rfl 14 rfl ?_
  refine v_iconst X dX5_codeOfName_14 ic_0 15 rfl ?_
  refine v_iload_n X dX5_codeOfName_15 2 rfl rfl 16 rfl ?_
  obtain ⟨o2, ho2, hf⟩ := bnd hf
  refine v_callUi X (ci := 9) (T := TX8) (C := RX8) (owner := "TicketGate$Table") (As := [.int 0, .int v1]) (rest := []) (ws' := (wX5 ad c9 s_time s_tolerance s_seed s_madeTickets s_cheesesOfText s_R_rows s_R_cells s_U_rows s_U_cells s_S_rows s_S_cells s_T_rows s_T_cells s_E_rows s_E_cells)) (c_X6_rowWith l hG D c9 (fun k => ad ([3, 4].getD k 0)) 30 9 RX8 rfl layc_X8 wc_214 6 5 s_U_rows s_U_cells 0 v1 ho2) 2 (gU wc_215 wc_216 wc_217 wc_212 wc_34 wc_213) rfl rfl rfl rfl pd_X6_rowWith_UX5_codeOfName_81 ⟨Nat.le_of_ble_eq_true rfl, Nat.le_of_ble_eq_true rfl⟩ 3 rfl rfl rfl rfl (Nat.le_of_ble_eq_true rfl) ⟨Nat.zero_le _, Nat.zero_le _⟩ [3, 4] [0, 1, 2, 5, 6, 7, 8, 9, 10] [0, 1, 2, 9, 10, 3, 4, 5, 6, 7, 8] rfl rfl rfl rfl dX5_codeOfName_16 19 rfl ?_
  refine v_istore_n X (lv' := [(3, .int o2), (2, .int o1), (0, .ref (ad 0)), (1, .int v1)]) dX5_codeOfName_19 rfl (by decide) rfl 20 rfl ?_
  refine v_aload_n X dX5_codeOfName_20 2 rfl rfl 21 rfl ?_
  refine v_get X (C := RX5) (T := TX5) (N := 10) (ci := 7) (v := _) dX5_codeOfName_21 (lay_of layc_X5) 0 rfl rfl 2 (by decide) (mw wc_174) rfl rfl 24 rfl ?_
  refine v_iconst X dX5_codeOfName_24 ic_0 25 rfl ?_
  refine v_iload_n X dX5_codeOfName_25 3 rfl rfl 26 rfl ?_
  obtain ⟨o3, ho3, hf⟩ := bnd hf
  refine v_callUi X (ci := 5) (T := TX3) (C := RX3) (owner := "TicketGate$Table") (As := [.int 0, .int v1]) (rest := []) (ws' := (wX5 ad c9 s_time s_tolerance s_seed s_madeTickets s_cheesesOfText s_R_rows s_R_cells s_U_rows s_U_cells s_S_rows s_S_cells s_T_rows s_T_cells s_E_rows s_E_cells)) (c_X6_rowWith l hG D c9 (fun k => ad ([5, 6].getD k 0)) 18 5 RX3 rfl layc_X3 wc_218 6 3 s_S_rows s_S_cells 0 v1 ho3) 2 (gU wc_219 wc_220 wc_221 wc_212 wc_34 wc_213) rfl rfl rfl rfl pd_X6_rowWith_UX5_codeOfName_82 ⟨Nat.le_of_ble_eq_true rfl, Nat.le_of_ble_eq_true rfl⟩ 5 rfl rfl rfl rfl (Nat.le_of_ble_eq_true rfl) ⟨Nat.zero_le _, Nat.zero_le _⟩ [5, 6] [0, 1, 2, 3, 4, 7, 8, 9, 10] [0, 1, 2, 3, 4, 9, 10, 5, 6, 7, 8] rfl rfl rfl rfl dX5_codeOfName_26 29 rfl ?_
  refine v_istore X (lv' := [(4, .int o3), (3, .int o2), (2, .int o1), (0, .ref (ad 0)), (1, .int v1)]) dX5_codeOfName_29 (by decide) rfl 31 rfl ?_
  refine v_iload_n X dX5_codeOfName_31 2 rfl rfl 32 rfl ?_
  refine v_iconst X dX5_codeOfName_32 ic_m1 33 rfl ?_
  refine v_icmp_eq X (tgt := 38) dX5_codeOfName_33 rfl 36 rfl hf (fun hf => ?_) (fun hf => ?_)
  · refine v_iload_n X dX5_codeOfName_38 1 rfl rfl 39 rfl ?_
    refine v_iconst X dX5_codeOfName_39 ic_m1 40 rfl ?_
    refine v_icmp_eq X (tgt := 48) dX5_codeOfName_40 rfl 43 rfl hf (fun hf => ?_) (fun hf => ?_)
    · refine v_iload X dX5_codeOfName_48 0 rfl 50 rfl ?_
      refine v_iconst X dX5_codeOfName_50 ic_m1 51 rfl ?_
      refine v_icmp_ne X (tgt := 58) dX5_codeOfName_51 rfl 54 rfl hf (fun hf => ?_) (fun hf => ?_)
      · refine v_sipush X dX5_codeOfName_58 sp_200 61 rfl ?_
        refine v_iload X dX5_codeOfName_61 0 rfl 63 rfl ?_
        refine v_iadd X dX5_codeOfName_63 64 rfl ?_
        obtain rfl := Option.some.inj hf
        exact v_iret X (Nat.zero_le _) (Nat.zero_le _) dX5_codeOfName_64
      · refine v_iconst X dX5_codeOfName_54 ic_m1 55 rfl ?_
        refine v_goto X (tgt := 64) dX5_codeOfName_55 rfl ?_
        obtain rfl := Option.some.inj hf
        exact v_iret X (Nat.zero_le _) (Nat.zero_le _) dX5_codeOfName_64
    · refine v_bipush X dX5_codeOfName_43 bp_100 45 rfl ?_
      refine v_iload_n X dX5_codeOfName_45 1 rfl rfl 46 rfl ?_
      refine v_iadd X dX5_codeOfName_46 47 rfl ?_
      obtain rfl := Option.some.inj hf
      exact v_iret X (Nat.zero_le _) (Nat.zero_le _) dX5_codeOfName_47
  · refine v_iload_n X dX5_codeOfName_36 2 rfl rfl 37 rfl ?_
    obtain rfl := Option.some.inj hf
    exact v_iret X (Nat.zero_le _) (Nat.zero_le _) dX5_codeOfName_37
theorem pd_X5_codeOfName : yX5_codeOfName.cls ≠ "java/lang/invoke/MethodHandle" ∧ yX5_codeOfName.cls ≠ "java/lang/invoke/VarHandle" ∧ (parseMethodDescriptor yX5_codeOfName.desc).map (fun d => d.parameters.length) = some 1 := by decide +kernel
theorem pd_X6_get_UX5_skewOf_83 : "TicketGate$Table" ≠ "java/lang/invoke/MethodHandle" ∧ "TicketGate$Table" ≠ "java/lang/invoke/VarHandle" ∧ (parseMethodDescriptor "(II)I").map (fun d => d.parameters.length) = some 2 := by decide +kernel
theorem pd_X6_get_UX5_skewOf_86 : "TicketGate$Table" ≠ "java/lang/invoke/MethodHandle" ∧ "TicketGate$Table" ≠ "java/lang/invoke/VarHandle" ∧ (parseMethodDescriptor "(II)I").map (fun d => d.parameters.length) = some 2 := by decide +kernel
def f_X5_skewOf (s_R_rows : Int32) (s_R_cells : Nat → Int32) (s_U_rows : Int32) (s_U_cells : Nat → Int32) (v1 : Int32) (v2 : Int32) : Option (Int32) :=
  (f_X6_get 30 5 s_U_rows s_U_cells v1 3).bind fun o1 =>
  (f_X6_get 25 5 s_R_rows s_R_cells v2 3).bind fun o2 =>
  some ((iabs (o1 - o2)))
set_option maxRecDepth 100000 in
set_option maxHeartbeats 4000000 in
theorem c_X5_skewOf (l : Launch) {G : (Nat → Prop) → State → Heap → Prop} (hG : vG G) (D : va_G) (c9 : Nat → ClassId) (ad : Nat → Nat) (s_time : Int32) (s_tolerance : Int32) (s_seed : Int32) (s_madeTickets : Int32) (s_cheesesOfText : Int32) (s_R_rows : Int32) (s_R_cells : Nat → Int32) (s_U_rows : Int32) (s_U_cells : Nat → Int32) (s_S_rows : Int32) (s_S_cells : Nat → Int32) (s_T_rows : Int32) (s_T_cells : Nat → Int32) (s_E_rows : Int32) (s_E_cells : Nat → Int32) (v1 : Int32) (v2 : Int32) {o : Int32} (hf : f_X5_skewOf s_R_rows s_R_cells s_U_rows s_U_cells v1 v2 = some o) : mI l yX5_skewOf (wq yX5_skewOf cX5_skewOf 3 (some .int)) { frames := 1, cells := 0, slots := 0, locals := 40 } G D (tyA c9) [.ref (ad 0), .int v1, .int v2] (wX5 ad c9 s_time s_tolerance s_seed s_madeTickets s_cheesesOfText s_R_rows s_R_cells s_U_rows s_U_cells s_S_rows s_S_cells s_T_rows s_T_cells s_E_rows s_E_cells) [] 0 0 o (wX5 ad c9 s_time s_tolerance s_seed s_madeTickets s_cheesesOfText s_R_rows s_R_cells s_U_rows s_U_cells s_S_rows s_S_cells s_T_rows s_T_cells s_E_rows s_E_cells) := by
  refine mI_of hG (cc := cX5_skewOf) (maxL := 3) (ty := .int) (by decide) rfl (Nat.le_of_ble_eq_true rfl) ?_
  intro p e s m args below meth c A X
  have X : vX p s m args meth c cX5_skewOf 3 (some .int) RX5 (wq yX5_skewOf cX5_skewOf 3 (some .int)) D (tyA c9) G A := X
  refine v_eq (lv2 := [(0, .ref (ad 0)), (1, .int v1), (2, .int v2)]) rfl rfl rfl rfl ?_
  rw [f_X5_skewOf] at hf
  refine v_aload_n X dX5_skewOf_0 0 rfl rfl 1 rfl ?_
  refine v_get X (C := RX5) (T := TX5) (N := 10) (ci := 7) (v := _) dX5_skewOf_1 (lay_of layc_X5) 0 rfl rfl 1 (by decide) (mw wc_170) rfl rfl 4 rfl ?_
  refine v_iload_n X dX5_skewOf_4 1 rfl rfl 5 rfl ?_
  refine v_iconst X dX5_skewOf_5 ic_3 6 rfl ?_
  obtain ⟨o1, ho1, hf⟩ := bnd hf
  refine v_callUi X (ci := 9) (T := TX8) (C := RX8) (owner := "TicketGate$Table") (As := [.int v1, .int 3]) (rest := []) (ws' := (wX5 ad c9 s_time s_tolerance s_seed s_madeTickets s_cheesesOfText s_R_rows s_R_cells s_U_rows s_U_cells s_S_rows s_S_cells s_T_rows s_T_cells s_E_rows s_E_cells)) (c_X6_get l hG D c9 (fun k => ad ([3, 4].getD k 0)) 30 9 RX8 rfl layc_X8 6 5 s_U_rows s_U_cells v1 3 ho1) 2 (gU wc_222 wc_223 wc_224 wc_33 wc_34 wc_35) rfl rfl rfl rfl pd_X6_get_UX5_skewOf_83 ⟨Nat.le_of_ble_eq_true rfl, Nat.le_of_ble_eq_true rfl⟩ 3 rfl rfl rfl rfl (Nat.le_of_ble_eq_true rfl) ⟨Nat.zero_le _, Nat.zero_le _⟩ [3, 4] [0, 1, 2, 5, 6, 7, 8, 9, 10] [0, 1, 2, 9, 10, 3, 4, 5, 6, 7, 8] rfl rfl rfl rfl dX5_skewOf_6 9 rfl ?_
  refine v_aload_n X dX5_skewOf_9 0 rfl rfl 10 rfl ?_
  refine v_get X (C := RX5) (T := TX5) (N := 10) (ci := 7) (v := _) dX5_skewOf_10 (lay_of layc_X5) 0 rfl rfl 0 (by decide) (mw wc_164) rfl rfl 13 rfl ?_
  refine v_iload_n X dX5_skewOf_13 2 rfl rfl 14 rfl ?_
  refine v_iconst X dX5_skewOf_14 ic_3 15 rfl ?_
  obtain ⟨o2, ho2, hf⟩ := bnd hf
  refine v_callUi X (ci := 4) (T := TX2) (C := RX2) (owner := "TicketGate$Table") (As := [.int v2, .int 3]) (rest := [.int o1]) (ws' := (wX5 ad c9 s_time s_tolerance s_seed s_madeTickets s_cheesesOfText s_R_rows s_R_cells s_U_rows s_U_cells s_S_rows s_S_cells s_T_rows s_T_cells s_E_rows s_E_cells)) (c_X6_get l hG D c9 (fun k => ad ([1, 2].getD k 0)) 25 4 RX2 rfl layc_X2 5 5 s_R_rows s_R_cells v2 3 ho2) 2 (gU wc_225 wc_56 wc_57 wc_33 wc_34 wc_35) rfl rfl rfl rfl pd_X6_get_UX5_skewOf_86 ⟨Nat.le_of_ble_eq_true rfl, Nat.le_of_ble_eq_true rfl⟩ 1 rfl rfl rfl rfl (Nat.le_of_ble_eq_true rfl) ⟨Nat.zero_le _, Nat.zero_le _⟩ [1, 2] [0, 3, 4, 5, 6, 7, 8, 9, 10] [0, 9, 10, 1, 2, 3, 4, 5, 6, 7, 8] rfl rfl rfl rfl dX5_skewOf_15 18 rfl ?_
  refine v_isub X dX5_skewOf_18 19 rfl ?_
  refine v_mabs X dX5_skewOf_19 (mw wc_226) (mw wc_227) (mw wc_25) (mw wc_228) (Nat.le_of_ble_eq_true rfl) (Nat.le_of_ble_eq_true rfl) (Nat.zero_le _) (Nat.zero_le _) 22 rfl ?_
  obtain rfl := Option.some.inj hf
  exact v_iret X (Nat.zero_le _) (Nat.zero_le _) dX5_skewOf_22
theorem pd_X5_skewOf : yX5_skewOf.cls ≠ "java/lang/invoke/MethodHandle" ∧ yX5_skewOf.cls ≠ "java/lang/invoke/VarHandle" ∧ (parseMethodDescriptor yX5_skewOf.desc).map (fun d => d.parameters.length) = some 2 := by decide +kernel
theorem pd_X6_get_UX5_isSkewed_93 : "TicketGate$Table" ≠ "java/lang/invoke/MethodHandle" ∧ "TicketGate$Table" ≠ "java/lang/invoke/VarHandle" ∧ (parseMethodDescriptor "(II)I").map (fun d => d.parameters.length) = some 2 := by decide +kernel
def f_X5_isSkewed (s_tolerance : Int32) (s_R_rows : Int32) (s_R_cells : Nat → Int32) (s_U_rows : Int32) (s_U_cells : Nat → Int32) (s_T_rows : Int32) (s_T_cells : Nat → Int32) (v1 : Int32) : Option (Int32) :=
  (f_X6_get 240 10 s_T_rows s_T_cells v1 2).bind fun o1 =>
  (f_X6_get 240 10 s_T_rows s_T_cells v1 3).bind fun o2 =>
  (f_X5_skewOf s_R_rows s_R_cells s_U_rows s_U_cells o1 o2).bind fun o3 =>
  if o3 ≤ s_tolerance then (
    some (0))
  else (
    some (1))
set_option maxRecDepth 100000 in
set_option maxHeartbeats 4000000 in
theorem c_X5_isSkewed (l : Launch) {G : (Nat → Prop) → State → Heap → Prop} (hG : vG G) (D : va_G) (c9 : Nat → ClassId) (ad : Nat → Nat) (s_time : Int32) (s_tolerance : Int32) (s_seed : Int32) (s_madeTickets : Int32) (s_cheesesOfText : Int32) (s_R_rows : Int32) (s_R_cells : Nat → Int32) (s_U_rows : Int32) (s_U_cells : Nat → Int32) (s_S_rows : Int32) (s_S_cells : Nat → Int32) (s_T_rows : Int32) (s_T_cells : Nat → Int32) (s_E_rows : Int32) (s_E_cells : Nat → Int32) (v1 : Int32) {o : Int32} (hf : f_X5_isSkewed s_tolerance s_R_rows s_R_cells s_U_rows s_U_cells s_T_rows s_T_cells v1 = some o) : mI l yX5_isSkewed (wq yX5_isSkewed cX5_isSkewed 3 (some .boolean)) { frames := 2, cells := 0, slots := 0, locals := 62 } G D (tyA c9) [.ref (ad 0), .int v1] (wX5 ad c9 s_time s_tolerance s_seed s_madeTickets s_cheesesOfText s_R_rows s_R_cells s_U_rows s_U_cells s_S_rows s_S_cells s_T_rows s_T_cells s_E_rows s_E_cells) [] 0 0 o (wX5 ad c9 s_time s_tolerance s_seed s_madeTickets s_cheesesOfText s_R_rows s_R_cells s_U_rows s_U_cells s_S_rows s_S_cells s_T_rows s_T_cells s_E_rows s_E_cells) := by
  refine mI_of hG (cc := cX5_isSkewed) (maxL := 3) (ty := .boolean) (by decide) rfl (Nat.le_of_ble_eq_true rfl) ?_
  intro p e s m args below meth c A X
  have X : vX p s m args meth c cX5_isSkewed 3 (some .boolean) RX5 (wq yX5_isSkewed cX5_isSkewed 3 (some .boolean)) D (tyA c9) G A := X
  refine v_eq (lv2 := [(0, .ref (ad 0)), (1, .int v1)]) rfl rfl rfl rfl ?_
  rw [f_X5_isSkewed] at hf
  refine v_aload_n X dX5_isSkewed_0 0 rfl rfl 1 rfl ?_
  refine v_get X (C := RX5) (T := TX5) (N := 10) (ci := 7) (v := _) dX5_isSkewed_1 (lay_of layc_X5) 0 rfl rfl 3 (by decide) (mw wc_178) rfl rfl 4 rfl ?_
  refine v_iload_n X dX5_isSkewed_4 1 rfl rfl 5 rfl ?_
  refine v_iconst X dX5_isSkewed_5 ic_2 6 rfl ?_
  obtain ⟨o1, ho1, hf⟩ := bnd hf
  refine v_callUi X (ci := 8) (T := TX7) (C := RX7) (owner := "TicketGate$Table") (As := [.int v1, .int 2]) (rest := []) (ws' := (wX5 ad c9 s_time s_tolerance s_seed s_madeTickets s_cheesesOfText s_R_rows s_R_cells s_U_rows s_U_cells s_S_rows s_S_cells s_T_rows s_T_cells s_E_rows s_E_cells)) (c_X6_get l hG D c9 (fun k => ad ([7, 8].getD k 0)) 240 8 RX7 rfl layc_X7 24 10 s_T_rows s_T_cells v1 2 ho1) 2 (gU wc_229 wc_83 wc_84 wc_33 wc_34 wc_35) rfl rfl rfl rfl pd_X6_get_UX5_isSkewed_93 ⟨Nat.le_of_ble_eq_true rfl, Nat.le_of_ble_eq_true rfl⟩ 7 rfl rfl rfl rfl (Nat.le_of_ble_eq_true rfl) ⟨Nat.zero_le _, Nat.zero_le _⟩ [7, 8] [0, 1, 2, 3, 4, 5, 6, 9, 10] [0, 1, 2, 3, 4, 5, 6, 9, 10, 7, 8] rfl rfl rfl rfl dX5_isSkewed_6 9 rfl ?_
  refine v_istore_n X (lv' := [(2, .int o1), (0, .ref (ad 0)), (1, .int v1)]) dX5_isSkewed_9 rfl (by decide) rfl 10 rfl ?_
  refine v_aload_n X dX5_isSkewed_10 1 rfl rfl 11 rfl ?_
  refine v_iload_n X dX5_isSkewed_11 0 rfl rfl 12 rfl ?_
  refine v_aload_n X dX5_isSkewed_12 1 rfl rfl 13 rfl ?_
  refine v_get X (C := RX5) (T := TX5) (N := 10) (ci := 7) (v := _) dX5_isSkewed_13 (lay_of layc_X5) 0 rfl rfl 3 (by decide) (mw wc_178) rfl rfl 16 rfl ?_
  refine v_iload_n X dX5_isSkewed_16 2 rfl rfl 17 rfl ?_
  refine v_iconst X dX5_isSkewed_17 ic_3 18 rfl ?_
  obtain ⟨o2, ho2, hf⟩ := bnd hf
  refine v_callUi X (ci := 8) (T := TX7) (C := RX7) (owner := "TicketGate$Table") (As := [.int v1, .int 3]) (rest := [.int o1, .ref (ad 0)]) (ws' := (wX5 ad c9 s_time s_tolerance s_seed s_madeTickets s_cheesesOfText s_R_rows s_R_cells s_U_rows s_U_cells s_S_rows s_S_cells s_T_rows s_T_cells s_E_rows s_E_cells)) (c_X6_get l hG D c9 (fun k => ad ([7, 8].getD k 0)) 240 8 RX7 rfl layc_X7 24 10 s_T_rows s_T_cells v1 3 ho2) 2 (gU wc_229 wc_83 wc_84 wc_33 wc_34 wc_35) rfl rfl rfl rfl pd_X6_get_UX5_isSkewed_93 ⟨Nat.le_of_ble_eq_true rfl, Nat.le_of_ble_eq_true rfl⟩ 7 rfl rfl rfl rfl (Nat.le_of_ble_eq_true rfl) ⟨Nat.zero_le _, Nat.zero_le _⟩ [7, 8] [0, 1, 2, 3, 4, 5, 6, 9, 10] [0, 1, 2, 3, 4, 5, 6, 9, 10, 7, 8] rfl rfl rfl rfl dX5_isSkewed_18 21 rfl ?_
  obtain ⟨o3, ho3, hf⟩ := bnd hf
  refine v_callVi X (ci := 7) (T := TX5) (C := RX5) (As := [.int o1, .int o2]) (rest := []) (ws' := (wX5 ad c9 s_time s_tolerance s_seed s_madeTickets s_cheesesOfText s_R_rows s_R_cells s_U_rows s_U_cells s_S_rows s_S_cells s_T_rows s_T_cells s_E_rows s_E_cells)) (c_X5_skewOf l hG D c9 ad s_time s_tolerance s_seed s_madeTickets s_cheesesOfText s_R_rows s_R_cells s_U_rows s_U_cells s_S_rows s_S_cells s_T_rows s_T_cells s_E_rows s_E_cells o1 o2 ho3) 2 (gV wc_230 wc_231 wc_232 wc_233 wc_234) rfl rfl rfl ⟨rfl, pd_X5_skewOf⟩ ⟨Nat.le_of_ble_eq_true rfl, Nat.le_of_ble_eq_true rfl⟩ 0 rfl rfl rfl rfl (Nat.le_of_ble_eq_true rfl) ⟨Nat.zero_le _, Nat.zero_le _⟩ [0, 1, 2, 3, 4, 5, 6, 7, 8, 9, 10] [] [0, 1, 2, 3, 4, 5, 6, 7, 8, 9, 10] rfl rfl rfl rfl dX5_isSkewed_21 24 rfl ?_
  refine v_aload_n X dX5_isSkewed_24 1 rfl rfl 25 rfl ?_
  refine v_get X (C := RX5) (T := TX5) (N := 10) (ci := 7) (v := _) dX5_isSkewed_25 (lay_of layc_X5) 0 rfl rfl 6 (by decide) (mw wc_187) rfl rfl 28 rfl ?_
  refine v_icmp_le X (tgt := 35) dX5_isSkewed_28 rfl 31 rfl hf (fun hf => ?_) (fun hf => ?_)
  · refine v_iconst X dX5_isSkewed_35 ic_0 36 rfl ?_
    obtain rfl := Option.some.inj hf
    exact v_zret X (Nat.zero_le _) (Nat.zero_le _) nz0 dX5_isSkewed_36
  · refine v_iconst X dX5_isSkewed_31 ic_1 32 rfl ?_
    refine v_goto X (tgt := 36) dX5_isSkewed_32 rfl ?_
    obtain rfl := Option.some.inj hf
    exact v_zret X (Nat.zero_le _) (Nat.zero_le _) nz1 dX5_isSkewed_36
theorem pd_X5_isSkewed : yX5_isSkewed.cls ≠ "java/lang/invoke/MethodHandle" ∧ yX5_isSkewed.cls ≠ "java/lang/invoke/VarHandle" ∧ (parseMethodDescriptor yX5_isSkewed.desc).map (fun d => d.parameters.length) = some 1 := by decide +kernel
theorem pd_X6_get_UX5_whyNoLogin_83 : "TicketGate$Table" ≠ "java/lang/invoke/MethodHandle" ∧ "TicketGate$Table" ≠ "java/lang/invoke/VarHandle" ∧ (parseMethodDescriptor "(II)I").map (fun d => d.parameters.length) = some 2 := by decide +kernel
theorem pd_X6_isFull_UX5_whyNoLogin_97 : "TicketGate$Table" ≠ "java/lang/invoke/MethodHandle" ∧ "TicketGate$Table" ≠ "java/lang/invoke/VarHandle" ∧ (parseMethodDescriptor "()Z").map (fun d => d.parameters.length) = some 0 := by decide +kernel
def f_X5_whyNoLogin (s_tolerance : Int32) (s_R_rows : Int32) (s_R_cells : Nat → Int32) (s_U_rows : Int32) (s_U_cells : Nat → Int32) (s_T_rows : Int32) (v1 : Int32) (v2 : Int32) : Option (Int32) :=
  (f_X6_get 30 5 s_U_rows s_U_cells v1 2).bind fun o1 =>
  if o1 = v2 then (
    (f_X6_get 30 5 s_U_rows s_U_cells v1 1).bind fun o2 =>
    (f_X5_skewOf s_R_rows s_R_cells s_U_rows s_U_cells v1 o2).bind fun o3 =>
    if o3 ≤ s_tolerance then (
      (f_X6_isFull 240 24 s_T_rows).bind fun o4 =>
      if o4 = 0 then (
        some (0))
      else (
        some (3)))
    else (
      some (2)))
  else (
    some (1))
set_option maxRecDepth 100000 in
set_option maxHeartbeats 4000000 in
theorem c_X5_whyNoLogin (l : Launch) {G : (Nat → Prop) → State → Heap → Prop} (hG : vG G) (D : va_G) (c9 : Nat → ClassId) (ad : Nat → Nat) (s_time : Int32) (s_tolerance : Int32) (s_seed : Int32) (s_madeTickets : Int32) (s_cheesesOfText : Int32) (s_R_rows : Int32) (s_R_cells : Nat → Int32) (s_U_rows : Int32) (s_U_cells : Nat → Int32) (s_S_rows : Int32) (s_S_cells : Nat → Int32) (s_T_rows : Int32) (s_T_cells : Nat → Int32) (s_E_rows : Int32) (s_E_cells : Nat → Int32) (v1 : Int32) (v2 : Int32) {o : Int32} (hf : f_X5_whyNoLogin s_tolerance s_R_rows s_R_cells s_U_rows s_U_cells s_T_rows v1 v2 = some o) : mI l yX5_whyNoLogin (wq yX5_whyNoLogin cX5_whyNoLogin 3 (some .int)) { frames := 2, cells := 0, slots := 0, locals := 62 } G D (tyA c9) [.ref (ad 0), .int v1, .int v2] (wX5 ad c9 s_time s_tolerance s_seed s_madeTickets s_cheesesOfText s_R_rows s_R_cells s_U_rows s_U_cells s_S_rows s_S_cells s_T_rows s_T_cells s_E_rows s_E_cells) [] 0 0 o (wX5 ad c9 s_time s_tolerance s_seed s_madeTickets s_cheesesOfText s_R_rows s_R_cells s_U_rows s_U_cells s_S_rows s_S_cells s_T_rows s_T_cells s_E_rows s_E_cells) := by
  refine mI_of hG (cc := cX5_whyNoLogin) (maxL := 3) (ty := .int) (by decide) rfl (Nat.le_of_ble_eq_true rfl) ?_
  intro p e s m args below meth c A X
  have X : vX p s m args meth c cX5_whyNoLogin 3 (some .int) RX5 (wq yX5_whyNoLogin cX5_whyNoLogin 3 (some .int)) D (tyA c9) G A := X
  refine v_eq (lv2 := [(0, .ref (ad 0)), (1, .int v1), (2, .int v2)]) rfl rfl rfl rfl ?_
  rw [f_X5_whyNoLogin] at hf
  refine v_aload_n X dX5_whyNoLogin_0 0 rfl rfl 1 rfl ?_
  refine v_get X (C := RX5) (T := TX5) (N := 10) (ci := 7) (v := _) dX5_whyNoLogin_1 (lay_of layc_X5) 0 rfl rfl 1 (by decide) (mw wc_170) rfl rfl 4 rfl ?_
  refine v_iload_n X dX5_whyNoLogin_4 1 rfl rfl 5 rfl ?_
  refine v_iconst X dX5_whyNoLogin_5 ic_2 6 rfl ?_
  obtain ⟨o1, ho1, hf⟩ := bnd hf
  refine v_callUi X (ci := 9) (T := TX8) (C := RX8) (owner := "TicketGate$Table") (As := [.int v1, .int 2]) (rest := []) (ws' := (wX5 ad c9 s_time s_tolerance s_seed s_madeTickets s_cheesesOfText s_R_rows s_R_cells s_U_rows s_U_cells s_S_rows s_S_cells s_T_rows s_T_cells s_E_rows s_E_cells)) (c_X6_get l hG D c9 (fun k => ad ([3, 4].getD k 0)) 30 9 RX8 rfl layc_X8 6 5 s_U_rows s_U_cells v1 2 ho1) 2 (gU wc_222 wc_223 wc_224 wc_33 wc_34 wc_35) rfl rfl rfl rfl pd_X6_get_UX5_whyNoLogin_83 ⟨Nat.le_of_ble_eq_true rfl, Nat.le_of_ble_eq_true rfl⟩ 3 rfl rfl rfl rfl (Nat.le_of_ble_eq_true rfl) ⟨Nat.zero_le _, Nat.zero_le _⟩ [3, 4] [0, 1, 2, 5, 6, 7, 8, 9, 10] [0, 1, 2, 9, 10, 3, 4, 5, 6, 7, 8] rfl rfl rfl rfl dX5_whyNoLogin_6 9 rfl ?_
  refine v_iload_n X dX5_whyNoLogin_9 2 rfl rfl 10 rfl ?_
  refine v_icmp_eq X (tgt := 15) dX5_whyNoLogin_10 rfl 13 rfl hf (fun hf => ?_) (fun hf => ?_)
  · refine v_aload_n X dX5_whyNoLogin_15 0 rfl rfl 16 rfl ?_
    refine v_iload_n X dX5_whyNoLogin_16 1 rfl rfl 17 rfl ?_
    refine v_aload_n X dX5_whyNoLogin_17 0 rfl rfl 18 rfl ?_
    refine v_get X (C := RX5) (T := TX5) (N := 10) (ci := 7) (v := _) dX5_whyNoLogin_18 (lay_of layc_X5) 0 rfl rfl 1 (by decide) (mw wc_170) rfl rfl 21 rfl ?_
    refine v_iload_n X dX5_whyNoLogin_21 1 rfl rfl 22 rfl ?_
    refine v_iconst X dX5_whyNoLogin_22 ic_1 23 rfl ?_
    obtain ⟨o2, ho2, hf⟩ := bnd hf
    refine v_callUi X (ci := 9) (T := TX8) (C := RX8) (owner := "TicketGate$Table") (As := [.int v1, .int 1]) (rest := [.int v1, .ref (ad 0)]) (ws' := (wX5 ad c9 s_time s_tolerance s_seed s_madeTickets s_cheesesOfText s_R_rows s_R_cells s_U_rows s_U_cells s_S_rows s_S_cells s_T_rows s_T_cells s_E_rows s_E_cells)) (c_X6_get l hG D c9 (fun k => ad ([3, 4].getD k 0)) 30 9 RX8 rfl layc_X8 6 5 s_U_rows s_U_cells v1 1 ho2) 2 (gU wc_222 wc_223 wc_224 wc_33 wc_34 wc_35) rfl rfl rfl rfl pd_X6_get_UX5_whyNoLogin_83 ⟨Nat.le_of_ble_eq_true rfl, Nat.le_of_ble_eq_true rfl⟩ 3 rfl rfl rfl rfl (Nat.le_of_ble_eq_true rfl) ⟨Nat.zero_le _, Nat.zero_le _⟩ [3, 4] [0, 1, 2, 5, 6, 7, 8, 9, 10] [0, 1, 2, 9, 10, 3, 4, 5, 6, 7, 8] rfl rfl rfl rfl dX5_whyNoLogin_23 26 rfl ?_
    obtain ⟨o3, ho3, hf⟩ := bnd hf
    refine v_callVi X (ci := 7) (T := TX5) (C := RX5) (As := [.int v1, .int o2]) (rest := []) (ws' := (wX5 ad c9 s_time s_tolerance s_seed s_madeTickets s_cheesesOfText s_R_rows s_R_cells s_U_rows s_U_cells s_S_rows s_S_cells s_T_rows s_T_cells s_E_rows s_E_cells)) (c_X5_skewOf l hG D c9 ad s_time s_tolerance s_seed s_madeTickets s_cheesesOfText s_R_rows s_R_cells s_U_rows s_U_cells s_S_rows s_S_cells s_T_rows s_T_cells s_E_rows s_E_cells v1 o2 ho3) 2 (gV wc_230 wc_231 wc_232 wc_233 wc_234) rfl rfl rfl ⟨rfl, pd_X5_skewOf⟩ ⟨Nat.le_of_ble_eq_true rfl, Nat.le_of_ble_eq_true rfl⟩ 0 rfl rfl rfl rfl (Nat.le_of_ble_eq_true rfl) ⟨Nat.zero_le _, Nat.zero_le _⟩ [0, 1, 2, 3, 4, 5, 6, 7, 8, 9, 10] [] [0, 1, 2, 3, 4, 5, 6, 7, 8, 9, 10] rfl rfl rfl rfl dX5_whyNoLogin_26 29 rfl ?_
    refine v_aload_n X dX5_whyNoLogin_29 0 rfl rfl 30 rfl ?_
    refine v_get X (C := RX5) (T := TX5) (N := 10) (ci := 7) (v := _) dX5_whyNoLogin_30 (lay_of layc_X5) 0 rfl rfl 6 (by decide) (mw wc_187) rfl rfl 33 rfl ?_
    refine v_icmp_le X (tgt := 38) dX5_whyNoLogin_33 rfl 36 rfl hf (fun hf => ?_) (fun hf => ?_)
    · refine v_aload_n X dX5_whyNoLogin_38 0 rfl rfl 39 rfl ?_
      refine v_get X (C := RX5) (T := TX5) (N := 10) (ci := 7) (v := _) dX5_whyNoLogin_39 (lay_of layc_X5) 0 rfl rfl 3 (by decide) (mw wc_178) rfl rfl 42 rfl ?_
      obtain ⟨o4, ho4, hf⟩ := bnd hf
      refine v_callUi X (ci := 8) (T := TX7) (C := RX7) (owner := "TicketGate$Table") (As := []) (rest := []) (ws' := (wX5 ad c9 s_time s_tolerance s_seed s_madeTickets s_cheesesOfText s_R_rows s_R_cells s_U_rows s_U_cells s_S_rows s_S_cells s_T_rows s_T_cells s_E_rows s_E_cells)) (c_X6_isFull l hG D c9 (fun k => ad ([7, 8].getD k 0)) 240 8 RX7 rfl layc_X7 24 10 s_T_rows s_T_cells ho4) 0 (gU wc_235 wc_236 wc_237 wc_115 wc_34 wc_116) rfl rfl rfl rfl pd_X6_isFull_UX5_whyNoLogin_97 ⟨Nat.le_of_ble_eq_true rfl, Nat.le_of_ble_eq_true rfl⟩ 7 rfl rfl rfl rfl (Nat.le_of_ble_eq_true rfl) ⟨Nat.zero_le _, Nat.zero_le _⟩ [7, 8] [0, 1, 2, 3, 4, 5, 6, 9, 10] [0, 1, 2, 3, 4, 5, 6, 9, 10, 7, 8] rfl rfl rfl rfl dX5_whyNoLogin_42 45 rfl ?_
      refine v_if_eq X (tgt := 52) dX5_whyNoLogin_45 rfl 48 rfl hf (fun hf => ?_) (fun hf => ?_)
      · refine v_iconst X dX5_whyNoLogin_52 ic_0 53 rfl ?_
        obtain rfl := Option.some.inj hf
        exact v_iret X (Nat.zero_le _) (Nat.zero_le _) dX5_whyNoLogin_53
      · refine v_iconst X dX5_whyNoLogin_48 ic_3 49 rfl ?_
        refine v_goto X (tgt := 53) dX5_whyNoLogin_49 rfl ?_
        obtain rfl := Option.some.inj hf
        exact v_iret X (Nat.zero_le _) (Nat.zero_le _) dX5_whyNoLogin_53
    · refine v_iconst X dX5_whyNoLogin_36 ic_2 37 rfl ?_
      obtain rfl := Option.some.inj hf
      exact v_iret X (Nat.zero_le _) (Nat.zero_le _) dX5_whyNoLogin_37
  · refine v_iconst X dX5_whyNoLogin_13 ic_1 14 rfl ?_
    obtain rfl := Option.some.inj hf
    exact v_iret X (Nat.zero_le _) (Nat.zero_le _) dX5_whyNoLogin_14
theorem pd_X5_whyNoLogin : yX5_whyNoLogin.cls ≠ "java/lang/invoke/MethodHandle" ∧ yX5_whyNoLogin.cls ≠ "java/lang/invoke/VarHandle" ∧ (parseMethodDescriptor yX5_whyNoLogin.desc).map (fun d => d.parameters.length) = some 2 := by decide +kernel
theorem pd_X6_get_UX5_whyNoReferral_93 : "TicketGate$Table" ≠ "java/lang/invoke/MethodHandle" ∧ "TicketGate$Table" ≠ "java/lang/invoke/VarHandle" ∧ (parseMethodDescriptor "(II)I").map (fun d => d.parameters.length) = some 2 := by decide +kernel
theorem pd_X6_isFull_UX5_whyNoReferral_97 : "TicketGate$Table" ≠ "java/lang/invoke/MethodHandle" ∧ "TicketGate$Table" ≠ "java/lang/invoke/VarHandle" ∧ (parseMethodDescriptor "()Z").map (fun d => d.parameters.length) = some 0 := by decide +kernel
def f_X5_whyNoReferral (s_time : Int32) (s_tolerance : Int32) (s_R_rows : Int32) (s_R_cells : Nat → Int32) (s_U_rows : Int32) (s_U_cells : Nat → Int32) (s_T_rows : Int32) (s_T_cells : Nat → Int32) (v1 : Int32) (v2 : Int32) : Option (Int32) :=
  (f_X6_get 240 10 s_T_rows s_T_cells v1 1).bind fun o1 =>
  if o1 = 0 then (
    (f_X7_isAlive s_T_rows s_T_cells v1 s_time).bind fun o2 =>
    if o2 = 0 then (
      some (2))
    else (
      (f_X6_get 240 10 s_T_rows s_T_cells v1 3).bind fun o3 =>
      (f_X2_hasTrust s_R_rows s_R_cells o3 v2).bind fun o4 =>
      if o4 = 0 then (
        some (3))
      else (
        (f_X5_isSkewed s_tolerance s_R_rows s_R_cells s_U_rows s_U_cells s_T_rows s_T_cells v1).bind fun o5 =>
        if o5 = 0 then (
          (f_X6_isFull 240 24 s_T_rows).bind fun o6 =>
          if o6 = 0 then (
            some (0))
          else (
            some (5)))
        else (
          some (4)))))
  else (
    some (1))
set_option maxRecDepth 100000 in
set_option maxHeartbeats 4000000 in
theorem c_X5_whyNoReferral (l : Launch) {G : (Nat → Prop) → State → Heap → Prop} (hG : vG G) (D : va_G) (c9 : Nat → ClassId) (ad : Nat → Nat) (s_time : Int32) (s_tolerance : Int32) (s_seed : Int32) (s_madeTickets : Int32) (s_cheesesOfText : Int32) (s_R_rows : Int32) (s_R_cells : Nat → Int32) (s_U_rows : Int32) (s_U_cells : Nat → Int32) (s_S_rows : Int32) (s_S_cells : Nat → Int32) (s_T_rows : Int32) (s_T_cells : Nat → Int32) (s_E_rows : Int32) (s_E_cells : Nat → Int32) (v1 : Int32) (v2 : Int32) {o : Int32} (hf : f_X5_whyNoReferral s_time s_tolerance s_R_rows s_R_cells s_U_rows s_U_cells s_T_rows s_T_cells v1 v2 = some o) : mI l yX5_whyNoReferral (wq yX5_whyNoReferral cX5_whyNoReferral 3 (some .int)) { frames := 3, cells := 0, slots := 0, locals := 84 } G D (tyA c9) [.ref (ad 0), .int v1, .int v2] (wX5 ad c9 s_time s_tolerance s_seed s_madeTickets s_cheesesOfText s_R_rows s_R_cells s_U_rows s_U_cells s_S_rows s_S_cells s_T_rows s_T_cells s_E_rows s_E_cells) [] 0 0 o (wX5 ad c9 s_time s_tolerance s_seed s_madeTickets s_cheesesOfText s_R_rows s_R_cells s_U_rows s_U_cells s_S_rows s_S_cells s_T_rows s_T_cells s_E_rows s_E_cells) := by
  refine mI_of hG (cc := cX5_whyNoReferral) (maxL := 3) (ty := .int) (by decide) rfl (Nat.le_of_ble_eq_true rfl) ?_
  intro p e s m args below meth c A X
  have X : vX p s m args meth c cX5_whyNoReferral 3 (some .int) RX5 (wq yX5_whyNoReferral cX5_whyNoReferral 3 (some .int)) D (tyA c9) G A := X
  refine v_eq (lv2 := [(0, .ref (ad 0)), (1, .int v1), (2, .int v2)]) rfl rfl rfl rfl ?_
  rw [f_X5_whyNoReferral] at hf
  refine v_aload_n X dX5_whyNoReferral_0 0 rfl rfl 1 rfl ?_
  refine v_get X (C := RX5) (T := TX5) (N := 10) (ci := 7) (v := _) dX5_whyNoReferral_1 (lay_of layc_X5) 0 rfl rfl 3 (by decide) (mw wc_178) rfl rfl 4 rfl ?_
  refine v_iload_n X dX5_whyNoReferral_4 1 rfl rfl 5 rfl ?_
  refine v_iconst X dX5_whyNoReferral_5 ic_1 6 rfl ?_
  obtain ⟨o1, ho1, hf⟩ := bnd hf
  refine v_callUi X (ci := 8) (T := TX7) (C := RX7) (owner := "TicketGate$Table") (As := [.int v1, .int 1]) (rest := []) (ws' := (wX5 ad c9 s_time s_tolerance s_seed s_madeTickets s_cheesesOfText s_R_rows s_R_cells s_U_rows s_U_cells s_S_rows s_S_cells s_T_rows s_T_cells s_E_rows s_E_cells)) (c_X6_get l hG D c9 (fun k => ad ([7, 8].getD k 0)) 240 8 RX7 rfl layc_X7 24 10 s_T_rows s_T_cells v1 1 ho1) 2 (gU wc_229 wc_83 wc_84 wc_33 wc_34 wc_35) rfl rfl rfl rfl pd_X6_get_UX5_whyNoReferral_93 ⟨Nat.le_of_ble_eq_true rfl, Nat.le_of_ble_eq_true rfl⟩ 7 rfl rfl rfl rfl (Nat.le_of_ble_eq_true rfl) ⟨Nat.zero_le _, Nat.zero_le _⟩ [7, 8] [0, 1, 2, 3, 4, 5, 6, 9, 10] [0, 1, 2, 3, 4, 5, 6, 9, 10, 7, 8] rfl rfl rfl rfl dX5_whyNoReferral_6 9 rfl ?_
  refine v_if_eq X (tgt := 14) dX5_whyNoReferral_9 rfl 12 rfl hf (fun hf => ?_) (fun hf => ?_)
  · refine v_aload_n X dX5_whyNoReferral_14 0 rfl rfl 15 rfl ?_
    refine v_get X (C := RX5) (T := TX5) (N := 10) (ci := 7) (v := _) dX5_whyNoReferral_15 (lay_of layc_X5) 0 rfl rfl 3 (by decide) (mw wc_178) rfl rfl 18 rfl ?_
    refine v_iload_n X dX5_whyNoReferral_18 1 rfl rfl 19 rfl ?_
    refine v_aload_n X dX5_whyNoReferral_19 0 rfl rfl 20 rfl ?_
    refine v_get X (C := RX5) (T := TX5) (N := 10) (ci := 7) (v := _) dX5_whyNoReferral_20 (lay_of layc_X5) 0 rfl rfl 5 (by decide) (mw wc_186) rfl rfl 23 rfl ?_
    obtain ⟨o2, ho2, hf⟩ := bnd hf
    refine v_callVi X (ci := 8) (T := TX7) (C := RX7) (As := [.int v1, .int s_time]) (rest := []) (ws' := (wX5 ad c9 s_time s_tolerance s_seed s_madeTickets s_cheesesOfText s_R_rows s_R_cells s_U_rows s_U_cells s_S_rows s_S_cells s_T_rows s_T_cells s_E_rows s_E_cells)) (c_X7_isAlive l hG D c9 (fun k => ad ([7, 8].getD k 0)) s_T_rows s_T_cells v1 s_time ho2) 2 (gV wc_238 wc_89 wc_90 wc_91 wc_92) rfl rfl rfl ⟨rfl, pd_X7_isAlive⟩ ⟨Nat.le_of_ble_eq_true rfl, Nat.le_of_ble_eq_true rfl⟩ 7 rfl rfl rfl rfl (Nat.le_of_ble_eq_true rfl) ⟨Nat.zero_le _, Nat.zero_le _⟩ [7, 8] [0, 1, 2, 3, 4, 5, 6, 9, 10] [0, 1, 2, 3, 4, 5, 6, 9, 10, 7, 8] rfl rfl rfl rfl dX5_whyNoReferral_23 26 rfl ?_
    refine v_if_ne X (tgt := 31) dX5_whyNoReferral_26 rfl 29 rfl hf (fun hf => ?_) (fun hf => ?_)
    · refine v_aload_n X dX5_whyNoReferral_31 0 rfl rfl 32 rfl ?_
      refine v_get X (C := RX5) (T := TX5) (N := 10) (ci := 7) (v := _) dX5_whyNoReferral_32 (lay_of layc_X5) 0 rfl rfl 0 (by decide) (mw wc_164) rfl rfl 35 rfl ?_
      refine v_aload_n X dX5_whyNoReferral_35 0 rfl rfl 36 rfl ?_
      refine v_get X (C := RX5) (T := TX5) (N := 10) (ci := 7) (v := _) dX5_whyNoReferral_36 (lay_of layc_X5) 0 rfl rfl 3 (by decide) (mw wc_178) rfl rfl 39 rfl ?_
      refine v_iload_n X dX5_whyNoReferral_39 1 rfl rfl 40 rfl ?_
      refine v_iconst X dX5_whyNoReferral_40 ic_3 41 rfl ?_
      obtain ⟨o3, ho3, hf⟩ := bnd hf
      refine v_callUi X (ci := 8) (T := TX7) (C := RX7) (owner := "TicketGate$Table") (As := [.int v1, .int 3]) (rest := [.ref (ad 1)]) (ws' := (wX5 ad c9 s_time s_tolerance s_seed s_madeTickets s_cheesesOfText s_R_rows s_R_cells s_U_rows s_U_cells s_S_rows s_S_cells s_T_rows s_T_cells s_E_rows s_E_cells)) (c_X6_get l hG D c9 (fun k => ad ([7, 8].getD k 0)) 240 8 RX7 rfl layc_X7 24 10 s_T_rows s_T_cells v1 3 ho3) 2 (gU wc_229 wc_83 wc_84 wc_33 wc_34 wc_35) rfl rfl rfl rfl pd_X6_get_UX5_whyNoReferral_93 ⟨Nat.le_of_ble_eq_true rfl, Nat.le_of_ble_eq_true rfl⟩ 7 rfl rfl rfl rfl (Nat.le_of_ble_eq_true rfl) ⟨Nat.zero_le _, Nat.zero_le _⟩ [7, 8] [0, 1, 2, 3, 4, 5, 6, 9, 10] [0, 1, 2, 3, 4, 5, 6, 9, 10, 7, 8] rfl rfl rfl rfl dX5_whyNoReferral_41 44 rfl ?_
      refine v_iload_n X dX5_whyNoReferral_44 2 rfl rfl 45 rfl ?_
      obtain ⟨o4, ho4, hf⟩ := bnd hf
      refine v_callVi X (ci := 4) (T := TX2) (C := RX2) (As := [.int o3, .int v2]) (rest := []) (ws' := (wX5 ad c9 s_time s_tolerance s_seed s_madeTickets s_cheesesOfText s_R_rows s_R_cells s_U_rows s_U_cells s_S_rows s_S_cells s_T_rows s_T_cells s_E_rows s_E_cells)) (c_X2_hasTrust l hG D c9 (fun k => ad ([1, 2].getD k 0)) s_R_rows s_R_cells o3 v2 ho4) 2 (gV wc_239 wc_141 wc_142 wc_66 wc_143) rfl rfl rfl ⟨rfl, pd_X2_hasTrust⟩ ⟨Nat.le_of_ble_eq_true rfl, Nat.le_of_ble_eq_true rfl⟩ 1 rfl rfl rfl rfl (Nat.le_of_ble_eq_true rfl) ⟨Nat.zero_le _, Nat.zero_le _⟩ [1, 2] [0, 3, 4, 5, 6, 7, 8, 9, 10] [0, 9, 10, 1, 2, 3, 4, 5, 6, 7, 8] rfl rfl rfl rfl dX5_whyNoReferral_45 48 rfl ?_
      refine v_if_ne X (tgt := 53) dX5_whyNoReferral_48 rfl 51 rfl hf (fun hf => ?_) (fun hf => ?_)
      · refine v_aload_n X dX5_whyNoReferral_53 0 rfl rfl 54 rfl ?_
        refine v_iload_n X dX5_whyNoReferral_54 1 rfl rfl 55 rfl ?_
        obtain ⟨o5, ho5, hf⟩ := bnd hf
        refine v_callVi X (ci := 7) (T := TX5) (C := RX5) (As := [.int v1]) (rest := []) (ws' := (wX5 ad c9 s_time s_tolerance s_seed s_madeTickets s_cheesesOfText s_R_rows s_R_cells s_U_rows s_U_cells s_S_rows s_S_cells s_T_rows s_T_cells s_E_rows s_E_cells)) (c_X5_isSkewed l hG D c9 ad s_time s_tolerance s_seed s_madeTickets s_cheesesOfText s_R_rows s_R_cells s_U_rows s_U_cells s_S_rows s_S_cells s_T_rows s_T_cells s_E_rows s_E_cells v1 ho5) 1 (gV wc_240 wc_241 wc_242 wc_233 wc_243) rfl rfl rfl ⟨rfl, pd_X5_isSkewed⟩ ⟨Nat.le_of_ble_eq_true rfl, Nat.le_of_ble_eq_true rfl⟩ 0 rfl rfl rfl rfl (Nat.le_of_ble_eq_true rfl) ⟨Nat.zero_le _, Nat.zero_le _⟩ [0, 1, 2, 3, 4, 5, 6, 7, 8, 9, 10] [] [0, 1, 2, 3, 4, 5, 6, 7, 8, 9, 10] rfl rfl rfl rfl dX5_whyNoReferral_55 58 rfl ?_
        refine v_if_eq X (tgt := 63) dX5_whyNoReferral_58 rfl 61 rfl hf (fun hf => ?_) (fun hf => ?_)
        · refine v_aload_n X dX5_whyNoReferral_63 0 rfl rfl 64 rfl ?_
          refine v_get X (C := RX5) (T := TX5) (N := 10) (ci := 7) (v := _) dX5_whyNoReferral_64 (lay_of layc_X5) 0 rfl rfl 3 (by decide) (mw wc_178) rfl rfl 67 rfl ?_
          obtain ⟨o6, ho6, hf⟩ := bnd hf
          refine v_callUi X (ci := 8) (T := TX7) (C := RX7) (owner := "TicketGate$Table") (As := []) (rest := []) (ws' := (wX5 ad c9 s_time s_tolerance s_seed s_madeTickets s_cheesesOfText s_R_rows s_R_cells s_U_rows s_U_cells s_S_rows s_S_cells s_T_rows s_T_cells s_E_rows s_E_cells)) (c_X6_isFull l hG D c9 (fun k => ad ([7, 8].getD k 0)) 240 8 RX7 rfl layc_X7 24 10 s_T_rows s_T_cells ho6) 0 (gU wc_235 wc_236 wc_237 wc_115 wc_34 wc_116) rfl rfl rfl rfl pd_X6_isFull_UX5_whyNoReferral_97 ⟨Nat.le_of_ble_eq_true rfl, Nat.le_of_ble_eq_true rfl⟩ 7 rfl rfl rfl rfl (Nat.le_of_ble_eq_true rfl) ⟨Nat.zero_le _, Nat.zero_le _⟩ [7, 8] [0, 1, 2, 3, 4, 5, 6, 9, 10] [0, 1, 2, 3, 4, 5, 6, 9, 10, 7, 8] rfl rfl rfl rfl dX5_whyNoReferral_67 70 rfl ?_
          refine v_if_eq X (tgt := 77) dX5_whyNoReferral_70 rfl 73 rfl hf (fun hf => ?_) (fun hf => ?_)
          · refine v_iconst X dX5_whyNoReferral_77 ic_0 78 rfl ?_
            obtain rfl := Option.some.inj hf
            exact v_iret X (Nat.zero_le _) (Nat.zero_le _) dX5_whyNoReferral_78
          · refine v_iconst X dX5_whyNoReferral_73 ic_5 74 rfl ?_
            refine v_goto X (tgt := 78) dX5_whyNoReferral_74 rfl ?_
            obtain rfl := Option.some.inj hf
            exact v_iret X (Nat.zero_le _) (Nat.zero_le _) dX5_whyNoReferral_78
        · refine v_iconst X dX5_whyNoReferral_61 ic_4 62 rfl ?_
          obtain rfl := Option.some.inj hf
          exact v_iret X (Nat.zero_le _) (Nat.zero_le _) dX5_whyNoReferral_62
      · refine v_iconst X dX5_whyNoReferral_51 ic_3 52 rfl ?_
        obtain rfl := Option.some.inj hf
        exact v_iret X (Nat.zero_le _) (Nat.zero_le _) dX5_whyNoReferral_52
    · refine v_iconst X dX5_whyNoReferral_29 ic_2 30 rfl ?_
      obtain rfl := Option.some.inj hf
      exact v_iret X (Nat.zero_le _) (Nat.zero_le _) dX5_whyNoReferral_30
  · refine v_iconst X dX5_whyNoReferral_12 ic_1 13 rfl ?_
    obtain rfl := Option.some.inj hf
    exact v_iret X (Nat.zero_le _) (Nat.zero_le _) dX5_whyNoReferral_13
theorem pd_X5_whyNoReferral : yX5_whyNoReferral.cls ≠ "java/lang/invoke/MethodHandle" ∧ yX5_whyNoReferral.cls ≠ "java/lang/invoke/VarHandle" ∧ (parseMethodDescriptor yX5_whyNoReferral.desc).map (fun d => d.parameters.length) = some 2 := by decide +kernel
theorem pd_X6_get_UX5_whyNoRequest_93 : "TicketGate$Table" ≠ "java/lang/invoke/MethodHandle" ∧ "TicketGate$Table" ≠ "java/lang/invoke/VarHandle" ∧ (parseMethodDescriptor "(II)I").map (fun d => d.parameters.length) = some 2 := by decide +kernel
theorem pd_X6_get_UX5_whyNoRequest_112 : "TicketGate$Table" ≠ "java/lang/invoke/MethodHandle" ∧ "TicketGate$Table" ≠ "java/lang/invoke/VarHandle" ∧ (parseMethodDescriptor "(II)I").map (fun d => d.parameters.length) = some 2 := by decide +kernel
theorem pd_X6_isFull_UX5_whyNoRequest_97 : "TicketGate$Table" ≠ "java/lang/invoke/MethodHandle" ∧ "TicketGate$Table" ≠ "java/lang/invoke/VarHandle" ∧ (parseMethodDescriptor "()Z").map (fun d => d.parameters.length) = some 0 := by decide +kernel
def f_X5_whyNoRequest (s_time : Int32) (s_tolerance : Int32) (s_R_rows : Int32) (s_R_cells : Nat → Int32) (s_U_rows : Int32) (s_U_cells : Nat → Int32) (s_S_rows : Int32) (s_S_cells : Nat → Int32) (s_T_rows : Int32) (s_T_cells : Nat → Int32) (v1 : Int32) (v2 : Int32) : Option (Int32) :=
  (f_X6_get 240 10 s_T_rows s_T_cells v1 1).bind fun o1 =>
  if o1 = 0 then (
    (f_X7_isAlive s_T_rows s_T_cells v1 s_time).bind fun o2 =>
    if o2 = 0 then (
      some (2))
    else (
      (f_X6_get 240 10 s_T_rows s_T_cells v1 3).bind fun o3 =>
      (f_X6_get 18 3 s_S_rows s_S_cells v2 1).bind fun o4 =>
      if o3 = o4 then (
        (f_X5_isSkewed s_tolerance s_R_rows s_R_cells s_U_rows s_U_cells s_T_rows s_T_cells v1).bind fun o5 =>
        if o5 = 0 then (
          (f_X6_isFull 240 24 s_T_rows).bind fun o6 =>
          if o6 = 0 then (
            some (0))
          else (
            some (5)))
        else (
          some (4)))
      else (
        some (3))))
  else (
    some (1))
set_option maxRecDepth 100000 in
set_option maxHeartbeats 4000000 in
theorem c_X5_whyNoRequest (l : Launch) {G : (Nat → Prop) → State → Heap → Prop} (hG : vG G) (D : va_G) (c9 : Nat → ClassId) (ad : Nat → Nat) (s_time : Int32) (s_tolerance : Int32) (s_seed : Int32) (s_madeTickets : Int32) (s_cheesesOfText : Int32) (s_R_rows : Int32) (s_R_cells : Nat → Int32) (s_U_rows : Int32) (s_U_cells : Nat → Int32) (s_S_rows : Int32) (s_S_cells : Nat → Int32) (s_T_rows : Int32) (s_T_cells : Nat → Int32) (s_E_rows : Int32) (s_E_cells : Nat → Int32) (v1 : Int32) (v2 : Int32) {o : Int32} (hf : f_X5_whyNoRequest s_time s_tolerance s_R_rows s_R_cells s_U_rows s_U_cells s_S_rows s_S_cells s_T_rows s_T_cells v1 v2 = some o) : mI l yX5_whyNoRequest (wq yX5_whyNoRequest cX5_whyNoRequest 3 (some .int)) { frames := 3, cells := 0, slots := 0, locals := 84 } G D (tyA c9) [.ref (ad 0), .int v1, .int v2] (wX5 ad c9 s_time s_tolerance s_seed s_madeTickets s_cheesesOfText s_R_rows s_R_cells s_U_rows s_U_cells s_S_rows s_S_cells s_T_rows s_T_cells s_E_rows s_E_cells) [] 0 0 o (wX5 ad c9 s_time s_tolerance s_seed s_madeTickets s_cheesesOfText s_R_rows s_R_cells s_U_rows s_U_cells s_S_rows s_S_cells s_T_rows s_T_cells s_E_rows s_E_cells) := by
  refine mI_of hG (cc := cX5_whyNoRequest) (maxL := 3) (ty := .int) (by decide) rfl (Nat.le_of_ble_eq_true rfl) ?_
  intro p e s m args below meth c A X
  have X : vX p s m args meth c cX5_whyNoRequest 3 (some .int) RX5 (wq yX5_whyNoRequest cX5_whyNoRequest 3 (some .int)) D (tyA c9) G A := X
  refine v_eq (lv2 := [(0, .ref (ad 0)), (1, .int v1), (2, .int v2)]) rfl rfl rfl rfl ?_
  rw [f_X5_whyNoRequest] at hf
  refine v_aload_n X dX5_whyNoRequest_0 0 rfl rfl 1 rfl ?_
  refine v_get X (C := RX5) (T := TX5) (N := 10) (ci := 7) (v := _) dX5_whyNoRequest_1 (lay_of layc_X5) 0 rfl rfl 3 (by decide) (mw wc_178) rfl rfl 4 rfl ?_
  refine v_iload_n X dX5_whyNoRequest_4 1 rfl rfl 5 rfl ?_
  refine v_iconst X dX5_whyNoRequest_5 ic_1 6 rfl ?_
  obtain ⟨o1, ho1, hf⟩ := bnd hf
  refine v_callUi X (ci := 8) (T := TX7) (C := RX7) (owner := "TicketGate$Table") (As := [.int v1, .int 1]) (rest := []) (ws' := (wX5 ad c9 s_time s_tolerance s_seed s_madeTickets s_cheesesOfText s_R_rows s_R_cells s_U_rows s_U_cells s_S_rows s_S_cells s_T_rows s_T_cells s_E_rows s_E_cells)) (c_X6_get l hG D c9 (fun k => ad ([7, 8].getD k 0)) 240 8 RX7 rfl layc_X7 24 10 s_T_rows s_T_cells v1 1 ho1) 2 (gU wc_229 wc_83 wc_84 wc_33 wc_34 wc_35) rfl rfl rfl rfl pd_X6_get_UX5_whyNoRequest_93 ⟨Nat.le_of_ble_eq_true rfl, Nat.le_of_ble_eq_true rfl⟩ 7 rfl rfl rfl rfl (Nat.le_of_ble_eq_true rfl) ⟨Nat.zero_le _, Nat.zero_le _⟩ [7, 8] [0, 1, 2, 3, 4, 5, 6, 9, 10] [0, 1, 2, 3, 4, 5, 6, 9, 10, 7, 8] rfl rfl rfl rfl dX5_whyNoRequest_6 9 rfl ?_
  refine v_if_eq X (tgt := 14) dX5_whyNoRequest_9 rfl 12 rfl hf (fun hf => ?_) (fun hf => ?_)
  · refine v_aload_n X dX5_whyNoRequest_14 0 rfl rfl 15 rfl ?_
    refine v_get X (C := RX5) (T := TX5) (N := 10) (ci := 7) (v := _) dX5_whyNoRequest_15 (lay_of layc_X5) 0 rfl rfl 3 (by decide) (mw wc_178) rfl rfl 18 rfl ?_
    refine v_iload_n X dX5_whyNoRequest_18 1 rfl rfl 19 rfl ?_
    refine v_aload_n X dX5_whyNoRequest_19 0 rfl rfl 20 rfl ?_
    refine v_get X (C := RX5) (T := TX5) (N := 10) (ci := 7) (v := _) dX5_whyNoRequest_20 (lay_of layc_X5) 0 rfl rfl 5 (by decide) (mw wc_186) rfl rfl 23 rfl ?_
    obtain ⟨o2, ho2, hf⟩ := bnd hf
    refine v_callVi X (ci := 8) (T := TX7) (C := RX7) (As := [.int v1, .int s_time]) (rest := []) (ws' := (wX5 ad c9 s_time s_tolerance s_seed s_madeTickets s_cheesesOfText s_R_rows s_R_cells s_U_rows s_U_cells s_S_rows s_S_cells s_T_rows s_T_cells s_E_rows s_E_cells)) (c_X7_isAlive l hG D c9 (fun k => ad ([7, 8].getD k 0)) s_T_rows s_T_cells v1 s_time ho2) 2 (gV wc_238 wc_89 wc_90 wc_91 wc_92) rfl rfl rfl ⟨rfl, pd_X7_isAlive⟩ ⟨Nat.le_of_ble_eq_true rfl, Nat.le_of_ble_eq_true rfl⟩ 7 rfl rfl rfl rfl (Nat.le_of_ble_eq_true rfl) ⟨Nat.zero_le _, Nat.zero_le _⟩ [7, 8] [0, 1, 2, 3, 4, 5, 6, 9, 10] [0, 1, 2, 3, 4, 5, 6, 9, 10, 7, 8] rfl rfl rfl rfl dX5_whyNoRequest_23 26 rfl ?_
    refine v_if_ne X (tgt := 31) dX5_whyNoRequest_26 rfl 29 rfl hf (fun hf => ?_) (fun hf => ?_)
    · refine v_aload_n X dX5_whyNoRequest_31 0 rfl rfl 32 rfl ?_
      refine v_get X (C := RX5) (T := TX5) (N := 10) (ci := 7) (v := _) dX5_whyNoRequest_32 (lay_of layc_X5) 0 rfl rfl 3 (by decide) (mw wc_178) rfl rfl 35 rfl ?_
      refine v_iload_n X dX5_whyNoRequest_35 1 rfl rfl 36 rfl ?_
      refine v_iconst X dX5_whyNoRequest_36 ic_3 37 rfl ?_
      obtain ⟨o3, ho3, hf⟩ := bnd hf
      refine v_callUi X (ci := 8) (T := TX7) (C := RX7) (owner := "TicketGate$Table") (As := [.int v1, .int 3]) (rest := []) (ws' := (wX5 ad c9 s_time s_tolerance s_seed s_madeTickets s_cheesesOfText s_R_rows s_R_cells s_U_rows s_U_cells s_S_rows s_S_cells s_T_rows s_T_cells s_E_rows s_E_cells)) (c_X6_get l hG D c9 (fun k => ad ([7, 8].getD k 0)) 240 8 RX7 rfl layc_X7 24 10 s_T_rows s_T_cells v1 3 ho3) 2 (gU wc_229 wc_83 wc_84 wc_33 wc_34 wc_35) rfl rfl rfl rfl pd_X6_get_UX5_whyNoRequest_93 ⟨Nat.le_of_ble_eq_true rfl, Nat.le_of_ble_eq_true rfl⟩ 7 rfl rfl rfl rfl (Nat.le_of_ble_eq_true rfl) ⟨Nat.zero_le _, Nat.zero_le _⟩ [7, 8] [0, 1, 2, 3, 4, 5, 6, 9, 10] [0, 1, 2, 3, 4, 5, 6, 9, 10, 7, 8] rfl rfl rfl rfl dX5_whyNoRequest_37 40 rfl ?_
      refine v_aload_n X dX5_whyNoRequest_40 0 rfl rfl 41 rfl ?_
      refine v_get X (C := RX5) (T := TX5) (N := 10) (ci := 7) (v := _) dX5_whyNoRequest_41 (lay_of layc_X5) 0 rfl rfl 2 (by decide) (mw wc_174) rfl rfl 44 rfl ?_
      refine v_iload_n X dX5_whyNoRequest_44 2 rfl rfl 45 rfl ?_
      refine v_iconst X dX5_whyNoRequest_45 ic_1 46 rfl ?_
      obtain ⟨o4, ho4, hf⟩ := bnd hf
      refine v_callUi X (ci := 5) (T := TX3) (C := RX3) (owner := "TicketGate$Table") (As := [.int v2, .int 1]) (rest := [.int o3]) (ws' := (wX5 ad c9 s_time s_tolerance s_seed s_madeTickets s_cheesesOfText s_R_rows s_R_cells s_U_rows s_U_cells s_S_rows s_S_cells s_T_rows s_T_cells s_E_rows s_E_cells)) (c_X6_get l hG D c9 (fun k => ad ([5, 6].getD k 0)) 18 5 RX3 rfl layc_X3 6 3 s_S_rows s_S_cells v2 1 ho4) 2 (gU wc_244 wc_245 wc_246 wc_33 wc_34 wc_35) rfl rfl rfl rfl pd_X6_get_UX5_whyNoRequest_112 ⟨Nat.le_of_ble_eq_true rfl, Nat.le_of_ble_eq_true rfl⟩ 5 rfl rfl rfl rfl (Nat.le_of_ble_eq_true rfl) ⟨Nat.zero_le _, Nat.zero_le _⟩ [5, 6] [0, 1, 2, 3, 4, 7, 8, 9, 10] [0, 1, 2, 3, 4, 9, 10, 5, 6, 7, 8] rfl rfl rfl rfl dX5_whyNoRequest_46 49 rfl ?_
      refine v_icmp_eq X (tgt := 54) dX5_whyNoRequest_49 rfl 52 rfl hf (fun hf => ?_) (fun hf => ?_)
      · refine v_aload_n X dX5_whyNoRequest_54 0 rfl rfl 55 rfl ?_
        refine v_iload_n X dX5_whyNoRequest_55 1 rfl rfl 56 rfl ?_
        obtain ⟨o5, ho5, hf⟩ := bnd hf
        refine v_callVi X (ci := 7) (T := TX5) (C := RX5) (As := [.int v1]) (rest := []) (ws' := (wX5 ad c9 s_time s_tolerance s_seed s_madeTickets s_cheesesOfText s_R_rows s_R_cells s_U_rows s_U_cells s_S_rows s_S_cells s_T_rows s_T_cells s_E_rows s_E_cells)) (c_X5_isSkewed l hG D c9 ad s_time s_tolerance s_seed s_madeTickets s_cheesesOfText s_R_rows s_R_cells s_U_rows s_U_cells s_S_rows s_S_cells s_T_rows s_T_cells s_E_rows s_E_cells v1 ho5) 1 (gV wc_240 wc_241 wc_242 wc_233 wc_243) rfl rfl rfl ⟨rfl, pd_X5_isSkewed⟩ ⟨Nat.le_of_ble_eq_true rfl, Nat.le_of_ble_eq_true rfl⟩ 0 rfl rfl rfl rfl (Nat.le_of_ble_eq_true rfl) ⟨Nat.zero_le _, Nat.zero_le _⟩ [0, 1, 2, 3, 4, 5, 6, 7, 8, 9, 10] [] [0, 1, 2, 3, 4, 5, 6, 7, 8, 9, 10] rfl rfl rfl rfl dX5_whyNoRequest_56 59 rfl ?_
        refine v_if_eq X (tgt := 64) dX5_whyNoRequest_59 rfl 62 rfl hf (fun hf => ?_) (fun hf => ?_)
        · refine v_aload_n X dX5_whyNoRequest_64 0 rfl rfl 65 rfl ?_
          refine v_get X (C := RX5) (T := TX5) (N := 10) (ci := 7) (v := _) dX5_whyNoRequest_65 (lay_of layc_X5) 0 rfl rfl 3 (by decide) (mw wc_178) rfl rfl 68 rfl ?_
          obtain ⟨o6, ho6, hf⟩ := bnd hf
          refine v_callUi X (ci := 8) (T := TX7) (C := RX7) (owner := "TicketGate$Table") (As := []) (rest := []) (ws' := (wX5 ad c9 s_time s_tolerance s_seed s_madeTickets s_cheesesOfText s_R_rows s_R_cells s_U_rows s_U_cells s_S_rows s_S_cells s_T_rows s_T_cells s_E_rows s_E_cells)) (c_X6_isFull l hG D c9 (fun k => ad ([7, 8].getD k 0)) 240 8 RX7 rfl layc_X7 24 10 s_T_rows s_T_cells ho6) 0 (gU wc_235 wc_236 wc_237 wc_115 wc_34 wc_116) rfl rfl rfl rfl pd_X6_isFull_UX5_whyNoRequest_97 ⟨Nat.le_of_ble_eq_true rfl, Nat.le_of_ble_eq_true rfl⟩ 7 rfl rfl rfl rfl (Nat.le_of_ble_eq_true rfl) ⟨Nat.zero_le _, Nat.zero_le _⟩ [7, 8] [0, 1, 2, 3, 4, 5, 6, 9, 10] [0, 1, 2, 3, 4, 5, 6, 9, 10, 7, 8] rfl rfl rfl rfl dX5_whyNoRequest_68 71 rfl ?_
          refine v_if_eq X (tgt := 78) dX5_whyNoRequest_71 rfl 74 rfl hf (fun hf => ?_) (fun hf => ?_)
          · refine v_iconst X dX5_whyNoRequest_78 ic_0 79 rfl ?_
            obtain rfl := Option.some.inj hf
            exact v_iret X (Nat.zero_le _) (Nat.zero_le _) dX5_whyNoRequest_79
          · refine v_iconst X dX5_whyNoRequest_74 ic_5 75 rfl ?_
            refine v_goto X (tgt := 79) dX5_whyNoRequest_75 rfl ?_
            obtain rfl := Option.some.inj hf
            exact v_iret X (Nat.zero_le _) (Nat.zero_le _) dX5_whyNoRequest_79
        · refine v_iconst X dX5_whyNoRequest_62 ic_4 63 rfl ?_
          obtain rfl := Option.some.inj hf
          exact v_iret X (Nat.zero_le _) (Nat.zero_le _) dX5_whyNoRequest_63
      · refine v_iconst X dX5_whyNoRequest_52 ic_3 53 rfl ?_
        obtain rfl := Option.some.inj hf
        exact v_iret X (Nat.zero_le _) (Nat.zero_le _) dX5_whyNoRequest_53
    · refine v_iconst X dX5_whyNoRequest_29 ic_2 30 rfl ?_
      obtain rfl := Option.some.inj hf
      exact v_iret X (Nat.zero_le _) (Nat.zero_le _) dX5_whyNoRequest_30
  · refine v_iconst X dX5_whyNoRequest_12 ic_1 13 rfl ?_
    obtain rfl := Option.some.inj hf
    exact v_iret X (Nat.zero_le _) (Nat.zero_le _) dX5_whyNoRequest_13
theorem pd_X5_whyNoRequest : yX5_whyNoRequest.cls ≠ "java/lang/invoke/MethodHandle" ∧ yX5_whyNoRequest.cls ≠ "java/lang/invoke/VarHandle" ∧ (parseMethodDescriptor yX5_whyNoRequest.desc).map (fun d => d.parameters.length) = some 2 := by decide +kernel
theorem pd_X6_get_UX5_renewedEnd_93 : "TicketGate$Table" ≠ "java/lang/invoke/MethodHandle" ∧ "TicketGate$Table" ≠ "java/lang/invoke/VarHandle" ∧ (parseMethodDescriptor "(II)I").map (fun d => d.parameters.length) = some 2 := by decide +kernel
theorem pd_X6_get_UX5_renewedEnd_86 : "TicketGate$Table" ≠ "java/lang/invoke/MethodHandle" ∧ "TicketGate$Table" ≠ "java/lang/invoke/VarHandle" ∧ (parseMethodDescriptor "(II)I").map (fun d => d.parameters.length) = some 2 := by decide +kernel
def f_X5_renewedEnd (s_time : Int32) (s_R_rows : Int32) (s_R_cells : Nat → Int32) (s_T_rows : Int32) (s_T_cells : Nat → Int32) (v1 : Int32) : Option (Int32) :=
  (f_X6_get 240 10 s_T_rows s_T_cells v1 3).bind fun o1 =>
  (f_X6_get 25 5 s_R_rows s_R_cells o1 1).bind fun o2 =>
  (f_X6_get 240 10 s_T_rows s_T_cells v1 7).bind fun o3 =>
  some ((imin (s_time + o2) o3))
set_option maxRecDepth 100000 in
set_option maxHeartbeats 4000000 in
theorem c_X5_renewedEnd (l : Launch) {G : (Nat → Prop) → State → Heap → Prop} (hG : vG G) (D : va_G) (c9 : Nat → ClassId) (ad : Nat → Nat) (s_time : Int32) (s_tolerance : Int32) (s_seed : Int32) (s_madeTickets : Int32) (s_cheesesOfText : Int32) (s_R_rows : Int32) (s_R_cells : Nat → Int32) (s_U_rows : Int32) (s_U_cells : Nat → Int32) (s_S_rows : Int32) (s_S_cells : Nat → Int32) (s_T_rows : Int32) (s_T_cells : Nat → Int32) (s_E_rows : Int32) (s_E_cells : Nat → Int32) (v1 : Int32) {o : Int32} (hf : f_X5_renewedEnd s_time s_R_rows s_R_cells s_T_rows s_T_cells v1 = some o) : mI l yX5_renewedEnd (wq yX5_renewedEnd cX5_renewedEnd 4 (some .int)) { frames := 1, cells := 0, slots := 0, locals := 40 } G D (tyA c9) [.ref (ad 0), .int v1] (wX5 ad c9 s_time s_tolerance s_seed s_madeTickets s_cheesesOfText s_R_rows s_R_cells s_U_rows s_U_cells s_S_rows s_S_cells s_T_rows s_T_cells s_E_rows s_E_cells) [] 0 0 o (wX5 ad c9 s_time s_tolerance s_seed s_madeTickets s_cheesesOfText s_R_rows s_R_cells s_U_rows s_U_cells s_S_rows s_S_cells s_T_rows s_T_cells s_E_rows s_E_cells) := by
  refine mI_of hG (cc := cX5_renewedEnd) (maxL := 4) (ty := .int) (by decide) rfl (Nat.le_of_ble_eq_true rfl) ?_
  intro p e s m args below meth c A X
  have X : vX p s m args meth c cX5_renewedEnd 4 (some .int) RX5 (wq yX5_renewedEnd cX5_renewedEnd 4 (some .int)) D (tyA c9) G A := X
  refine v_eq (lv2 := [(0, .ref (ad 0)), (1, .int v1)]) rfl rfl rfl rfl ?_
  rw [f_X5_renewedEnd] at hf
  refine v_aload_n X dX5_renewedEnd_0 0 rfl rfl 1 rfl ?_
  refine v_get X (C := RX5) (T := TX5) (N := 10) (ci := 7) (v := _) dX5_renewedEnd_1 (lay_of layc_X5) 0 rfl rfl 3 (by decide) (mw wc_178) rfl rfl 4 rfl ?_
  refine v_iload_n X dX5_renewedEnd_4 1 rfl rfl 5 rfl ?_
  refine v_iconst X dX5_renewedEnd_5 ic_3 6 rfl ?_
  obtain ⟨o1, ho1, hf⟩ := bnd hf
  refine v_callUi X (ci := 8) (T := TX7) (C := RX7) (owner := "TicketGate$Table") (As := [.int v1, .int 3]) (rest := []) (ws' := (wX5 ad c9 s_time s_tolerance s_seed s_madeTickets s_cheesesOfText s_R_rows s_R_cells s_U_rows s_U_cells s_S_rows s_S_cells s_T_rows s_T_cells s_E_rows s_E_cells)) (c_X6_get l hG D c9 (fun k => ad ([7, 8].getD k 0)) 240 8 RX7 rfl layc_X7 24 10 s_T_rows s_T_cells v1 3 ho1) 2 (gU wc_229 wc_83 wc_84 wc_33 wc_34 wc_35) rfl rfl rfl rfl pd_X6_get_UX5_renewedEnd_93 ⟨Nat.le_of_ble_eq_true rfl, Nat.le_of_ble_eq_true rfl⟩ 7 rfl rfl rfl rfl (Nat.le_of_ble_eq_true rfl) ⟨Nat.zero_le _, Nat.zero_le _⟩ [7, 8] [0, 1, 2, 3, 4, 5, 6, 9, 10] [0, 1, 2, 3, 4, 5, 6, 9, 10, 7, 8] rfl rfl rfl rfl dX5_renewedEnd_6 9 rfl ?_
  refine v_istore_n X (lv' := [(2, .int o1), (0, .ref (ad 0)), (1, .int v1)]) dX5_renewedEnd_9 rfl (by decide) rfl 10 rfl ?_
  refine v_aload_n X dX5_renewedEnd_10 1 rfl rfl 11 rfl ?_
  refine v_get X (C := RX5) (T := TX5) (N := 10) (ci := 7) (v := _) dX5_renewedEnd_11 (lay_of layc_X5) 0 rfl rfl 5 (by decide) (mw wc_186) rfl rfl 14 rfl ?_
  refine v_aload_n X dX5_renewedEnd_14 1 rfl rfl 15 rfl ?_
  refine v_get X (C := RX5) (T := TX5) (N := 10) (ci := 7) (v := _) dX5_renewedEnd_15 (lay_of layc_X5) 0 rfl rfl 0 (by decide) (mw wc_164) rfl rfl 18 rfl ?_
  refine v_iload_n X dX5_renewedEnd_18 0 rfl rfl 19 rfl ?_
  refine v_iconst X dX5_renewedEnd_19 ic_1 20 rfl ?_
  obtain ⟨o2, ho2, hf⟩ := bnd hf
  refine v_callUi X (ci := 4) (T := TX2) (C := RX2) (owner := "TicketGate$Table") (As := [.int o1, .int 1]) (rest := [.int s_time]) (ws' := (wX5 ad c9 s_time s_tolerance s_seed s_madeTickets s_cheesesOfText s_R_rows s_R_cells s_U_rows s_U_cells s_S_rows s_S_cells s_T_rows s_T_cells s_E_rows s_E_cells)) (c_X6_get l hG D c9 (fun k => ad ([1, 2].getD k 0)) 25 4 RX2 rfl layc_X2 5 5 s_R_rows s_R_cells o1 1 ho2) 2 (gU wc_225 wc_56 wc_57 wc_33 wc_34 wc_35) rfl rfl rfl rfl pd_X6_get_UX5_renewedEnd_86 ⟨Nat.le_of_ble_eq_true rfl, Nat.le_of_ble_eq_true rfl⟩ 1 rfl rfl rfl rfl (Nat.le_of_ble_eq_true rfl) ⟨Nat.zero_le _, Nat.zero_le _⟩ [1, 2] [0, 3, 4, 5, 6, 7, 8, 9, 10] [0, 9, 10, 1, 2, 3, 4, 5, 6, 7, 8] rfl rfl rfl rfl dX5_renewedEnd_20 23 rfl ?_
  refine v_iadd X dX5_renewedEnd_23 24 rfl ?_
  refine v_istore_n X (lv' := [(3, .int (s_time + o2)), (2, .int o1), (0, .ref (ad 0)), (1, .int v1)]) dX5_renewedEnd_24 rfl (by decide) rfl 25 rfl ?_
  refine v_iload_n X dX5_renewedEnd_25 0 rfl rfl 26 rfl ?_
  refine v_aload_n X dX5_renewedEnd_26 2 rfl rfl 27 rfl ?_
  refine v_get X (C := RX5) (T := TX5) (N := 10) (ci := 7) (v := _) dX5_renewedEnd_27 (lay_of layc_X5) 0 rfl rfl 3 (by decide) (mw wc_178) rfl rfl 30 rfl ?_
  refine v_iload_n X dX5_renewedEnd_30 3 rfl rfl 31 rfl ?_
  refine v_bipush X dX5_renewedEnd_31 bp_7 33 rfl ?_
  obtain ⟨o3, ho3, hf⟩ := bnd hf
  refine v_callUi X (ci := 8) (T := TX7) (C := RX7) (owner := "TicketGate$Table") (As := [.int v1, .int 7]) (rest := [.int (s_time + o2)]) (ws' := (wX5 ad c9 s_time s_tolerance s_seed s_madeTickets s_cheesesOfText s_R_rows s_R_cells s_U_rows s_U_cells s_S_rows s_S_cells s_T_rows s_T_cells s_E_rows s_E_cells)) (c_X6_get l hG D c9 (fun k => ad ([7, 8].getD k 0)) 240 8 RX7 rfl layc_X7 24 10 s_T_rows s_T_cells v1 7 ho3) 2 (gU wc_229 wc_83 wc_84 wc_33 wc_34 wc_35) rfl rfl rfl rfl pd_X6_get_UX5_renewedEnd_93 ⟨Nat.le_of_ble_eq_true rfl, Nat.le_of_ble_eq_true rfl⟩ 7 rfl rfl rfl rfl (Nat.le_of_ble_eq_true rfl) ⟨Nat.zero_le _, Nat.zero_le _⟩ [7, 8] [0, 1, 2, 3, 4, 5, 6, 9, 10] [0, 1, 2, 3, 4, 5, 6, 9, 10, 7, 8] rfl rfl rfl rfl dX5_renewedEnd_33 36 rfl ?_
  refine v_mmin X dX5_renewedEnd_36 (mw wc_247) (mw wc_24) (mw wc_25) (mw wc_26) (Nat.le_of_ble_eq_true rfl) (Nat.le_of_ble_eq_true rfl) (Nat.zero_le _) (Nat.zero_le _) 39 rfl ?_
  obtain rfl := Option.some.inj hf
  exact v_iret X (Nat.zero_le _) (Nat.zero_le _) dX5_renewedEnd_39
theorem pd_X5_renewedEnd : yX5_renewedEnd.cls ≠ "java/lang/invoke/MethodHandle" ∧ yX5_renewedEnd.cls ≠ "java/lang/invoke/VarHandle" ∧ (parseMethodDescriptor yX5_renewedEnd.desc).map (fun d => d.parameters.length) = some 1 := by decide +kernel
theorem pd_X6_get_UX5_whyNoRenewal_93 : "TicketGate$Table" ≠ "java/lang/invoke/MethodHandle" ∧ "TicketGate$Table" ≠ "java/lang/invoke/VarHandle" ∧ (parseMethodDescriptor "(II)I").map (fun d => d.parameters.length) = some 2 := by decide +kernel
def f_X5_whyNoRenewal (s_time : Int32) (s_R_rows : Int32) (s_R_cells : Nat → Int32) (s_T_rows : Int32) (s_T_cells : Nat → Int32) (v1 : Int32) : Option (Int32) :=
  (f_X7_canBeRenewed s_T_rows s_T_cells v1).bind fun o1 =>
  if o1 = 0 then (
    some (1))
  else (
    (f_X7_isAlive s_T_rows s_T_cells v1 s_time).bind fun o2 =>
    if o2 = 0 then (
      some (2))
    else (
      (f_X5_renewedEnd s_time s_R_rows s_R_cells s_T_rows s_T_cells v1).bind fun o3 =>
      (f_X6_get 240 10 s_T_rows s_T_cells v1 6).bind fun o4 =>
      if o3 ≤ o4 then (
        some (3))
      else (
        some (0))))
set_option maxRecDepth 100000 in
set_option maxHeartbeats 4000000 in
theorem c_X5_whyNoRenewal (l : Launch) {G : (Nat → Prop) → State → Heap → Prop} (hG : vG G) (D : va_G) (c9 : Nat → ClassId) (ad : Nat → Nat) (s_time : Int32) (s_tolerance : Int32) (s_seed : Int32) (s_madeTickets : Int32) (s_cheesesOfText : Int32) (s_R_rows : Int32) (s_R_cells : Nat → Int32) (s_U_rows : Int32) (s_U_cells : Nat → Int32) (s_S_rows : Int32) (s_S_cells : Nat → Int32) (s_T_rows : Int32) (s_T_cells : Nat → Int32) (s_E_rows : Int32) (s_E_cells : Nat → Int32) (v1 : Int32) {o : Int32} (hf : f_X5_whyNoRenewal s_time s_R_rows s_R_cells s_T_rows s_T_cells v1 = some o) : mI l yX5_whyNoRenewal (wq yX5_whyNoRenewal cX5_whyNoRenewal 2 (some .int)) { frames := 2, cells := 0, slots := 0, locals := 63 } G D (tyA c9) [.ref (ad 0), .int v1] (wX5 ad c9 s_time s_tolerance s_seed s_madeTickets s_cheesesOfText s_R_rows s_R_cells s_U_rows s_U_cells s_S_rows s_S_cells s_T_rows s_T_cells s_E_rows s_E_cells) [] 0 0 o (wX5 ad c9 s_time s_tolerance s_seed s_madeTickets s_cheesesOfText s_R_rows s_R_cells s_U_rows s_U_cells s_S_rows s_S_cells s_T_rows s_T_cells s_E_rows s_E_cells) := by
  refine mI_of hG (cc := cX5_whyNoRenewal) (maxL := 2) (ty := .int) (by decide) rfl (Nat.le_of_ble_eq_true rfl) ?_
  intro p e s m args below meth c A X
  have X : vX p s m args meth c cX5_whyNoRenewal 2 (some .int) RX5 (wq yX5_whyNoRenewal cX5_whyNoRenewal 2 (some .int)) D (tyA c9) G A := X
  refine v_eq (lv2 := [(0, .ref (ad 0)), (1, .int v1)]) rfl rfl rfl rfl ?_
  rw [f_X5_whyNoRenewal] at hf
  refine v_aload_n X dX5_whyNoRenewal_0 0 rfl rfl 1 rfl ?_
  refine v_get X (C := RX5) (T := TX5) (N := 10) (ci := 7) (v := _) dX5_whyNoRenewal_1 (lay_of layc_X5) 0 rfl rfl 3 (by decide) (mw wc_178) rfl rfl 4 rfl ?_
  refine v_iload_n X dX5_whyNoRenewal_4 1 rfl rfl 5 rfl ?_
  obtain ⟨o1, ho1, hf⟩ := bnd hf
  refine v_callVi X (ci := 8) (T := TX7) (C := RX7) (As := [.int v1]) (rest := []) (ws' := (wX5 ad c9 s_time s_tolerance s_seed s_madeTickets s_cheesesOfText s_R_rows s_R_cells s_U_rows s_U_cells s_S_rows s_S_cells s_T_rows s_T_cells s_E_rows s_E_cells)) (c_X7_canBeRenewed l hG D c9 (fun k => ad ([7, 8].getD k 0)) s_T_rows s_T_cells v1 ho1) 1 (gV wc_248 wc_249 wc_250 wc_91 wc_251) rfl rfl rfl ⟨rfl, pd_X7_canBeRenewed⟩ ⟨Nat.le_of_ble_eq_true rfl, Nat.le_of_ble_eq_true rfl⟩ 7 rfl rfl rfl rfl (Nat.le_of_ble_eq_true rfl) ⟨Nat.zero_le _, Nat.zero_le _⟩ [7, 8] [0, 1, 2, 3, 4, 5, 6, 9, 10] [0, 1, 2, 3, 4, 5, 6, 9, 10, 7, 8] rfl rfl rfl rfl dX5_whyNoRenewal_5 8 rfl ?_
  refine v_if_ne X (tgt := 13) dX5_whyNoRenewal_8 rfl 11 rfl hf (fun hf => ?_) (fun hf => ?_)
  · refine v_aload_n X dX5_whyNoRenewal_13 0 rfl rfl 14 rfl ?_
    refine v_get X (C := RX5) (T := TX5) (N := 10) (ci := 7) (v := _) dX5_whyNoRenewal_14 (lay_of layc_X5) 0 rfl rfl 3 (by decide) (mw wc_178) rfl rfl 17 rfl ?_
    refine v_iload_n X dX5_whyNoRenewal_17 1 rfl rfl 18 rfl ?_
    refine v_aload_n X dX5_whyNoRenewal_18 0 rfl rfl 19 rfl ?_
    refine v_get X (C := RX5) (T := TX5) (N := 10) (ci := 7) (v := _) dX5_whyNoRenewal_19 (lay_of layc_X5) 0 rfl rfl 5 (by decide) (mw wc_186) rfl rfl 22 rfl ?_
    obtain ⟨o2, ho2, hf⟩ := bnd hf
    refine v_callVi X (ci := 8) (T := TX7) (C := RX7) (As := [.int v1, .int s_time]) (rest := []) (ws' := (wX5 ad c9 s_time s_tolerance s_seed s_madeTickets s_cheesesOfText s_R_rows s_R_cells s_U_rows s_U_cells s_S_rows s_S_cells s_T_rows s_T_cells s_E_rows s_E_cells)) (c_X7_isAlive l hG D c9 (fun k => ad ([7, 8].getD k 0)) s_T_rows s_T_cells v1 s_time ho2) 2 (gV wc_238 wc_89 wc_90 wc_91 wc_92) rfl rfl rfl ⟨rfl, pd_X7_isAlive⟩ ⟨Nat.le_of_ble_eq_true rfl, Nat.le_of_ble_eq_true rfl⟩ 7 rfl rfl rfl rfl (Nat.le_of_ble_eq_true rfl) ⟨Nat.zero_le _, Nat.zero_le _⟩ [7, 8] [0, 1, 2, 3, 4, 5, 6, 9, 10] [0, 1, 2, 3, 4, 5, 6, 9, 10, 7, 8] rfl rfl rfl rfl dX5_whyNoRenewal_22 25 rfl ?_
    refine v_if_ne X (tgt := 30) dX5_whyNoRenewal_25 rfl 28 rfl hf (fun hf => ?_) (fun hf => ?_)
    · refine v_aload_n X dX5_whyNoRenewal_30 0 rfl rfl 31 rfl ?_
      refine v_iload_n X dX5_whyNoRenewal_31 1 rfl rfl 32 rfl ?_
      obtain ⟨o3, ho3, hf⟩ := bnd hf
      refine v_callVi X (ci := 7) (T := TX5) (C := RX5) (As := [.int v1]) (rest := []) (ws' := (wX5 ad c9 s_time s_tolerance s_seed s_madeTickets s_cheesesOfText s_R_rows s_R_cells s_U_rows s_U_cells s_S_rows s_S_cells s_T_rows s_T_cells s_E_rows s_E_cells)) (c_X5_renewedEnd l hG D c9 ad s_time s_tolerance s_seed s_madeTickets s_cheesesOfText s_R_rows s_R_cells s_U_rows s_U_cells s_S_rows s_S_cells s_T_rows s_T_cells s_E_rows s_E_cells v1 ho3) 1 (gV wc_252 wc_253 wc_254 wc_233 wc_255) rfl rfl rfl ⟨rfl, pd_X5_renewedEnd⟩ ⟨Nat.le_of_ble_eq_true rfl, Nat.le_of_ble_eq_true rfl⟩ 0 rfl rfl rfl rfl (Nat.le_of_ble_eq_true rfl) ⟨Nat.zero_le _, Nat.zero_le _⟩ [0, 1, 2, 3, 4, 5, 6, 7, 8, 9, 10] [] [0, 1, 2, 3, 4, 5, 6, 7, 8, 9, 10] rfl rfl rfl rfl dX5_whyNoRenewal_32 35 rfl ?_
      refine v_aload_n X dX5_whyNoRenewal_35 0 rfl rfl 36 rfl ?_
      refine v_get X (C := RX5) (T := TX5) (N := 10) (ci := 7) (v := _) dX5_whyNoRenewal_36 (lay_of layc_X5) 0 rfl rfl 3 (by decide) (mw wc_178) rfl rfl 39 rfl ?_
      refine v_iload_n X dX5_whyNoRenewal_39 1 rfl rfl 40 rfl ?_
      refine v_bipush X dX5_whyNoRenewal_40 bp_6 42 rfl ?_
      obtain ⟨o4, ho4, hf⟩ := bnd hf
      refine v_callUi X (ci := 8) (T := TX7) (C := RX7) (owner := "TicketGate$Table") (As := [.int v1, .int 6]) (rest := [.int o3]) (ws' := (wX5 ad c9 s_time s_tolerance s_seed s_madeTickets s_cheesesOfText s_R_rows s_R_cells s_U_rows s_U_cells s_S_rows s_S_cells s_T_rows s_T_cells s_E_rows s_E_cells)) (c_X6_get l hG D c9 (fun k => ad ([7, 8].getD k 0)) 240 8 RX7 rfl layc_X7 24 10 s_T_rows s_T_cells v1 6 ho4) 2 (gU wc_229 wc_83 wc_84 wc_33 wc_34 wc_35) rfl rfl rfl rfl pd_X6_get_UX5_whyNoRenewal_93 ⟨Nat.le_of_ble_eq_true rfl, Nat.le_of_ble_eq_true rfl⟩ 7 rfl rfl rfl rfl (Nat.le_of_ble_eq_true rfl) ⟨Nat.zero_le _, Nat.zero_le _⟩ [7, 8] [0, 1, 2, 3, 4, 5, 6, 9, 10] [0, 1, 2, 3, 4, 5, 6, 9, 10, 7, 8] rfl rfl rfl rfl dX5_whyNoRenewal_42 45 rfl ?_
      refine v_icmp_le X (tgt := 52) dX5_whyNoRenewal_45 rfl 48 rfl hf (fun hf => ?_) (fun hf => ?_)
      · refine v_iconst X dX5_whyNoRenewal_52 ic_3 53 rfl ?_
        obtain rfl := Option.some.inj hf
        exact v_iret X (Nat.zero_le _) (Nat.zero_le _) dX5_whyNoRenewal_53
      · refine v_iconst X dX5_whyNoRenewal_48 ic_0 49 rfl ?_
        refine v_goto X (tgt := 53) dX5_whyNoRenewal_49 rfl ?_
        obtain rfl := Option.some.inj hf
        exact v_iret X (Nat.zero_le _) (Nat.zero_le _) dX5_whyNoRenewal_53
    · refine v_iconst X dX5_whyNoRenewal_28 ic_2 29 rfl ?_
      obtain rfl := Option.some.inj hf
      exact v_iret X (Nat.zero_le _) (Nat.zero_le _) dX5_whyNoRenewal_29
  · refine v_iconst X dX5_whyNoRenewal_11 ic_1 12 rfl ?_
    obtain rfl := Option.some.inj hf
    exact v_iret X (Nat.zero_le _) (Nat.zero_le _) dX5_whyNoRenewal_12
theorem pd_X5_whyNoRenewal : yX5_whyNoRenewal.cls ≠ "java/lang/invoke/MethodHandle" ∧ yX5_whyNoRenewal.cls ≠ "java/lang/invoke/VarHandle" ∧ (parseMethodDescriptor yX5_whyNoRenewal.desc).map (fun d => d.parameters.length) = some 1 := by decide +kernel
theorem pd_X6_get_UX5_whyNoCheese_93 : "TicketGate$Table" ≠ "java/lang/invoke/MethodHandle" ∧ "TicketGate$Table" ≠ "java/lang/invoke/VarHandle" ∧ (parseMethodDescriptor "(II)I").map (fun d => d.parameters.length) = some 2 := by decide +kernel
theorem pd_X6_get_UX5_whyNoCheese_83 : "TicketGate$Table" ≠ "java/lang/invoke/MethodHandle" ∧ "TicketGate$Table" ≠ "java/lang/invoke/VarHandle" ∧ (parseMethodDescriptor "(II)I").map (fun d => d.parameters.length) = some 2 := by decide +kernel
theorem pd_X6_get_UX5_whyNoCheese_112 : "TicketGate$Table" ≠ "java/lang/invoke/MethodHandle" ∧ "TicketGate$Table" ≠ "java/lang/invoke/VarHandle" ∧ (parseMethodDescriptor "(II)I").map (fun d => d.parameters.length) = some 2 := by decide +kernel
def f_X5_whyNoCheese (s_time : Int32) (s_tolerance : Int32) (s_R_rows : Int32) (s_R_cells : Nat → Int32) (s_U_rows : Int32) (s_U_cells : Nat → Int32) (s_S_rows : Int32) (s_S_cells : Nat → Int32) (s_T_rows : Int32) (s_T_cells : Nat → Int32) (s_E_rows : Int32) (s_E_cells : Nat → Int32) (v1 : Int32) (v2 : Int32) : Option (Int32) :=
  (f_X6_get 240 10 s_T_rows s_T_cells v1 2).bind fun o1 =>
  (f_X6_get 240 10 s_T_rows s_T_cells v1 4).bind fun o2 =>
  (f_X6_get 240 10 s_T_rows s_T_cells v1 1).bind fun o3 =>
  if o3 = 1 then (
    (f_X7_isAlive s_T_rows s_T_cells v1 (s_time + v2)).bind fun o4 =>
    if o4 = 0 then (
      some (2))
    else (
      (f_X5_isSkewed s_tolerance s_R_rows s_R_cells s_U_rows s_U_cells s_T_rows s_T_cells v1).bind fun o5 =>
      if o5 = 0 then (
        (f_X6_get 30 5 s_U_rows s_U_cells o1 3).bind fun o6 =>
        (f_X9_knows s_E_rows s_E_cells o1 o2 ((s_time + v2) + o6) ((s_time + v2) - s_tolerance)).bind fun o7 =>
        if o7 = 0 then (
          (f_X6_get 18 3 s_S_rows s_S_cells o2 2).bind fun o8 =>
          if o8 = 0 then (
            some (5))
          else (
            some (0)))
        else (
          some (4)))
      else (
        some (3))))
  else (
    some (1))
set_option maxRecDepth 100000 in
set_option maxHeartbeats 4000000 in
theorem c_X5_whyNoCheese (l : Launch) {G : (Nat → Prop) → State → Heap → Prop} (hG : vG G) (D : va_G) (c9 : Nat → ClassId) (ad : Nat → Nat) (s_time : Int32) (s_tolerance : Int32) (s_seed : Int32) (s_madeTickets : Int32) (s_cheesesOfText : Int32) (s_R_rows : Int32) (s_R_cells : Nat → Int32) (s_U_rows : Int32) (s_U_cells : Nat → Int32) (s_S_rows : Int32) (s_S_cells : Nat → Int32) (s_T_rows : Int32) (s_T_cells : Nat → Int32) (s_E_rows : Int32) (s_E_cells : Nat → Int32) (v1 : Int32) (v2 : Int32) {o : Int32} (hf : f_X5_whyNoCheese s_time s_tolerance s_R_rows s_R_cells s_U_rows s_U_cells s_S_rows s_S_cells s_T_rows s_T_cells s_E_rows s_E_cells v1 v2 = some o) : mI l yX5_whyNoCheese (wq yX5_whyNoCheese cX5_whyNoCheese 6 (some .int)) { frames := 3, cells := 0, slots := 0, locals := 84 } G D (tyA c9) [.ref (ad 0), .int v1, .int v2] (wX5 ad c9 s_time s_tolerance s_seed s_madeTickets s_cheesesOfText s_R_rows s_R_cells s_U_rows s_U_cells s_S_rows s_S_cells s_T_rows s_T_cells s_E_rows s_E_cells) [] 0 0 o (wX5 ad c9 s_time s_tolerance s_seed s_madeTickets s_cheesesOfText s_R_rows s_R_cells s_U_rows s_U_cells s_S_rows s_S_cells s_T_rows s_T_cells s_E_rows s_E_cells) := by
  refine mI_of hG (cc := cX5_whyNoCheese) (maxL := 6) (ty := .int) (by decide) rfl (Nat.le_of_ble_eq_true rfl) ?_
  intro p e s m args below meth c A X
  have X : vX p s m args meth c cX5_whyNoCheese 6 (some .int) RX5 (wq yX5_whyNoCheese cX5_whyNoCheese 6 (some .int)) D (tyA c9) G A := X
  refine v_eq (lv2 := [(0, .ref (ad 0)), (1, .int v1), (2, .int v2)]) rfl rfl rfl rfl ?_
  rw [f_X5_whyNoCheese] at hf
  refine v_aload_n X dX5_whyNoCheese_0 0 rfl rfl 1 rfl ?_
  refine v_get X (C := RX5) (T := TX5) (N := 10) (ci := 7) (v := _) dX5_whyNoCheese_1 (lay_of layc_X5) 0 rfl rfl 5 (by decide) (mw wc_186) rfl rfl 4 rfl ?_
  refine v_iload_n X dX5_whyNoCheese_4 2 rfl rfl 5 rfl ?_
  refine v_iadd X dX5_whyNoCheese_5 6 rfl ?_
  refine v_istore_n X (lv' := [(3, .int (s_time + v2)), (0, .ref (ad 0)), (1, .int v1), (2, .int v2)]) dX5_whyNoCheese_6 rfl (by decide) rfl 7 rfl ?_
  refine v_aload_n X dX5_whyNoCheese_7 1 rfl rfl 8 rfl ?_
  refine v_get X (C := RX5) (T := TX5) (N := 10) (ci := 7) (v := _) dX5_whyNoCheese_8 (lay_of layc_X5) 0 rfl rfl 3 (by decide) (mw wc_178) rfl rfl 11 rfl ?_
  refine v_iload_n X dX5_whyNoCheese_11 2 rfl rfl 12 rfl ?_
  refine v_iconst X dX5_whyNoCheese_12 ic_2 13 rfl ?_
  obtain ⟨o1, ho1, hf⟩ := bnd hf
  refine v_callUi X (ci := 8) (T := TX7) (C := RX7) (owner := "TicketGate$Table") (As := [.int v1, .int 2]) (rest := []) (ws' := (wX5 ad c9 s_time s_tolerance s_seed s_madeTickets s_cheesesOfText s_R_rows s_R_cells s_U_rows s_U_cells s_S_rows s_S_cells s_T_rows s_T_cells s_E_rows s_E_cells)) (c_X6_get l hG D c9 (fun k => ad ([7, 8].getD k 0)) 240 8 RX7 rfl layc_X7 24 10 s_T_rows s_T_cells v1 2 ho1) 2 (gU wc_229 wc_83 wc_84 wc_33 wc_34 wc_35) rfl rfl rfl rfl pd_X6_get_UX5_whyNoCheese_93 ⟨Nat.le_of_ble_eq_true rfl, Nat.le_of_ble_eq_true rfl⟩ 7 rfl rfl rfl rfl (Nat.le_of_ble_eq_true rfl) ⟨Nat.zero_le _, Nat.zero_le _⟩ [7, 8] [0, 1, 2, 3, 4, 5, 6, 9, 10] [0, 1, 2, 3, 4, 5, 6, 9, 10, 7, 8] rfl rfl rfl rfl dX5_whyNoCheese_13 16 rfl ?_
  refine v_istore X (lv' := [(4, .int o1), (3, .int (s_time + v2)), (0, .ref (ad 0)), (1, .int v1), (2, .int v2)]) dX5_whyNoCheese_16 (by decide) rfl 18 rfl ?_
  refine v_aload_n X dX5_whyNoCheese_18 2 rfl rfl 19 rfl ?_
  refine v_get X (C := RX5) (T := TX5) (N := 10) (ci := 7) (v := _) dX5_whyNoCheese_19 (lay_of layc_X5) 0 rfl rfl 3 (by decide) (mw wc_178) rfl rfl 22 rfl ?_
  refine v_iload_n X dX5_whyNoCheese_22 3 rfl rfl 23 rfl ?_
  refine v_iconst X dX5_whyNoCheese_23 ic_4 24 rfl ?_
  obtain ⟨o2, ho2, hf⟩ := bnd hf
  refine v_callUi X (ci := 8) (T := TX7) (C := RX7) (owner := "TicketGate$Table") (As := [.int v1, .int 4]) (rest := []) (ws' := (wX5 ad c9 s_time s_tolerance s_seed s_madeTickets s_cheesesOfText s_R_rows s_R_cells s_U_rows s_U_cells s_S_rows s_S_cells s_T_rows s_T_cells s_E_rows s_E_cells)) (c_X6_get l hG D c9 (fun k => ad ([7, 8].getD k 0)) 240 8 RX7 rfl layc_X7 24 10 s_T_rows s_T_cells v1 4 ho2) 2 (gU wc_229 wc_83 wc_84 wc_33 wc_34 wc_35) rfl rfl rfl rfl pd_X6_get_UX5_whyNoCheese_93 ⟨Nat.le_of_ble_eq_true rfl, Nat.le_of_ble_eq_true rfl⟩ 7 rfl rfl rfl rfl (Nat.le_of_ble_eq_true rfl) ⟨Nat.zero_le _, Nat.zero_le _⟩ [7, 8] [0, 1, 2, 3, 4, 5, 6, 9, 10] [0, 1, 2, 3, 4, 5, 6, 9, 10, 7, 8] rfl rfl rfl rfl dX5_whyNoCheese_24 27 rfl ?_
  refine v_istore X (lv' := [(5, .int o2), (4, .int o1), (3, .int (s_time + v2)), (0, .ref (ad 0)), (1, .int v1), (2, .int v2)]) dX5_whyNoCheese_27 (by decide) rfl 29 rfl ?_
  refine v_aload_n X dX5_whyNoCheese_29 3 rfl rfl 30 rfl ?_
  refine v_get X (C := RX5) (T := TX5) (N := 10) (ci := 7) (v := _) dX5_whyNoCheese_30 (lay_of layc_X5) 0 rfl rfl 3 (by decide) (mw wc_178) rfl rfl 33 rfl ?_
  refine v_iload_n X dX5_whyNoCheese_33 4 rfl rfl 34 rfl ?_
  refine v_iconst X dX5_whyNoCheese_34 ic_1 35 rfl ?_
  obtain ⟨o3, ho3, hf⟩ := bnd hf
  refine v_callUi X (ci := 8) (T := TX7) (C := RX7) (owner := "TicketGate$Table") (As := [.int v1, .int 1]) (rest := []) (ws' := (wX5 ad c9 s_time s_tolerance s_seed s_madeTickets s_cheesesOfText s_R_rows s_R_cells s_U_rows s_U_cells s_S_rows s_S_cells s_T_rows s_T_cells s_E_rows s_E_cells)) (c_X6_get l hG D c9 (fun k => ad ([7, 8].getD k 0)) 240 8 RX7 rfl layc_X7 24 10 s_T_rows s_T_cells v1 1 ho3) 2 (gU wc_229 wc_83 wc_84 wc_33 wc_34 wc_35) rfl rfl rfl rfl pd_X6_get_UX5_whyNoCheese_93 ⟨Nat.le_of_ble_eq_true rfl, Nat.le_of_ble_eq_true rfl⟩ 7 rfl rfl rfl rfl (Nat.le_of_ble_eq_true rfl) ⟨Nat.zero_le _, Nat.zero_le _⟩ [7, 8] [0, 1, 2, 3, 4, 5, 6, 9, 10] [0, 1, 2, 3, 4, 5, 6, 9, 10, 7, 8] rfl rfl rfl rfl dX5_whyNoCheese_35 38 rfl ?_
  refine v_iconst X dX5_whyNoCheese_38 ic_1 39 rfl ?_
  refine v_icmp_eq X (tgt := 44) dX5_whyNoCheese_39 rfl 42 rfl hf (fun hf => ?_) (fun hf => ?_)
  · refine v_aload_n X dX5_whyNoCheese_44 3 rfl rfl 45 rfl ?_
    refine v_get X (C := RX5) (T := TX5) (N := 10) (ci := 7) (v := _) dX5_whyNoCheese_45 (lay_of layc_X5) 0 rfl rfl 3 (by decide) (mw wc_178) rfl rfl 48 rfl ?_
    refine v_iload_n X dX5_whyNoCheese_48 4 rfl rfl 49 rfl ?_
    refine v_iload_n X dX5_whyNoCheese_49 2 rfl rfl 50 rfl ?_
    obtain ⟨o4, ho4, hf⟩ := bnd hf
    refine v_callVi X (ci := 8) (T := TX7) (C := RX7) (As := [.int v1, .int (s_time + v2)]) (rest := []) (ws' := (wX5 ad c9 s_time s_tolerance s_seed s_madeTickets s_cheesesOfText s_R_rows s_R_cells s_U_rows s_U_cells s_S_rows s_S_cells s_T_rows s_T_cells s_E_rows s_E_cells)) (c_X7_isAlive l hG D c9 (fun k => ad ([7, 8].getD k 0)) s_T_rows s_T_cells v1 (s_time + v2) ho4) 2 (gV wc_238 wc_89 wc_90 wc_91 wc_92) rfl rfl rfl ⟨rfl, pd_X7_isAlive⟩ ⟨Nat.le_of_ble_eq_true rfl, Nat.le_of_ble_eq_true rfl⟩ 7 rfl rfl rfl rfl (Nat.le_of_ble_eq_true rfl) ⟨Nat.zero_le _, Nat.zero_le _⟩ [7, 8] [0, 1, 2, 3, 4, 5, 6, 9, 10] [0, 1, 2, 3, 4, 5, 6, 9, 10, 7, 8] rfl rfl rfl rfl dX5_whyNoCheese_50 53 rfl ?_
    refine v_if_ne X (tgt := 58) dX5_whyNoCheese_53 rfl 56 rfl hf (fun hf => ?_) (fun hf => ?_)
    · refine v_aload_n X dX5_whyNoCheese_58 3 rfl rfl 59 rfl ?_
      refine v_iload_n X dX5_whyNoCheese_59 4 rfl rfl 60 rfl ?_
      obtain ⟨o5, ho5, hf⟩ := bnd hf
      refine v_callVi X (ci := 7) (T := TX5) (C := RX5) (As := [.int v1]) (rest := []) (ws' := (wX5 ad c9 s_time s_tolerance s_seed s_madeTickets s_cheesesOfText s_R_rows s_R_cells s_U_rows s_U_cells s_S_rows s_S_cells s_T_rows s_T_cells s_E_rows s_E_cells)) (c_X5_isSkewed l hG D c9 ad s_time s_tolerance s_seed s_madeTickets s_cheesesOfText s_R_rows s_R_cells s_U_rows s_U_cells s_S_rows s_S_cells s_T_rows s_T_cells s_E_rows s_E_cells v1 ho5) 1 (gV wc_240 wc_241 wc_242 wc_233 wc_243) rfl rfl rfl ⟨rfl, pd_X5_isSkewed⟩ ⟨Nat.le_of_ble_eq_true rfl, Nat.le_of_ble_eq_true rfl⟩ 0 rfl rfl rfl rfl (Nat.le_of_ble_eq_true rfl) ⟨Nat.zero_le _, Nat.zero_le _⟩ [0, 1, 2, 3, 4, 5, 6, 7, 8, 9, 10] [] [0, 1, 2, 3, 4, 5, 6, 7, 8, 9, 10] rfl rfl rfl rfl dX5_whyNoCheese_60 63 rfl ?_
      refine v_if_eq X (tgt := 68) dX5_whyNoCheese_63 rfl 66 rfl hf (fun hf => ?_) (fun hf => ?_)
      · refine v_aload_n X dX5_whyNoCheese_68 3 rfl rfl 69 rfl ?_
        refine v_get X (C := RX5) (T := TX5) (N := 10) (ci := 7) (v := _) dX5_whyNoCheese_69 (lay_of layc_X5) 0 rfl rfl 4 (by decide) (mw wc_182) rfl rfl 72 rfl ?_
        refine v_iload X dX5_whyNoCheese_72 1 rfl 74 rfl ?_
        refine v_iload X dX5_whyNoCheese_74 0 rfl 76 rfl ?_
        refine v_iload_n X dX5_whyNoCheese_76 2 rfl rfl 77 rfl ?_
        refine v_aload_n X dX5_whyNoCheese_77 3 rfl rfl 78 rfl ?_
        refine v_get X (C := RX5) (T := TX5) (N := 10) (ci := 7) (v := _) dX5_whyNoCheese_78 (lay_of layc_X5) 0 rfl rfl 1 (by decide) (mw wc_170) rfl rfl 81 rfl ?_
        refine v_iload X dX5_whyNoCheese_81 1 rfl 83 rfl ?_
        refine v_iconst X dX5_whyNoCheese_83 ic_3 84 rfl ?_
        obtain ⟨o6, ho6, hf⟩ := bnd hf
        refine v_callUi X (ci := 9) (T := TX8) (C := RX8) (owner := "TicketGate$Table") (As := [.int o1, .int 3]) (rest := [.int (s_time + v2), .int o2, .int o1, .ref (ad 9)]) (ws' := (wX5 ad c9 s_time s_tolerance s_seed s_madeTickets s_cheesesOfText s_R_rows s_R_cells s_U_rows s_U_cells s_S_rows s_S_cells s_T_rows s_T_cells s_E_rows s_E_cells)) (c_X6_get l hG D c9 (fun k => ad ([3, 4].getD k 0)) 30 9 RX8 rfl layc_X8 6 5 s_U_rows s_U_cells o1 3 ho6) 2 (gU wc_222 wc_223 wc_224 wc_33 wc_34 wc_35) rfl rfl rfl rfl pd_X6_get_UX5_whyNoCheese_83 ⟨Nat.le_of_ble_eq_true rfl, Nat.le_of_ble_eq_true rfl⟩ 3 rfl rfl rfl rfl (Nat.le_of_ble_eq_true rfl) ⟨Nat.zero_le _, Nat.zero_le _⟩ [3, 4] [0, 1, 2, 5, 6, 7, 8, 9, 10] [0, 1, 2, 9, 10, 3, 4, 5, 6, 7, 8] rfl rfl rfl rfl dX5_whyNoCheese_84 87 rfl ?_
        refine v_iadd X dX5_whyNoCheese_87 88 rfl ?_
        refine v_iload_n X dX5_whyNoCheese_88 2 rfl rfl 89 rfl ?_
        refine v_aload_n X dX5_whyNoCheese_89 3 rfl rfl 90 rfl ?_
        refine v_get X (C := RX5) (T := TX5) (N := 10) (ci := 7) (v := _) dX5_whyNoCheese_90 (lay_of layc_X5) 0 rfl rfl 6 (by decide) (mw wc_187) rfl rfl 93 rfl ?_
        refine v_isub X dX5_whyNoCheese_93 94 rfl ?_
        obtain ⟨o7, ho7, hf⟩ := bnd hf
        refine v_callVi X (ci := 10) (T := TX9) (C := RX9) (As := [.int o1, .int o2, .int ((s_time + v2) + o6), .int ((s_time + v2) - s_tolerance)]) (rest := []) (ws' := (wX5 ad c9 s_time s_tolerance s_seed s_madeTickets s_cheesesOfText s_R_rows s_R_cells s_U_rows s_U_cells s_S_rows s_S_cells s_T_rows s_T_cells s_E_rows s_E_cells)) (c_X9_knows l hG D c9 (fun k => ad ([9, 10].getD k 0)) s_E_rows s_E_cells o1 o2 ((s_time + v2) + o6) ((s_time + v2) - s_tolerance) ho7) 4 (gV wc_256 wc_257 wc_258 wc_259 wc_260) rfl rfl rfl ⟨rfl, pd_X9_knows⟩ ⟨Nat.le_of_ble_eq_true rfl, Nat.le_of_ble_eq_true rfl⟩ 9 rfl rfl rfl rfl (Nat.le_of_ble_eq_true rfl) ⟨Nat.zero_le _, Nat.zero_le _⟩ [9, 10] [0, 1, 2, 3, 4, 5, 6, 7, 8] [0, 1, 2, 3, 4, 5, 6, 7, 8, 9, 10] rfl rfl rfl rfl dX5_whyNoCheese_94 97 rfl ?_
        refine v_if_eq X (tgt := 102) dX5_whyNoCheese_97 rfl 100 rfl hf (fun hf => ?_) (fun hf => ?_)
        · refine v_aload_n X dX5_whyNoCheese_102 3 rfl rfl 103 rfl ?_
          refine v_get X (C := RX5) (T := TX5) (N := 10) (ci := 7) (v := _) dX5_whyNoCheese_103 (lay_of layc_X5) 0 rfl rfl 2 (by decide) (mw wc_174) rfl rfl 106 rfl ?_
          refine v_iload X dX5_whyNoCheese_106 0 rfl 108 rfl ?_
          refine v_iconst X dX5_whyNoCheese_108 ic_2 109 rfl ?_
          obtain ⟨o8, ho8, hf⟩ := bnd hf
          refine v_callUi X (ci := 5) (T := TX3) (C := RX3) (owner := "TicketGate$Table") (As := [.int o2, .int 2]) (rest := []) (ws' := (wX5 ad c9 s_time s_tolerance s_seed s_madeTickets s_cheesesOfText s_R_rows s_R_cells s_U_rows s_U_cells s_S_rows s_S_cells s_T_rows s_T_cells s_E_rows s_E_cells)) (c_X6_get l hG D c9 (fun k => ad ([5, 6].getD k 0)) 18 5 RX3 rfl layc_X3 6 3 s_S_rows s_S_cells o2 2 ho8) 2 (gU wc_244 wc_245 wc_246 wc_33 wc_34 wc_35) rfl rfl rfl rfl pd_X6_get_UX5_whyNoCheese_112 ⟨Nat.le_of_ble_eq_true rfl, Nat.le_of_ble_eq_true rfl⟩ 5 rfl rfl rfl rfl (Nat.le_of_ble_eq_true rfl) ⟨Nat.zero_le _, Nat.zero_le _⟩ [5, 6] [0, 1, 2, 3, 4, 7, 8, 9, 10] [0, 1, 2, 3, 4, 9, 10, 5, 6, 7, 8] rfl rfl rfl rfl dX5_whyNoCheese_109 112 rfl ?_
          refine v_if_ne X (tgt := 119) dX5_whyNoCheese_112 rfl 115 rfl hf (fun hf => ?_) (fun hf => ?_)
          · refine v_iconst X dX5_whyNoCheese_119 ic_0 120 rfl ?_
            obtain rfl := Option.some.inj hf
            exact v_iret X (Nat.zero_le _) (Nat.zero_le _) dX5_whyNoCheese_120
          · refine v_iconst X dX5_whyNoCheese_115 ic_5 116 rfl ?_
            refine v_goto X (tgt := 120) dX5_whyNoCheese_116 rfl ?_
            obtain rfl := Option.some.inj hf
            exact v_iret X (Nat.zero_le _) (Nat.zero_le _) dX5_whyNoCheese_120
        · refine v_iconst X dX5_whyNoCheese_100 ic_4 101 rfl ?_
          obtain rfl := Option.some.inj hf
          exact v_iret X (Nat.zero_le _) (Nat.zero_le _) dX5_whyNoCheese_101
      · refine v_iconst X dX5_whyNoCheese_66 ic_3 67 rfl ?_
        obtain rfl := Option.some.inj hf
        exact v_iret X (Nat.zero_le _) (Nat.zero_le _) dX5_whyNoCheese_67
    · refine v_iconst X dX5_whyNoCheese_56 ic_2 57 rfl ?_
      obtain rfl := Option.some.inj hf
      exact v_iret X (Nat.zero_le _) (Nat.zero_le _) dX5_whyNoCheese_57
  · refine v_iconst X dX5_whyNoCheese_42 ic_1 43 rfl ?_
    obtain rfl := Option.some.inj hf
    exact v_iret X (Nat.zero_le _) (Nat.zero_le _) dX5_whyNoCheese_43
theorem pd_X5_whyNoCheese : yX5_whyNoCheese.cls ≠ "java/lang/invoke/MethodHandle" ∧ yX5_whyNoCheese.cls ≠ "java/lang/invoke/VarHandle" ∧ (parseMethodDescriptor yX5_whyNoCheese.desc).map (fun d => d.parameters.length) = some 2 := by decide +kernel
def f_X5_drawKey (s_seed : Int32) : Option (Int32 × Int32) :=
  some ((irm ((21 * s_seed) + 7) 1024), (irm ((21 * s_seed) + 7) 1024))
set_option maxRecDepth 100000 in
set_option maxHeartbeats 4000000 in
theorem c_X5_drawKey (l : Launch) {G : (Nat → Prop) → State → Heap → Prop} (hG : vG G) (D : va_G) (c9 : Nat → ClassId) (ad : Nat → Nat) (s_time : Int32) (s_tolerance : Int32) (s_seed : Int32) (s_madeTickets : Int32) (s_cheesesOfText : Int32) (s_R_rows : Int32) (s_R_cells : Nat → Int32) (s_U_rows : Int32) (s_U_cells : Nat → Int32) (s_S_rows : Int32) (s_S_cells : Nat → Int32) (s_T_rows : Int32) (s_T_cells : Nat → Int32) (s_E_rows : Int32) (s_E_cells : Nat → Int32)  {o : Int32 × Int32} (hf : f_X5_drawKey s_seed = some o) : mI l yX5_drawKey (wq yX5_drawKey cX5_drawKey 1 (some .int)) { frames := 0, cells := 0, slots := 0, locals := 0 } G D (tyA c9) [.ref (ad 0)] (wX5 ad c9 s_time s_tolerance s_seed s_madeTickets s_cheesesOfText s_R_rows s_R_cells s_U_rows s_U_cells s_S_rows s_S_cells s_T_rows s_T_cells s_E_rows s_E_cells) [] 0 0 o.1 (wX5 ad c9 s_time s_tolerance o.2 s_madeTickets s_cheesesOfText s_R_rows s_R_cells s_U_rows s_U_cells s_S_rows s_S_cells s_T_rows s_T_cells s_E_rows s_E_cells) := by
  refine mI_of hG (cc := cX5_drawKey) (maxL := 1) (ty := .int) (by decide) rfl (Nat.le_of_ble_eq_true rfl) ?_
  intro p e s m args below meth c A X
  have X : vX p s m args meth c cX5_drawKey 1 (some .int) RX5 (wq yX5_drawKey cX5_drawKey 1 (some .int)) D (tyA c9) G A := X
  refine v_eq (lv2 := [(0, .ref (ad 0))]) rfl rfl rfl rfl ?_
  rw [f_X5_drawKey] at hf
  refine v_aload_n X dX5_drawKey_0 0 rfl rfl 1 rfl ?_
  refine v_bipush X dX5_drawKey_1 bp_21 3 rfl ?_
  refine v_aload_n X dX5_drawKey_3 0 rfl rfl 4 rfl ?_
  refine v_get X (C := RX5) (T := TX5) (N := 10) (ci := 7) (v := _) dX5_drawKey_4 (lay_of layc_X5) 0 rfl rfl 7 (by decide) (mw wc_188) rfl rfl 7 rfl ?_
  refine v_imul X dX5_drawKey_7 8 rfl ?_
  refine v_bipush X dX5_drawKey_8 bp_7 10 rfl ?_
  refine v_iadd X dX5_drawKey_10 11 rfl ?_
  refine v_sipush X dX5_drawKey_11 sp_1024 14 rfl ?_
  refine v_irem X dX5_drawKey_14 (by decide) 15 rfl ?_
  refine v_put X (C := RX5) (T := TX5) (N := 10) (ci := 7) (ty := tyX5 7) (ws' := (wX5 ad c9 s_time s_tolerance (irm ((21 * s_seed) + 7) 1024) s_madeTickets s_cheesesOfText s_R_rows s_R_cells s_U_rows s_U_cells s_S_rows s_S_cells s_T_rows s_T_cells s_E_rows s_E_cells)) dX5_drawKey_15 (lay_of layc_X5) 0 rfl rfl 7 (by decide) tyX5 tyX5_ok nmX5 (mw wc_188) rfl rfl (tyX5_ok 7 (by decide)) rfl rfl (Nat.le_of_ble_eq_true rfl) rfl 18 rfl ?_
  refine v_aload_n X dX5_drawKey_18 0 rfl rfl 19 rfl ?_
  refine v_get X (C := RX5) (T := TX5) (N := 10) (ci := 7) (v := _) dX5_drawKey_19 (lay_of layc_X5) 0 rfl rfl 7 (by decide) (mw wc_188) rfl rfl 22 rfl ?_
  obtain rfl := Option.some.inj hf
  exact v_iret X (Nat.zero_le _) (Nat.zero_le _) dX5_drawKey_22
theorem pd_X5_drawKey : yX5_drawKey.cls ≠ "java/lang/invoke/MethodHandle" ∧ yX5_drawKey.cls ≠ "java/lang/invoke/VarHandle" ∧ (parseMethodDescriptor yX5_drawKey.desc).map (fun d => d.parameters.length) = some 0 := by decide +kernel
