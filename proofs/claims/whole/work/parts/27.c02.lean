set_option maxRecDepth 100000 in
set_option maxHeartbeats 4000000 in
theorem w_21 (l : Launch) {G : (Nat → Prop) → State → Heap → Prop} (hG : vG G) (hl0 : l.stackTraces = false) (hNC : ∀ (A : Nat → Prop) (U : State) (H : Heap), G A U H → ∀ q ∈ ncL, va_Nc q.1 q.2 U) (D : va_G) (c9 : Nat → ClassId) (sk sv : Nat → Nat) (hGU : ∀ (A : Nat → Prop) (U : State) (H : Heap), G A U H → vU sk sv A U H) (ad am : Nat → Nat) (ao b L : Nat) (xs : Nat → Int32) {p : Program} {e : Env} {s : State} {mm : MethodId} {args : Array Value} {below : List Frame} {meth : Method} {c : Code} {A : Nat → Prop} {Q : State → Prop} (X : vX p s mm args meth c cL_law 9 (some .boolean) RL (Cond.tt :: Wg) D (tyA c9) G A) (hX : va_X b L xs s s.heap) (hbl : b < s.heap.size) (hbA : ¬ A b) (REL : FX → FM → Prop) (hk : H21 REL) (n : Nat) (hn : n + 6 ≤ L) (hL : L ≤ 3072) (x : FX) (m : FM) (hR : REL x m) (asl apa : Nat → Nat → Nat) (fo : Nat → Int64) (nC nS : Nat) (hC : nC + 14 ≤ 601024) (hS : nS + 481 ≤ 7293034) (K : ∀ (x' : FX) (m' : FM) (asl' apa' : Nat → Nat → Nat) (fo' : Nat → Int64), REL x' m' → vW p l e room_1 s mm args below meth c 9 D A (wLF c9 x'.sl asl' x'.pa apa' ao fo' (wMf am c9 m')) (nC + 14) (nS + 481) Q (wXf ad c9 x' asl' apa') 3452 [(0, .ref b), (1, .ref (ad 0)), (2, .ref (am 0)), (3, .ref ao), (4, .int (nlaw n))] []) : vW p l e room_1 s mm args below meth c 9 D A (wLF c9 x.sl asl x.pa apa ao fo (wMf am c9 m)) nC nS Q (wXf ad c9 x asl apa) 1235 [(0, .ref b), (1, .ref (ad 0)), (2, .ref (am 0)), (3, .ref ao), (4, .int (nlaw n))] [] := by
  obtain ⟨ox, om, hx, hm, hv, hR1⟩ := hk x m hR
  refine v_aload_n X dL_law_1235 1 rfl rfl 1236 rfl ?_
  refine v_callVi X (C := RX11) (ci := 10) (T := TX11) (As := []) (rest := []) (ws' := wX11 ad c9 x.nextPast x.pastCount x.i_count x.i_cells x.o_count x.o_cells x.p_start x.p_end x.p_kind x.p_value x.p_error x.p_errorAt x.p_d_time x.p_d_tolerance x.p_d_seed x.p_d_madeTickets x.p_d_cheesesOfText x.p_d_R_rows x.p_d_R_cells x.p_d_U_rows x.p_d_U_cells x.p_d_S_rows x.p_d_S_cells x.p_d_T_rows x.p_d_T_cells x.p_d_E_rows x.p_d_E_cells x.s_time x.s_tolerance x.s_seed x.s_madeTickets x.s_cheesesOfText x.s_R_rows x.s_R_cells x.s_U_rows x.s_U_cells x.s_S_rows x.s_S_cells x.s_T_rows x.s_T_cells x.s_E_rows x.s_E_cells x.sl asl x.pa apa) (c_X11_ticketCount l hG D c9 ad x.nextPast x.pastCount x.i_count x.i_cells x.o_count x.o_cells x.p_start x.p_end x.p_kind x.p_value x.p_error x.p_errorAt x.p_d_time x.p_d_tolerance x.p_d_seed x.p_d_madeTickets x.p_d_cheesesOfText x.p_d_R_rows x.p_d_R_cells x.p_d_U_rows x.p_d_U_cells x.p_d_S_rows x.p_d_S_cells x.p_d_T_rows x.p_d_T_cells x.p_d_E_rows x.p_d_E_cells x.s_time x.s_tolerance x.s_seed x.s_madeTickets x.s_cheesesOfText x.s_R_rows x.s_R_cells x.s_U_rows x.s_U_cells x.s_S_rows x.s_S_cells x.s_T_rows x.s_T_cells x.s_E_rows x.s_E_cells x.sl asl x.pa apa hx) 0 (gV wbd_162 wbd_163 wbd_164 wbd_30 wbd_165) rfl rfl rfl ⟨rfl, pd_X11_ticketCount⟩ ⟨Nat.le_of_ble_eq_true rfl, Nat.le_of_ble_eq_true rfl⟩ 0 rfl rfl rfl rfl (Nat.le_of_ble_eq_true rfl) ⟨show nC + 0 ≤ 601024 by omega, show nS + 0 ≤ 7293034 by omega⟩ [0, 1, 2, 3, 4, 5, 6, 7, 8, 9, 10, 11, 12, 13, 14, 15, 16, 17, 18, 19, 20, 21, 22, 23, 24, 25, 26, 27, 28, 29, 30, 31] [] [0, 1, 2, 3, 4, 5, 6, 7, 8, 9, 10, 11, 12, 13, 14, 15, 16, 17, 18, 19, 20, 21, 22, 23, 24, 25, 26, 27, 28, 29, 30, 31] rfl rfl rfl rfl dL_law_1236 1239 rfl ?_
  refine v_toM ?_
  refine v_aload_n X dL_law_1239 2 rfl rfl 1240 rfl ?_
  refine v_callVi X (C := RX12) (ci := 11) (T := TX12) (As := []) (rest := [.int ox]) (ws' := wX12 am c9 m.m_undoable m.m_undoStart om.2 m.m_inputLength m.m_position m.m_start m.m_token m.m_value m.m_letters m.m_code m.m_place m.m_outputLength m.m_s m.m_parsed m.m_tried m.m_remembered m.m_slots m.m_kept m.m_away m.m_input m.m_halfway m.m_output) (c_X12_ticketCount l hG D c9 am m.m_undoable m.m_undoStart m.m_thrown m.m_inputLength m.m_position m.m_start m.m_token m.m_value m.m_letters m.m_code m.m_place m.m_outputLength m.m_s m.m_parsed m.m_tried m.m_remembered m.m_slots m.m_kept m.m_away m.m_input m.m_halfway m.m_output  hm) 0 (gV wbd_166 wbd_167 wbd_168 wbd_7 wbd_169) rfl rfl rfl ⟨rfl, pd_X12_ticketCount⟩ ⟨Nat.le_of_ble_eq_true rfl, Nat.le_of_ble_eq_true rfl⟩ 0 rfl rfl rfl rfl (Nat.le_of_ble_eq_true rfl) ⟨show nC + 0 + 0 ≤ 601024 by omega, show nS + 0 + 0 ≤ 7293034 by omega⟩ [0, 1, 2, 3, 4, 5, 6, 7, 8, 9, 10] [] [0, 1, 2, 3, 4, 5, 6, 7, 8, 9, 10] rfl rfl rfl rfl dL_law_1240 1243 rfl ?_
  refine v_toX ?_
  refine v_icmp_eq X (tgt := 3452) dL_law_1243 rfl 1246 rfl (a := some ()) (b := none) (o := ()) (if_pos hv) (fun _ => ?_) (fun h => nomatch h)
  exact v_widen (by omega) (by omega) (K _ _ asl apa _ hR1)
set_option maxRecDepth 100000 in
set_option maxHeartbeats 4000000 in
theorem w_22 (l : Launch) {G : (Nat → Prop) → State → Heap → Prop} (hG : vG G) (hl0 : l.stackTraces = false) (hNC : ∀ (A : Nat → Prop) (U : State) (H : Heap), G A U H → ∀ q ∈ ncL, va_Nc q.1 q.2 U) (D : va_G) (c9 : Nat → ClassId) (sk sv : Nat → Nat) (hGU : ∀ (A : Nat → Prop) (U : State) (H : Heap), G A U H → vU sk sv A U H) (ad am : Nat → Nat) (ao b L : Nat) (xs : Nat → Int32) {p : Program} {e : Env} {s : State} {mm : MethodId} {args : Array Value} {below : List Frame} {meth : Method} {c : Code} {A : Nat → Prop} {Q : State → Prop} (X : vX p s mm args meth c cL_law 9 (some .boolean) RL (Cond.tt :: Wg) D (tyA c9) G A) (hX : va_X b L xs s s.heap) (hbl : b < s.heap.size) (hbA : ¬ A b) (REL : FX → FM → Prop) (hk : H22 REL) (n : Nat) (hn : n + 6 ≤ L) (hL : L ≤ 3072) (x : FX) (m : FM) (hR : REL x m) (asl apa : Nat → Nat → Nat) (fo : Nat → Int64) (nC nS : Nat) (hC : nC + 14 ≤ 601024) (hS : nS + 481 ≤ 7293034) (K : ∀ (x' : FX) (m' : FM) (asl' apa' : Nat → Nat → Nat) (fo' : Nat → Int64), REL x' m' → vW p l e room_1 s mm args below meth c 9 D A (wLF c9 x'.sl asl' x'.pa apa' ao fo' (wMf am c9 m')) (nC + 14) (nS + 481) Q (wXf ad c9 x' asl' apa') 3452 [(0, .ref b), (1, .ref (ad 0)), (2, .ref (am 0)), (3, .ref ao), (4, .int (nlaw n))] []) : vW p l e room_1 s mm args below meth c 9 D A (wLF c9 x.sl asl x.pa apa ao fo (wMf am c9 m)) nC nS Q (wXf ad c9 x asl apa) 1248 [(0, .ref b), (1, .ref (ad 0)), (2, .ref (am 0)), (3, .ref ao), (4, .int (nlaw n))] [] := by
  obtain ⟨ox, om, hx, hex, hm, ht, hv, hR1⟩ := hk x m hR (xs (nlaw n + 1).toNatClampNeg)
  refine v_aload_n X dL_law_1248 1 rfl rfl 1249 rfl ?_
  refine v_aload_n X dL_law_1249 0 rfl rfl 1250 rfl ?_
  refine v_iload X dL_law_1250 4 rfl 1252 rfl ?_
  refine v_iconst X dL_law_1252 ic_1 1253 rfl ?_
  refine v_iadd X dL_law_1253 1254 rfl ?_
  refine v_sld X hX hbl hbA (sc_in hn hL 1 (by decide)) dL_law_1254 1255 rfl ?_
  refine v_aload_n X dL_law_1255 3 rfl rfl 1256 rfl ?_
  refine v_hcallS X (S := Unit) (As := [.ref (ad 0), .int (xs (nlaw n + 1).toNatClampNeg), .ref ao]) (rest := []) (ws' := fun u => wX11 ad c9 x.nextPast x.pastCount x.i_count x.i_cells x.o_count x.o_cells x.p_start x.p_end x.p_kind x.p_value x.p_error x.p_errorAt x.p_d_time x.p_d_tolerance x.p_d_seed x.p_d_madeTickets x.p_d_cheesesOfText x.p_d_R_rows x.p_d_R_cells x.p_d_U_rows x.p_d_U_cells x.p_d_S_rows x.p_d_S_cells x.p_d_T_rows x.p_d_T_cells x.p_d_E_rows x.p_d_E_cells x.s_time x.s_tolerance x.s_seed x.s_madeTickets x.s_cheesesOfText x.s_R_rows x.s_R_cells x.s_U_rows x.s_U_cells x.s_S_rows x.s_S_cells x.s_T_rows x.s_T_cells x.s_E_rows x.s_E_cells x.sl asl x.pa apa) (F' := fun u => wLF c9 x.sl asl x.pa apa ao (hout ox.1 fo ox.2.toInt64) (wMf am c9 m)) (c_L_ticketAt l hG hl0 hNC D c9 sk sv hGU ad x.nextPast x.pastCount x.i_count x.i_cells x.o_count x.o_cells x.p_start x.p_end x.p_kind x.p_value x.p_error x.p_errorAt x.p_d_time x.p_d_tolerance x.p_d_seed x.p_d_madeTickets x.p_d_cheesesOfText x.p_d_R_rows x.p_d_R_cells x.p_d_U_rows x.p_d_U_cells x.p_d_S_rows x.p_d_S_cells x.p_d_T_rows x.p_d_T_cells x.p_d_E_rows x.p_d_E_cells x.s_time x.s_tolerance x.s_seed x.s_madeTickets x.s_cheesesOfText x.s_R_rows x.s_R_cells x.s_U_rows x.s_U_cells x.s_S_rows x.s_S_cells x.s_T_rows x.s_T_cells x.s_E_rows x.s_E_cells x.sl asl x.pa apa ao fo (xs (nlaw n + 1).toNatClampNeg) hx hex) 3 (gS wbd_170 wbd_171 wbd_2 wbd_172) rfl rfl rfl pd_L_ticketAt ⟨Nat.le_of_ble_eq_true rfl, Nat.le_of_ble_eq_true rfl⟩ rfl rfl (Nat.le_of_ble_eq_true rfl) ⟨show nC + 1 ≤ 601024 by omega, show nS + 6 ≤ 7293034 by omega⟩ (fun _ => rfl) dL_law_1256 1259 rfl (fun u _ => ?_)
  refine v_istore X (lv' := [(5, .int (hcd [1] ox.1)), (0, .ref b), (1, .ref (ad 0)), (2, .ref (am 0)), (3, .ref ao), (4, .int (nlaw n))]) dL_law_1259 (by decide) rfl 1261 rfl ?_
  refine v_toM ?_
  refine v_aload_n X dL_law_1261 3 rfl rfl 1262 rfl ?_
  refine v_aload_n X dL_law_1262 1 rfl rfl 1263 rfl ?_
  refine v_iload X dL_law_1263 5 rfl 1265 rfl ?_
  refine v_iconst X dL_law_1265 ic_1 1266 rfl ?_
  refine v_iadd X dL_law_1266 1267 rfl ?_
  refine v_sld X hX hbl hbA (sc_in hn hL 1 (by decide)) dL_law_1267 1268 rfl ?_
  refine v_callVi X (C := RX12) (ci := 11) (T := TX12) (As := [.int (xs (nlaw n + 1).toNatClampNeg)]) (rest := []) (ws' := wX12 am c9 m.m_undoable m.m_undoStart om.2 m.m_inputLength m.m_position m.m_start m.m_token m.m_value m.m_letters m.m_code m.m_place m.m_outputLength m.m_s m.m_parsed m.m_tried m.m_remembered m.m_slots m.m_kept m.m_away m.m_input m.m_halfway m.m_output) (c_X12_ticketAt l hG D c9 am m.m_undoable m.m_undoStart m.m_thrown m.m_inputLength m.m_position m.m_start m.m_token m.m_value m.m_letters m.m_code m.m_place m.m_outputLength m.m_s m.m_parsed m.m_tried m.m_remembered m.m_slots m.m_kept m.m_away m.m_input m.m_halfway m.m_output (xs (nlaw n + 1).toNatClampNeg) hm) 1 (gV wbd_173 wbd_174 wbd_175 wbd_7 wbd_176) rfl rfl rfl ⟨rfl, pd_X12_ticketAt⟩ ⟨Nat.le_of_ble_eq_true rfl, Nat.le_of_ble_eq_true rfl⟩ 0 rfl rfl rfl rfl (Nat.le_of_ble_eq_true rfl) ⟨show nC + 1 + 0 ≤ 601024 by omega, show nS + 6 + 0 ≤ 7293034 by omega⟩ [0, 1, 2, 3, 4, 5, 6, 7, 8, 9, 10] [] [0, 1, 2, 3, 4, 5, 6, 7, 8, 9, 10] rfl rfl rfl rfl dL_law_1268 1271 rfl ?_
  refine v_istore X (lv' := [(6, .int om.1), (5, .int (hcd [1] ox.1)), (0, .ref b), (1, .ref (ad 0)), (2, .ref (am 0)), (3, .ref ao), (4, .int (nlaw n))]) dL_law_1271 (by decide) rfl 1273 rfl ?_
  refine v_aload_n X dL_law_1273 4 rfl rfl 1274 rfl ?_
  refine v_callVi X (C := RX12) (ci := 11) (T := TX12) (As := []) (rest := []) (ws' := wX12 am c9 m.m_undoable m.m_undoStart om.2 m.m_inputLength m.m_position m.m_start m.m_token m.m_value m.m_letters m.m_code m.m_place m.m_outputLength m.m_s m.m_parsed m.m_tried m.m_remembered m.m_slots m.m_kept m.m_away m.m_input m.m_halfway m.m_output) (c_X12_thrown l hG D c9 am m.m_undoable m.m_undoStart om.2 m.m_inputLength m.m_position m.m_start m.m_token m.m_value m.m_letters m.m_code m.m_place m.m_outputLength m.m_s m.m_parsed m.m_tried m.m_remembered m.m_slots m.m_kept m.m_away m.m_input m.m_halfway m.m_output  rfl) 0 (gV wbd_9 wbd_10 wbd_11 wbd_7 wbd_12) rfl rfl rfl ⟨rfl, pd_X12_thrown⟩ ⟨Nat.le_of_ble_eq_true rfl, Nat.le_of_ble_eq_true rfl⟩ 0 rfl rfl rfl rfl (Nat.le_of_ble_eq_true rfl) ⟨show nC + 1 + 0 ≤ 601024 by omega, show nS + 6 + 0 ≤ 7293034 by omega⟩ [0, 1, 2, 3, 4, 5, 6, 7, 8, 9, 10] [] [0, 1, 2, 3, 4, 5, 6, 7, 8, 9, 10] rfl rfl rfl rfl dL_law_1274 1277 rfl ?_
  refine v_iload X dL_law_1277 1 rfl 1279 rfl ?_
  refine v_icmp_eq X (tgt := 1284) dL_law_1279 rfl 1282 rfl (a := some ()) (b := none) (o := ()) (if_pos ht) (fun _ => ?_) (fun h => nomatch h)
  refine v_toX ?_
  refine v_iload X dL_law_1284 1 rfl 1286 rfl ?_
  by_cases h0 : ox.1 = 0
  · refine v_if_ne X (tgt := 1301) dL_law_1286 rfl 1289 rfl (a := none) (b := some ()) (o := ()) (if_pos (by rw [h0]; rfl)) (fun h => nomatch h) (fun _ => ?_)
    refine v_aload_n X dL_law_1289 5 rfl rfl 1290 rfl ?_
    refine v_iconst X dL_law_1290 ic_0 1291 rfl ?_
    refine v_outld X dL_law_1291 1292 rfl ?_
    refine v_iload X dL_law_1292 0 rfl 1294 rfl ?_
    refine v_i2l X dL_law_1294 1295 rfl ?_
    refine v_lcmp X dL_law_1295 1296 rfl ?_
    refine v_if_eq X (tgt := 1301) dL_law_1296 rfl 1299 rfl (a := some ()) (b := none) (o := ()) (if_pos (by rw [hout, if_pos h0, ← hv h0]; exact lg_cmp_self _)) (fun _ => ?_) (fun h => nomatch h)
    refine v_goto X (tgt := 3452) dL_law_1301 rfl ?_
    refine v_sub (lv' := [(0, .ref b), (1, .ref (ad 0)), (2, .ref (am 0)), (3, .ref ao), (4, .int (nlaw n))]) [2, 3, 4, 5, 6] rfl ?_
    exact v_widen (by omega) (by omega) (K _ _ asl apa _ hR1)
  · refine v_if_ne X (tgt := 1301) dL_law_1286 rfl 1289 rfl (a := some ()) (b := none) (o := ()) (if_neg (hcd_ne h0 (by decide))) (fun _ => ?_) (fun h => nomatch h)
    refine v_goto X (tgt := 3452) dL_law_1301 rfl ?_
    refine v_sub (lv' := [(0, .ref b), (1, .ref (ad 0)), (2, .ref (am 0)), (3, .ref ao), (4, .int (nlaw n))]) [2, 3, 4, 5, 6] rfl ?_
    exact v_widen (by omega) (by omega) (K _ _ asl apa _ hR1)
set_option maxRecDepth 100000 in
set_option maxHeartbeats 4000000 in
theorem w_23 (l : Launch) {G : (Nat → Prop) → State → Heap → Prop} (hG : vG G) (hl0 : l.stackTraces = false) (hNC : ∀ (A : Nat → Prop) (U : State) (H : Heap), G A U H → ∀ q ∈ ncL, va_Nc q.1 q.2 U) (D : va_G) (c9 : Nat → ClassId) (sk sv : Nat → Nat) (hGU : ∀ (A : Nat → Prop) (U : State) (H : Heap), G A U H → vU sk sv A U H) (ad am : Nat → Nat) (ao b L : Nat) (xs : Nat → Int32) {p : Program} {e : Env} {s : State} {mm : MethodId} {args : Array Value} {below : List Frame} {meth : Method} {c : Code} {A : Nat → Prop} {Q : State → Prop} (X : vX p s mm args meth c cL_law 9 (some .boolean) RL (Cond.tt :: Wg) D (tyA c9) G A) (hX : va_X b L xs s s.heap) (hbl : b < s.heap.size) (hbA : ¬ A b) (REL : FX → FM → Prop) (hk : H23 REL) (n : Nat) (hn : n + 6 ≤ L) (hL : L ≤ 3072) (x : FX) (m : FM) (hR : REL x m) (asl apa : Nat → Nat → Nat) (fo : Nat → Int64) (nC nS : Nat) (hC : nC + 14 ≤ 601024) (hS : nS + 481 ≤ 7293034) (K : ∀ (x' : FX) (m' : FM) (asl' apa' : Nat → Nat → Nat) (fo' : Nat → Int64), REL x' m' → vW p l e room_1 s mm args below meth c 9 D A (wLF c9 x'.sl asl' x'.pa apa' ao fo' (wMf am c9 m')) (nC + 14) (nS + 481) Q (wXf ad c9 x' asl' apa') 3452 [(0, .ref b), (1, .ref (ad 0)), (2, .ref (am 0)), (3, .ref ao), (4, .int (nlaw n))] []) : vW p l e room_1 s mm args below meth c 9 D A (wLF c9 x.sl asl x.pa apa ao fo (wMf am c9 m)) nC nS Q (wXf ad c9 x asl apa) 1304 [(0, .ref b), (1, .ref (ad 0)), (2, .ref (am 0)), (3, .ref ao), (4, .int (nlaw n))] [] := by
  obtain ⟨ox, om, hx, hex, hm, ht, hv, hR1⟩ := hk x m hR (xs (nlaw n + 1).toNatClampNeg)
  refine v_aload_n X dL_law_1304 1 rfl rfl 1305 rfl ?_
  refine v_aload_n X dL_law_1305 0 rfl rfl 1306 rfl ?_
  refine v_iload X dL_law_1306 4 rfl 1308 rfl ?_
  refine v_iconst X dL_law_1308 ic_1 1309 rfl ?_
  refine v_iadd X dL_law_1309 1310 rfl ?_
  refine v_sld X hX hbl hbA (sc_in hn hL 1 (by decide)) dL_law_1310 1311 rfl ?_
  refine v_aload_n X dL_law_1311 3 rfl rfl 1312 rfl ?_
  refine v_hcallS X (S := Unit) (As := [.ref (ad 0), .int (xs (nlaw n + 1).toNatClampNeg), .ref ao]) (rest := []) (ws' := fun u => wX11 ad c9 x.nextPast x.pastCount x.i_count x.i_cells x.o_count x.o_cells x.p_start x.p_end x.p_kind x.p_value x.p_error x.p_errorAt x.p_d_time x.p_d_tolerance x.p_d_seed x.p_d_madeTickets x.p_d_cheesesOfText x.p_d_R_rows x.p_d_R_cells x.p_d_U_rows x.p_d_U_cells x.p_d_S_rows x.p_d_S_cells x.p_d_T_rows x.p_d_T_cells x.p_d_E_rows x.p_d_E_cells x.s_time x.s_tolerance x.s_seed x.s_madeTickets x.s_cheesesOfText x.s_R_rows x.s_R_cells x.s_U_rows x.s_U_cells x.s_S_rows x.s_S_cells x.s_T_rows x.s_T_cells x.s_E_rows x.s_E_cells x.sl asl x.pa apa) (F' := fun u => wLF c9 x.sl asl x.pa apa ao (hout ox.1 fo ox.2.toInt64) (wMf am c9 m)) (c_L_kindOf l hG hl0 hNC D c9 sk sv hGU ad x.nextPast x.pastCount x.i_count x.i_cells x.o_count x.o_cells x.p_start x.p_end x.p_kind x.p_value x.p_error x.p_errorAt x.p_d_time x.p_d_tolerance x.p_d_seed x.p_d_madeTickets x.p_d_cheesesOfText x.p_d_R_rows x.p_d_R_cells x.p_d_U_rows x.p_d_U_cells x.p_d_S_rows x.p_d_S_cells x.p_d_T_rows x.p_d_T_cells x.p_d_E_rows x.p_d_E_cells x.s_time x.s_tolerance x.s_seed x.s_madeTickets x.s_cheesesOfText x.s_R_rows x.s_R_cells x.s_U_rows x.s_U_cells x.s_S_rows x.s_S_cells x.s_T_rows x.s_T_cells x.s_E_rows x.s_E_cells x.sl asl x.pa apa ao fo (xs (nlaw n + 1).toNatClampNeg) hx hex) 3 (gS wbd_177 wbd_178 wbd_2 wbd_179) rfl rfl rfl pd_L_kindOf ⟨Nat.le_of_ble_eq_true rfl, Nat.le_of_ble_eq_true rfl⟩ rfl rfl (Nat.le_of_ble_eq_true rfl) ⟨show nC + 1 ≤ 601024 by omega, show nS + 6 ≤ 7293034 by omega⟩ (fun _ => rfl) dL_law_1312 1315 rfl (fun u _ => ?_)
  refine v_istore X (lv' := [(5, .int (hcd [4] ox.1)), (0, .ref b), (1, .ref (ad 0)), (2, .ref (am 0)), (3, .ref ao), (4, .int (nlaw n))]) dL_law_1315 (by decide) rfl 1317 rfl ?_
  refine v_toM ?_
  refine v_aload_n X dL_law_1317 3 rfl rfl 1318 rfl ?_
  refine v_aload_n X dL_law_1318 1 rfl rfl 1319 rfl ?_
  refine v_iload X dL_law_1319 5 rfl 1321 rfl ?_
  refine v_iconst X dL_law_1321 ic_1 1322 rfl ?_
  refine v_iadd X dL_law_1322 1323 rfl ?_
  refine v_sld X hX hbl hbA (sc_in hn hL 1 (by decide)) dL_law_1323 1324 rfl ?_
  refine v_callVi X (C := RX12) (ci := 11) (T := TX12) (As := [.int (xs (nlaw n + 1).toNatClampNeg)]) (rest := []) (ws' := wX12 am c9 m.m_undoable m.m_undoStart om.2 m.m_inputLength m.m_position m.m_start m.m_token m.m_value m.m_letters m.m_code m.m_place m.m_outputLength m.m_s m.m_parsed m.m_tried m.m_remembered m.m_slots m.m_kept m.m_away m.m_input m.m_halfway m.m_output) (c_X12_kindOf l hG D c9 am m.m_undoable m.m_undoStart m.m_thrown m.m_inputLength m.m_position m.m_start m.m_token m.m_value m.m_letters m.m_code m.m_place m.m_outputLength m.m_s m.m_parsed m.m_tried m.m_remembered m.m_slots m.m_kept m.m_away m.m_input m.m_halfway m.m_output (xs (nlaw n + 1).toNatClampNeg) hm) 1 (gV wbd_180 wbd_181 wbd_182 wbd_7 wbd_183) rfl rfl rfl ⟨rfl, pd_X12_kindOf⟩ ⟨Nat.le_of_ble_eq_true rfl, Nat.le_of_ble_eq_true rfl⟩ 0 rfl rfl rfl rfl (Nat.le_of_ble_eq_true rfl) ⟨show nC + 1 + 0 ≤ 601024 by omega, show nS + 6 + 0 ≤ 7293034 by omega⟩ [0, 1, 2, 3, 4, 5, 6, 7, 8, 9, 10] [] [0, 1, 2, 3, 4, 5, 6, 7, 8, 9, 10] rfl rfl rfl rfl dL_law_1324 1327 rfl ?_
  refine v_istore X (lv' := [(6, .int om.1), (5, .int (hcd [4] ox.1)), (0, .ref b), (1, .ref (ad 0)), (2, .ref (am 0)), (3, .ref ao), (4, .int (nlaw n))]) dL_law_1327 (by decide) rfl 1329 rfl ?_
  refine v_aload_n X dL_law_1329 4 rfl rfl 1330 rfl ?_
  refine v_callVi X (C := RX12) (ci := 11) (T := TX12) (As := []) (rest := []) (ws' := wX12 am c9 m.m_undoable m.m_undoStart om.2 m.m_inputLength m.m_position m.m_start m.m_token m.m_value m.m_letters m.m_code m.m_place m.m_outputLength m.m_s m.m_parsed m.m_tried m.m_remembered m.m_slots m.m_kept m.m_away m.m_input m.m_halfway m.m_output) (c_X12_thrown l hG D c9 am m.m_undoable m.m_undoStart om.2 m.m_inputLength m.m_position m.m_start m.m_token m.m_value m.m_letters m.m_code m.m_place m.m_outputLength m.m_s m.m_parsed m.m_tried m.m_remembered m.m_slots m.m_kept m.m_away m.m_input m.m_halfway m.m_output  rfl) 0 (gV wbd_9 wbd_10 wbd_11 wbd_7 wbd_12) rfl rfl rfl ⟨rfl, pd_X12_thrown⟩ ⟨Nat.le_of_ble_eq_true rfl, Nat.le_of_ble_eq_true rfl⟩ 0 rfl rfl rfl rfl (Nat.le_of_ble_eq_true rfl) ⟨show nC + 1 + 0 ≤ 601024 by omega, show nS + 6 + 0 ≤ 7293034 by omega⟩ [0, 1, 2, 3, 4, 5, 6, 7, 8, 9, 10] [] [0, 1, 2, 3, 4, 5, 6, 7, 8, 9, 10] rfl rfl rfl rfl dL_law_1330 1333 rfl ?_
  refine v_iload X dL_law_1333 1 rfl 1335 rfl ?_
  refine v_icmp_eq X (tgt := 1340) dL_law_1335 rfl 1338 rfl (a := some ()) (b := none) (o := ()) (if_pos ht) (fun _ => ?_) (fun h => nomatch h)
  refine v_toX ?_
  refine v_iload X dL_law_1340 1 rfl 1342 rfl ?_
  by_cases h0 : ox.1 = 0
  · refine v_if_ne X (tgt := 1357) dL_law_1342 rfl 1345 rfl (a := none) (b := some ()) (o := ()) (if_pos (by rw [h0]; rfl)) (fun h => nomatch h) (fun _ => ?_)
    refine v_aload_n X dL_law_1345 5 rfl rfl 1346 rfl ?_
    refine v_iconst X dL_law_1346 ic_0 1347 rfl ?_
    refine v_outld X dL_law_1347 1348 rfl ?_
    refine v_iload X dL_law_1348 0 rfl 1350 rfl ?_
    refine v_i2l X dL_law_1350 1351 rfl ?_
    refine v_lcmp X dL_law_1351 1352 rfl ?_
    refine v_if_eq X (tgt := 1357) dL_law_1352 rfl 1355 rfl (a := some ()) (b := none) (o := ()) (if_pos (by rw [hout, if_pos h0, ← hv h0]; exact lg_cmp_self _)) (fun _ => ?_) (fun h => nomatch h)
    refine v_goto X (tgt := 3452) dL_law_1357 rfl ?_
    refine v_sub (lv' := [(0, .ref b), (1, .ref (ad 0)), (2, .ref (am 0)), (3, .ref ao), (4, .int (nlaw n))]) [2, 3, 4, 5, 6] rfl ?_
    exact v_widen (by omega) (by omega) (K _ _ asl apa _ hR1)
  · refine v_if_ne X (tgt := 1357) dL_law_1342 rfl 1345 rfl (a := some ()) (b := none) (o := ()) (if_neg (hcd_ne h0 (by decide))) (fun _ => ?_) (fun h => nomatch h)
    refine v_goto X (tgt := 3452) dL_law_1357 rfl ?_
    refine v_sub (lv' := [(0, .ref b), (1, .ref (ad 0)), (2, .ref (am 0)), (3, .ref ao), (4, .int (nlaw n))]) [2, 3, 4, 5, 6] rfl ?_
    exact v_widen (by omega) (by omega) (K _ _ asl apa _ hR1)
set_option maxRecDepth 100000 in
set_option maxHeartbeats 4000000 in
theorem w_24 (l : Launch) {G : (Nat → Prop) → State → Heap → Prop} (hG : vG G) (hl0 : l.stackTraces = false) (hNC : ∀ (A : Nat → Prop) (U : State) (H : Heap), G A U H → ∀ q ∈ ncL, va_Nc q.1 q.2 U) (D : va_G) (c9 : Nat → ClassId) (sk sv : Nat → Nat) (hGU : ∀ (A : Nat → Prop) (U : State) (H : Heap), G A U H → vU sk sv A U H) (ad am : Nat → Nat) (ao b L : Nat) (xs : Nat → Int32) {p : Program} {e : Env} {s : State} {mm : MethodId} {args : Array Value} {below : List Frame} {meth : Method} {c : Code} {A : Nat → Prop} {Q : State → Prop} (X : vX p s mm args meth c cL_law 9 (some .boolean) RL (Cond.tt :: Wg) D (tyA c9) G A) (hX : va_X b L xs s s.heap) (hbl : b < s.heap.size) (hbA : ¬ A b) (REL : FX → FM → Prop) (hk : H24 REL) (n : Nat) (hn : n + 6 ≤ L) (hL : L ≤ 3072) (x : FX) (m : FM) (hR : REL x m) (asl apa : Nat → Nat → Nat) (fo : Nat → Int64) (nC nS : Nat) (hC : nC + 14 ≤ 601024) (hS : nS + 481 ≤ 7293034) (K : ∀ (x' : FX) (m' : FM) (asl' apa' : Nat → Nat → Nat) (fo' : Nat → Int64), REL x' m' → vW p l e room_1 s mm args below meth c 9 D A (wLF c9 x'.sl asl' x'.pa apa' ao fo' (wMf am c9 m')) (nC + 14) (nS + 481) Q (wXf ad c9 x' asl' apa') 3452 [(0, .ref b), (1, .ref (ad 0)), (2, .ref (am 0)), (3, .ref ao), (4, .int (nlaw n))] []) : vW p l e room_1 s mm args below meth c 9 D A (wLF c9 x.sl asl x.pa apa ao fo (wMf am c9 m)) nC nS Q (wXf ad c9 x asl apa) 1360 [(0, .ref b), (1, .ref (ad 0)), (2, .ref (am 0)), (3, .ref ao), (4, .int (nlaw n))] [] := by
  obtain ⟨ox, om, hx, hex, hm, ht, hv, hR1⟩ := hk x m hR (xs (nlaw n + 1).toNatClampNeg)
  refine v_aload_n X dL_law_1360 1 rfl rfl 1361 rfl ?_
  refine v_aload_n X dL_law_1361 0 rfl rfl 1362 rfl ?_
  refine v_iload X dL_law_1362 4 rfl 1364 rfl ?_
  refine v_iconst X dL_law_1364 ic_1 1365 rfl ?_
  refine v_iadd X dL_law_1365 1366 rfl ?_
  refine v_sld X hX hbl hbA (sc_in hn hL 1 (by decide)) dL_law_1366 1367 rfl ?_
  refine v_aload_n X dL_law_1367 3 rfl rfl 1368 rfl ?_
  refine v_hcallS X (S := Unit) (As := [.ref (ad 0), .int (xs (nlaw n + 1).toNatClampNeg), .ref ao]) (rest := []) (ws' := fun u => wX11 ad c9 x.nextPast x.pastCount x.i_count x.i_cells x.o_count x.o_cells x.p_start x.p_end x.p_kind x.p_value x.p_error x.p_errorAt x.p_d_time x.p_d_tolerance x.p_d_seed x.p_d_madeTickets x.p_d_cheesesOfText x.p_d_R_rows x.p_d_R_cells x.p_d_U_rows x.p_d_U_cells x.p_d_S_rows x.p_d_S_cells x.p_d_T_rows x.p_d_T_cells x.p_d_E_rows x.p_d_E_cells x.s_time x.s_tolerance x.s_seed x.s_madeTickets x.s_cheesesOfText x.s_R_rows x.s_R_cells x.s_U_rows x.s_U_cells x.s_S_rows x.s_S_cells x.s_T_rows x.s_T_cells x.s_E_rows x.s_E_cells x.sl asl x.pa apa) (F' := fun u => wLF c9 x.sl asl x.pa apa ao (hout ox.1 fo ox.2.toInt64) (wMf am c9 m)) (c_L_ownerOf l hG hl0 hNC D c9 sk sv hGU ad x.nextPast x.pastCount x.i_count x.i_cells x.o_count x.o_cells x.p_start x.p_end x.p_kind x.p_value x.p_error x.p_errorAt x.p_d_time x.p_d_tolerance x.p_d_seed x.p_d_madeTickets x.p_d_cheesesOfText x.p_d_R_rows x.p_d_R_cells x.p_d_U_rows x.p_d_U_cells x.p_d_S_rows x.p_d_S_cells x.p_d_T_rows x.p_d_T_cells x.p_d_E_rows x.p_d_E_cells x.s_time x.s_tolerance x.s_seed x.s_madeTickets x.s_cheesesOfText x.s_R_rows x.s_R_cells x.s_U_rows x.s_U_cells x.s_S_rows x.s_S_cells x.s_T_rows x.s_T_cells x.s_E_rows x.s_E_cells x.sl asl x.pa apa ao fo (xs (nlaw n + 1).toNatClampNeg) hx hex) 3 (gS wbd_184 wbd_185 wbd_2 wbd_186) rfl rfl rfl pd_L_ownerOf ⟨Nat.le_of_ble_eq_true rfl, Nat.le_of_ble_eq_true rfl⟩ rfl rfl (Nat.le_of_ble_eq_true rfl) ⟨show nC + 1 ≤ 601024 by omega, show nS + 6 ≤ 7293034 by omega⟩ (fun _ => rfl) dL_law_1368 1371 rfl (fun u _ => ?_)
  refine v_istore X (lv' := [(5, .int (hcd [4] ox.1)), (0, .ref b), (1, .ref (ad 0)), (2, .ref (am 0)), (3, .ref ao), (4, .int (nlaw n))]) dL_law_1371 (by decide) rfl 1373 rfl ?_
  refine v_toM ?_
  refine v_aload_n X dL_law_1373 3 rfl rfl 1374 rfl ?_
  refine v_aload_n X dL_law_1374 1 rfl rfl 1375 rfl ?_
  refine v_iload X dL_law_1375 5 rfl 1377 rfl ?_
  refine v_iconst X dL_law_1377 ic_1 1378 rfl ?_
  refine v_iadd X dL_law_1378 1379 rfl ?_
  refine v_sld X hX hbl hbA (sc_in hn hL 1 (by decide)) dL_law_1379 1380 rfl ?_
  refine v_callVi X (C := RX12) (ci := 11) (T := TX12) (As := [.int (xs (nlaw n + 1).toNatClampNeg)]) (rest := []) (ws' := wX12 am c9 m.m_undoable m.m_undoStart om.2 m.m_inputLength m.m_position m.m_start m.m_token m.m_value m.m_letters m.m_code m.m_place m.m_outputLength m.m_s m.m_parsed m.m_tried m.m_remembered m.m_slots m.m_kept m.m_away m.m_input m.m_halfway m.m_output) (c_X12_ownerOf l hG D c9 am m.m_undoable m.m_undoStart m.m_thrown m.m_inputLength m.m_position m.m_start m.m_token m.m_value m.m_letters m.m_code m.m_place m.m_outputLength m.m_s m.m_parsed m.m_tried m.m_remembered m.m_slots m.m_kept m.m_away m.m_input m.m_halfway m.m_output (xs (nlaw n + 1).toNatClampNeg) hm) 1 (gV wbd_187 wbd_188 wbd_189 wbd_7 wbd_190) rfl rfl rfl ⟨rfl, pd_X12_ownerOf⟩ ⟨Nat.le_of_ble_eq_true rfl, Nat.le_of_ble_eq_true rfl⟩ 0 rfl rfl rfl rfl (Nat.le_of_ble_eq_true rfl) ⟨show nC + 1 + 0 ≤ 601024 by omega, show nS + 6 + 0 ≤ 7293034 by omega⟩ [0, 1, 2, 3, 4, 5, 6, 7, 8, 9, 10] [] [0, 1, 2, 3, 4, 5, 6, 7, 8, 9, 10] rfl rfl rfl rfl dL_law_1380 1383 rfl ?_
  refine v_istore X (lv' := [(6, .int om.1), (5, .int (hcd [4] ox.1)), (0, .ref b), (1, .ref (ad 0)), (2, .ref (am 0)), (3, .ref ao), (4, .int (nlaw n))]) dL_law_1383 (by decide) rfl 1385 rfl ?_
  refine v_aload_n X dL_law_1385 4 rfl rfl 1386 rfl ?_
  refine v_callVi X (C := RX12) (ci := 11) (T := TX12) (As := []) (rest := []) (ws' := wX12 am c9 m.m_undoable m.m_undoStart om.2 m.m_inputLength m.m_position m.m_start m.m_token m.m_value m.m_letters m.m_code m.m_place m.m_outputLength m.m_s m.m_parsed m.m_tried m.m_remembered m.m_slots m.m_kept m.m_away m.m_input m.m_halfway m.m_output) (c_X12_thrown l hG D c9 am m.m_undoable m.m_undoStart om.2 m.m_inputLength m.m_position m.m_start m.m_token m.m_value m.m_letters m.m_code m.m_place m.m_outputLength m.m_s m.m_parsed m.m_tried m.m_remembered m.m_slots m.m_kept m.m_away m.m_input m.m_halfway m.m_output  rfl) 0 (gV wbd_9 wbd_10 wbd_11 wbd_7 wbd_12) rfl rfl rfl ⟨rfl, pd_X12_thrown⟩ ⟨Nat.le_of_ble_eq_true rfl, Nat.le_of_ble_eq_true rfl⟩ 0 rfl rfl rfl rfl (Nat.le_of_ble_eq_true rfl) ⟨show nC + 1 + 0 ≤ 601024 by omega, show nS + 6 + 0 ≤ 7293034 by omega⟩ [0, 1, 2, 3, 4, 5, 6, 7, 8, 9, 10] [] [0, 1, 2, 3, 4, 5, 6, 7, 8, 9, 10] rfl rfl rfl rfl dL_law_1386 1389 rfl ?_
  refine v_iload X dL_law_1389 1 rfl 1391 rfl ?_
  refine v_icmp_eq X (tgt := 1396) dL_law_1391 rfl 1394 rfl (a := some ()) (b := none) (o := ()) (if_pos ht) (fun _ => ?_) (fun h => nomatch h)
  refine v_toX ?_
  refine v_iload X dL_law_1396 1 rfl 1398 rfl ?_
  by_cases h0 : ox.1 = 0
  · refine v_if_ne X (tgt := 1413) dL_law_1398 rfl 1401 rfl (a := none) (b := some ()) (o := ()) (if_pos (by rw [h0]; rfl)) (fun h => nomatch h) (fun _ => ?_)
    refine v_aload_n X dL_law_1401 5 rfl rfl 1402 rfl ?_
    refine v_iconst X dL_law_1402 ic_0 1403 rfl ?_
    refine v_outld X dL_law_1403 1404 rfl ?_
    refine v_iload X dL_law_1404 0 rfl 1406 rfl ?_
    refine v_i2l X dL_law_1406 1407 rfl ?_
    refine v_lcmp X dL_law_1407 1408 rfl ?_
    refine v_if_eq X (tgt := 1413) dL_law_1408 rfl 1411 rfl (a := some ()) (b := none) (o := ()) (if_pos (by rw [hout, if_pos h0, ← hv h0]; exact lg_cmp_self _)) (fun _ => ?_) (fun h => nomatch h)
    refine v_goto X (tgt := 3452) dL_law_1413 rfl ?_
    refine v_sub (lv' := [(0, .ref b), (1, .ref (ad 0)), (2, .ref (am 0)), (3, .ref ao), (4, .int (nlaw n))]) [2, 3, 4, 5, 6] rfl ?_
    exact v_widen (by omega) (by omega) (K _ _ asl apa _ hR1)
  · refine v_if_ne X (tgt := 1413) dL_law_1398 rfl 1401 rfl (a := some ()) (b := none) (o := ()) (if_neg (hcd_ne h0 (by decide))) (fun _ => ?_) (fun h => nomatch h)
    refine v_goto X (tgt := 3452) dL_law_1413 rfl ?_
    refine v_sub (lv' := [(0, .ref b), (1, .ref (ad 0)), (2, .ref (am 0)), (3, .ref ao), (4, .int (nlaw n))]) [2, 3, 4, 5, 6] rfl ?_
    exact v_widen (by omega) (by omega) (K _ _ asl apa _ hR1)
set_option maxRecDepth 100000 in
set_option maxHeartbeats 4000000 in
theorem w_25 (l : Launch) {G : (Nat → Prop) → State → Heap → Prop} (hG : vG G) (hl0 : l.stackTraces = false) (hNC : ∀ (A : Nat → Prop) (U : State) (H : Heap), G A U H → ∀ q ∈ ncL, va_Nc q.1 q.2 U) (D : va_G) (c9 : Nat → ClassId) (sk sv : Nat → Nat) (hGU : ∀ (A : Nat → Prop) (U : State) (H : Heap), G A U H → vU sk sv A U H) (ad am : Nat → Nat) (ao b L : Nat) (xs : Nat → Int32) {p : Program} {e : Env} {s : State} {mm : MethodId} {args : Array Value} {below : List Frame} {meth : Method} {c : Code} {A : Nat → Prop} {Q : State → Prop} (X : vX p s mm args meth c cL_law 9 (some .boolean) RL (Cond.tt :: Wg) D (tyA c9) G A) (hX : va_X b L xs s s.heap) (hbl : b < s.heap.size) (hbA : ¬ A b) (REL : FX → FM → Prop) (hk : H25 REL) (n : Nat) (hn : n + 6 ≤ L) (hL : L ≤ 3072) (x : FX) (m : FM) (hR : REL x m) (asl apa : Nat → Nat → Nat) (fo : Nat → Int64) (nC nS : Nat) (hC : nC + 14 ≤ 601024) (hS : nS + 481 ≤ 7293034) (K : ∀ (x' : FX) (m' : FM) (asl' apa' : Nat → Nat → Nat) (fo' : Nat → Int64), REL x' m' → vW p l e room_1 s mm args below meth c 9 D A (wLF c9 x'.sl asl' x'.pa apa' ao fo' (wMf am c9 m')) (nC + 14) (nS + 481) Q (wXf ad c9 x' asl' apa') 3452 [(0, .ref b), (1, .ref (ad 0)), (2, .ref (am 0)), (3, .ref ao), (4, .int (nlaw n))] []) : vW p l e room_1 s mm args below meth c 9 D A (wLF c9 x.sl asl x.pa apa ao fo (wMf am c9 m)) nC nS Q (wXf ad c9 x asl apa) 1416 [(0, .ref b), (1, .ref (ad 0)), (2, .ref (am 0)), (3, .ref ao), (4, .int (nlaw n))] [] := by
  obtain ⟨ox, om, hx, hex, hm, ht, hv, hR1⟩ := hk x m hR (xs (nlaw n + 1).toNatClampNeg)
  refine v_aload_n X dL_law_1416 1 rfl rfl 1417 rfl ?_
  refine v_aload_n X dL_law_1417 0 rfl rfl 1418 rfl ?_
  refine v_iload X dL_law_1418 4 rfl 1420 rfl ?_
  refine v_iconst X dL_law_1420 ic_1 1421 rfl ?_
  refine v_iadd X dL_law_1421 1422 rfl ?_
  refine v_sld X hX hbl hbA (sc_in hn hL 1 (by decide)) dL_law_1422 1423 rfl ?_
  refine v_aload_n X dL_law_1423 3 rfl rfl 1424 rfl ?_
  refine v_hcallS X (S := Unit) (As := [.ref (ad 0), .int (xs (nlaw n + 1).toNatClampNeg), .ref ao]) (rest := []) (ws' := fun u => wX11 ad c9 x.nextPast x.pastCount x.i_count x.i_cells x.o_count x.o_cells x.p_start x.p_end x.p_kind x.p_value x.p_error x.p_errorAt x.p_d_time x.p_d_tolerance x.p_d_seed x.p_d_madeTickets x.p_d_cheesesOfText x.p_d_R_rows x.p_d_R_cells x.p_d_U_rows x.p_d_U_cells x.p_d_S_rows x.p_d_S_cells x.p_d_T_rows x.p_d_T_cells x.p_d_E_rows x.p_d_E_cells x.s_time x.s_tolerance x.s_seed x.s_madeTickets x.s_cheesesOfText x.s_R_rows x.s_R_cells x.s_U_rows x.s_U_cells x.s_S_rows x.s_S_cells x.s_T_rows x.s_T_cells x.s_E_rows x.s_E_cells x.sl asl x.pa apa) (F' := fun u => wLF c9 x.sl asl x.pa apa ao (hout ox.1 fo ox.2.toInt64) (wMf am c9 m)) (c_L_realmOf l hG hl0 hNC D c9 sk sv hGU ad x.nextPast x.pastCount x.i_count x.i_cells x.o_count x.o_cells x.p_start x.p_end x.p_kind x.p_value x.p_error x.p_errorAt x.p_d_time x.p_d_tolerance x.p_d_seed x.p_d_madeTickets x.p_d_cheesesOfText x.p_d_R_rows x.p_d_R_cells x.p_d_U_rows x.p_d_U_cells x.p_d_S_rows x.p_d_S_cells x.p_d_T_rows x.p_d_T_cells x.p_d_E_rows x.p_d_E_cells x.s_time x.s_tolerance x.s_seed x.s_madeTickets x.s_cheesesOfText x.s_R_rows x.s_R_cells x.s_U_rows x.s_U_cells x.s_S_rows x.s_S_cells x.s_T_rows x.s_T_cells x.s_E_rows x.s_E_cells x.sl asl x.pa apa ao fo (xs (nlaw n + 1).toNatClampNeg) hx hex) 3 (gS wbd_191 wbd_192 wbd_2 wbd_193) rfl rfl rfl pd_L_realmOf ⟨Nat.le_of_ble_eq_true rfl, Nat.le_of_ble_eq_true rfl⟩ rfl rfl (Nat.le_of_ble_eq_true rfl) ⟨show nC + 1 ≤ 601024 by omega, show nS + 6 ≤ 7293034 by omega⟩ (fun _ => rfl) dL_law_1424 1427 rfl (fun u _ => ?_)
  refine v_istore X (lv' := [(5, .int (hcd [4] ox.1)), (0, .ref b), (1, .ref (ad 0)), (2, .ref (am 0)), (3, .ref ao), (4, .int (nlaw n))]) dL_law_1427 (by decide) rfl 1429 rfl ?_
  refine v_toM ?_
  refine v_aload_n X dL_law_1429 3 rfl rfl 1430 rfl ?_
  refine v_aload_n X dL_law_1430 1 rfl rfl 1431 rfl ?_
  refine v_iload X dL_law_1431 5 rfl 1433 rfl ?_
  refine v_iconst X dL_law_1433 ic_1 1434 rfl ?_
  refine v_iadd X dL_law_1434 1435 rfl ?_
  refine v_sld X hX hbl hbA (sc_in hn hL 1 (by decide)) dL_law_1435 1436 rfl ?_
  refine v_callVi X (C := RX12) (ci := 11) (T := TX12) (As := [.int (xs (nlaw n + 1).toNatClampNeg)]) (rest := []) (ws' := wX12 am c9 m.m_undoable m.m_undoStart om.2 m.m_inputLength m.m_position m.m_start m.m_token m.m_value m.m_letters m.m_code m.m_place m.m_outputLength m.m_s m.m_parsed m.m_tried m.m_remembered m.m_slots m.m_kept m.m_away m.m_input m.m_halfway m.m_output) (c_X12_realmOf l hG D c9 am m.m_undoable m.m_undoStart m.m_thrown m.m_inputLength m.m_position m.m_start m.m_token m.m_value m.m_letters m.m_code m.m_place m.m_outputLength m.m_s m.m_parsed m.m_tried m.m_remembered m.m_slots m.m_kept m.m_away m.m_input m.m_halfway m.m_output (xs (nlaw n + 1).toNatClampNeg) hm) 1 (gV wbd_194 wbd_195 wbd_196 wbd_7 wbd_197) rfl rfl rfl ⟨rfl, pd_X12_realmOf⟩ ⟨Nat.le_of_ble_eq_true rfl, Nat.le_of_ble_eq_true rfl⟩ 0 rfl rfl rfl rfl (Nat.le_of_ble_eq_true rfl) ⟨show nC + 1 + 0 ≤ 601024 by omega, show nS + 6 + 0 ≤ 7293034 by omega⟩ [0, 1, 2, 3, 4, 5, 6, 7, 8, 9, 10] [] [0, 1, 2, 3, 4, 5, 6, 7, 8, 9, 10] rfl rfl rfl rfl dL_law_1436 1439 rfl ?_
  refine v_istore X (lv' := [(6, .int om.1), (5, .int (hcd [4] ox.1)), (0, .ref b), (1, .ref (ad 0)), (2, .ref (am 0)), (3, .ref ao), (4, .int (nlaw n))]) dL_law_1439 (by decide) rfl 1441 rfl ?_
  refine v_aload_n X dL_law_1441 4 rfl rfl 1442 rfl ?_
  refine v_callVi X (C := RX12) (ci := 11) (T := TX12) (As := []) (rest := []) (ws' := wX12 am c9 m.m_undoable m.m_undoStart om.2 m.m_inputLength m.m_position m.m_start m.m_token m.m_value m.m_letters m.m_code m.m_place m.m_outputLength m.m_s m.m_parsed m.m_tried m.m_remembered m.m_slots m.m_kept m.m_away m.m_input m.m_halfway m.m_output) (c_X12_thrown l hG D c9 am m.m_undoable m.m_undoStart om.2 m.m_inputLength m.m_position m.m_start m.m_token m.m_value m.m_letters m.m_code m.m_place m.m_outputLength m.m_s m.m_parsed m.m_tried m.m_remembered m.m_slots m.m_kept m.m_away m.m_input m.m_halfway m.m_output  rfl) 0 (gV wbd_9 wbd_10 wbd_11 wbd_7 wbd_12) rfl rfl rfl ⟨rfl, pd_X12_thrown⟩ ⟨Nat.le_of_ble_eq_true rfl, Nat.le_of_ble_eq_true rfl⟩ 0 rfl rfl rfl rfl (Nat.le_of_ble_eq_true rfl) ⟨show nC + 1 + 0 ≤ 601024 by omega, show nS + 6 + 0 ≤ 7293034 by omega⟩ [0, 1, 2, 3, 4, 5, 6, 7, 8, 9, 10] [] [0, 1, 2, 3, 4, 5, 6, 7, 8, 9, 10] rfl rfl rfl rfl dL_law_1442 1445 rfl ?_
  refine v_iload X dL_law_1445 1 rfl 1447 rfl ?_
  refine v_icmp_eq X (tgt := 1452) dL_law_1447 rfl 1450 rfl (a := some ()) (b := none) (o := ()) (if_pos ht) (fun _ => ?_) (fun h => nomatch h)
  refine v_toX ?_
  refine v_iload X dL_law_1452 1 rfl 1454 rfl ?_
  by_cases h0 : ox.1 = 0
  · refine v_if_ne X (tgt := 1469) dL_law_1454 rfl 1457 rfl (a := none) (b := some ()) (o := ()) (if_pos (by rw [h0]; rfl)) (fun h => nomatch h) (fun _ => ?_)
    refine v_aload_n X dL_law_1457 5 rfl rfl 1458 rfl ?_
    refine v_iconst X dL_law_1458 ic_0 1459 rfl ?_
    refine v_outld X dL_law_1459 1460 rfl ?_
    refine v_iload X dL_law_1460 0 rfl 1462 rfl ?_
    refine v_i2l X dL_law_1462 1463 rfl ?_
    refine v_lcmp X dL_law_1463 1464 rfl ?_
    refine v_if_eq X (tgt := 1469) dL_law_1464 rfl 1467 rfl (a := some ()) (b := none) (o := ()) (if_pos (by rw [hout, if_pos h0, ← hv h0]; exact lg_cmp_self _)) (fun _ => ?_) (fun h => nomatch h)
    refine v_goto X (tgt := 3452) dL_law_1469 rfl ?_
    refine v_sub (lv' := [(0, .ref b), (1, .ref (ad 0)), (2, .ref (am 0)), (3, .ref ao), (4, .int (nlaw n))]) [2, 3, 4, 5, 6] rfl ?_
    exact v_widen (by omega) (by omega) (K _ _ asl apa _ hR1)
  · refine v_if_ne X (tgt := 1469) dL_law_1454 rfl 1457 rfl (a := some ()) (b := none) (o := ()) (if_neg (hcd_ne h0 (by decide))) (fun _ => ?_) (fun h => nomatch h)
    refine v_goto X (tgt := 3452) dL_law_1469 rfl ?_
    refine v_sub (lv' := [(0, .ref b), (1, .ref (ad 0)), (2, .ref (am 0)), (3, .ref ao), (4, .int (nlaw n))]) [2, 3, 4, 5, 6] rfl ?_
    exact v_widen (by omega) (by omega) (K _ _ asl apa _ hR1)
set_option maxRecDepth 100000 in
set_option maxHeartbeats 4000000 in
theorem w_26 (l : Launch) {G : (Nat → Prop) → State → Heap → Prop} (hG : vG G) (hl0 : l.stackTraces = false) (hNC : ∀ (A : Nat → Prop) (U : State) (H : Heap), G A U H → ∀ q ∈ ncL, va_Nc q.1 q.2 U) (D : va_G) (c9 : Nat → ClassId) (sk sv : Nat → Nat) (hGU : ∀ (A : Nat → Prop) (U : State) (H : Heap), G A U H → vU sk sv A U H) (ad am : Nat → Nat) (ao b L : Nat) (xs : Nat → Int32) {p : Program} {e : Env} {s : State} {mm : MethodId} {args : Array Value} {below : List Frame} {meth : Method} {c : Code} {A : Nat → Prop} {Q : State → Prop} (X : vX p s mm args meth c cL_law 9 (some .boolean) RL (Cond.tt :: Wg) D (tyA c9) G A) (hX : va_X b L xs s s.heap) (hbl : b < s.heap.size) (hbA : ¬ A b) (REL : FX → FM → Prop) (hk : H26 REL) (n : Nat) (hn : n + 6 ≤ L) (hL : L ≤ 3072) (x : FX) (m : FM) (hR : REL x m) (asl apa : Nat → Nat → Nat) (fo : Nat → Int64) (nC nS : Nat) (hC : nC + 14 ≤ 601024) (hS : nS + 481 ≤ 7293034) (K : ∀ (x' : FX) (m' : FM) (asl' apa' : Nat → Nat → Nat) (fo' : Nat → Int64), REL x' m' → vW p l e room_1 s mm args below meth c 9 D A (wLF c9 x'.sl asl' x'.pa apa' ao fo' (wMf am c9 m')) (nC + 14) (nS + 481) Q (wXf ad c9 x' asl' apa') 3452 [(0, .ref b), (1, .ref (ad 0)), (2, .ref (am 0)), (3, .ref ao), (4, .int (nlaw n))] []) : vW p l e room_1 s mm args below meth c 9 D A (wLF c9 x.sl asl x.pa apa ao fo (wMf am c9 m)) nC nS Q (wXf ad c9 x asl apa) 1472 [(0, .ref b), (1, .ref (ad 0)), (2, .ref (am 0)), (3, .ref ao), (4, .int (nlaw n))] [] := by
  obtain ⟨ox, om, hx, hex, hm, ht, hv, hR1⟩ := hk x m hR (xs (nlaw n + 1).toNatClampNeg)
  refine v_aload_n X dL_law_1472 1 rfl rfl 1473 rfl ?_
  refine v_aload_n X dL_law_1473 0 rfl rfl 1474 rfl ?_
  refine v_iload X dL_law_1474 4 rfl 1476 rfl ?_
  refine v_iconst X dL_law_1476 ic_1 1477 rfl ?_
  refine v_iadd X dL_law_1477 1478 rfl ?_
  refine v_sld X hX hbl hbA (sc_in hn hL 1 (by decide)) dL_law_1478 1479 rfl ?_
  refine v_aload_n X dL_law_1479 3 rfl rfl 1480 rfl ?_
  refine v_hcallS X (S := Unit) (As := [.ref (ad 0), .int (xs (nlaw n + 1).toNatClampNeg), .ref ao]) (rest := []) (ws' := fun u => wX11 ad c9 x.nextPast x.pastCount x.i_count x.i_cells x.o_count x.o_cells x.p_start x.p_end x.p_kind x.p_value x.p_error x.p_errorAt x.p_d_time x.p_d_tolerance x.p_d_seed x.p_d_madeTickets x.p_d_cheesesOfText x.p_d_R_rows x.p_d_R_cells x.p_d_U_rows x.p_d_U_cells x.p_d_S_rows x.p_d_S_cells x.p_d_T_rows x.p_d_T_cells x.p_d_E_rows x.p_d_E_cells x.s_time x.s_tolerance x.s_seed x.s_madeTickets x.s_cheesesOfText x.s_R_rows x.s_R_cells x.s_U_rows x.s_U_cells x.s_S_rows x.s_S_cells x.s_T_rows x.s_T_cells x.s_E_rows x.s_E_cells x.sl asl x.pa apa) (F' := fun u => wLF c9 x.sl asl x.pa apa ao (hout ox.1 fo ox.2.toInt64) (wMf am c9 m)) (c_L_serviceOf l hG hl0 hNC D c9 sk sv hGU ad x.nextPast x.pastCount x.i_count x.i_cells x.o_count x.o_cells x.p_start x.p_end x.p_kind x.p_value x.p_error x.p_errorAt x.p_d_time x.p_d_tolerance x.p_d_seed x.p_d_madeTickets x.p_d_cheesesOfText x.p_d_R_rows x.p_d_R_cells x.p_d_U_rows x.p_d_U_cells x.p_d_S_rows x.p_d_S_cells x.p_d_T_rows x.p_d_T_cells x.p_d_E_rows x.p_d_E_cells x.s_time x.s_tolerance x.s_seed x.s_madeTickets x.s_cheesesOfText x.s_R_rows x.s_R_cells x.s_U_rows x.s_U_cells x.s_S_rows x.s_S_cells x.s_T_rows x.s_T_cells x.s_E_rows x.s_E_cells x.sl asl x.pa apa ao fo (xs (nlaw n + 1).toNatClampNeg) hx hex) 3 (gS wbd_198 wbd_199 wbd_2 wbd_200) rfl rfl rfl pd_L_serviceOf ⟨Nat.le_of_ble_eq_true rfl, Nat.le_of_ble_eq_true rfl⟩ rfl rfl (Nat.le_of_ble_eq_true rfl) ⟨show nC + 1 ≤ 601024 by omega, show nS + 6 ≤ 7293034 by omega⟩ (fun _ => rfl) dL_law_1480 1483 rfl (fun u _ => ?_)
  refine v_istore X (lv' := [(5, .int (hcd [4] ox.1)), (0, .ref b), (1, .ref (ad 0)), (2, .ref (am 0)), (3, .ref ao), (4, .int (nlaw n))]) dL_law_1483 (by decide) rfl 1485 rfl ?_
  refine v_toM ?_
  refine v_aload_n X dL_law_1485 3 rfl rfl 1486 rfl ?_
  refine v_aload_n X dL_law_1486 1 rfl rfl 1487 rfl ?_
  refine v_iload X dL_law_1487 5 rfl 1489 rfl ?_
  refine v_iconst X dL_law_1489 ic_1 1490 rfl ?_
  refine v_iadd X dL_law_1490 1491 rfl ?_
  refine v_sld X hX hbl hbA (sc_in hn hL 1 (by decide)) dL_law_1491 1492 rfl ?_
  refine v_callVi X (C := RX12) (ci := 11) (T := TX12) (As := [.int (xs (nlaw n + 1).toNatClampNeg)]) (rest := []) (ws' := wX12 am c9 m.m_undoable m.m_undoStart om.2 m.m_inputLength m.m_position m.m_start m.m_token m.m_value m.m_letters m.m_code m.m_place m.m_outputLength m.m_s m.m_parsed m.m_tried m.m_remembered m.m_slots m.m_kept m.m_away m.m_input m.m_halfway m.m_output) (c_X12_serviceOf l hG D c9 am m.m_undoable m.m_undoStart m.m_thrown m.m_inputLength m.m_position m.m_start m.m_token m.m_value m.m_letters m.m_code m.m_place m.m_outputLength m.m_s m.m_parsed m.m_tried m.m_remembered m.m_slots m.m_kept m.m_away m.m_input m.m_halfway m.m_output (xs (nlaw n + 1).toNatClampNeg) hm) 1 (gV wbd_201 wbd_202 wbd_203 wbd_7 wbd_204) rfl rfl rfl ⟨rfl, pd_X12_serviceOf⟩ ⟨Nat.le_of_ble_eq_true rfl, Nat.le_of_ble_eq_true rfl⟩ 0 rfl rfl rfl rfl (Nat.le_of_ble_eq_true rfl) ⟨show nC + 1 + 0 ≤ 601024 by omega, show nS + 6 + 0 ≤ 7293034 by omega⟩ [0, 1, 2, 3, 4, 5, 6, 7, 8, 9, 10] [] [0, 1, 2, 3, 4, 5, 6, 7, 8, 9, 10] rfl rfl rfl rfl dL_law_1492 1495 rfl ?_
  refine v_istore X (lv' := [(6, .int om.1), (5, .int (hcd [4] ox.1)), (0, .ref b), (1, .ref (ad 0)), (2, .ref (am 0)), (3, .ref ao), (4, .int (nlaw n))]) dL_law_1495 (by decide) rfl 1497 rfl ?_
  refine v_aload_n X dL_law_1497 4 rfl rfl 1498 rfl ?_
  refine v_callVi X (C := RX12) (ci := 11) (T := TX12) (As := []) (rest := []) (ws' := wX12 am c9 m.m_undoable m.m_undoStart om.2 m.m_inputLength m.m_position m.m_start m.m_token m.m_value m.m_letters m.m_code m.m_place m.m_outputLength m.m_s m.m_parsed m.m_tried m.m_remembered m.m_slots m.m_kept m.m_away m.m_input m.m_halfway m.m_output) (c_X12_thrown l hG D c9 am m.m_undoable m.m_undoStart om.2 m.m_inputLength m.m_position m.m_start m.m_token m.m_value m.m_letters m.m_code m.m_place m.m_outputLength m.m_s m.m_parsed m.m_tried m.m_remembered m.m_slots m.m_kept m.m_away m.m_input m.m_halfway m.m_output  rfl) 0 (gV wbd_9 wbd_10 wbd_11 wbd_7 wbd_12) rfl rfl rfl ⟨rfl, pd_X12_thrown⟩ ⟨Nat.le_of_ble_eq_true rfl, Nat.le_of_ble_eq_true rfl⟩ 0 rfl rfl rfl rfl (Nat.le_of_ble_eq_true rfl) ⟨show nC + 1 + 0 ≤ 601024 by omega, show nS + 6 + 0 ≤ 7293034 by omega⟩ [0, 1, 2, 3, 4, 5, 6, 7, 8, 9, 10] [] [0, 1, 2, 3, 4, 5, 6, 7, 8, 9, 10] rfl rfl rfl rfl dL_law_1498 1501 rfl ?_
  refine v_iload X dL_law_1501 1 rfl 1503 rfl ?_
  refine v_icmp_eq X (tgt := 1508) dL_law_1503 rfl 1506 rfl (a := some ()) (b := none) (o := ()) (if_pos ht) (fun _ => ?_) (fun h => nomatch h)
  refine v_toX ?_
  refine v_iload X dL_law_1508 1 rfl 1510 rfl ?_
  by_cases h0 : ox.1 = 0
  · refine v_if_ne X (tgt := 1525) dL_law_1510 rfl 1513 rfl (a := none) (b := some ()) (o := ()) (if_pos (by rw [h0]; rfl)) (fun h => nomatch h) (fun _ => ?_)
    refine v_aload_n X dL_law_1513 5 rfl rfl 1514 rfl ?_
    refine v_iconst X dL_law_1514 ic_0 1515 rfl ?_
    refine v_outld X dL_law_1515 1516 rfl ?_
    refine v_iload X dL_law_1516 0 rfl 1518 rfl ?_
    refine v_i2l X dL_law_1518 1519 rfl ?_
    refine v_lcmp X dL_law_1519 1520 rfl ?_
    refine v_if_eq X (tgt := 1525) dL_law_1520 rfl 1523 rfl (a := some ()) (b := none) (o := ()) (if_pos (by rw [hout, if_pos h0, ← hv h0]; exact lg_cmp_self _)) (fun _ => ?_) (fun h => nomatch h)
    refine v_goto X (tgt := 3452) dL_law_1525 rfl ?_
    refine v_sub (lv' := [(0, .ref b), (1, .ref (ad 0)), (2, .ref (am 0)), (3, .ref ao), (4, .int (nlaw n))]) [2, 3, 4, 5, 6] rfl ?_
    exact v_widen (by omega) (by omega) (K _ _ asl apa _ hR1)
  · refine v_if_ne X (tgt := 1525) dL_law_1510 rfl 1513 rfl (a := some ()) (b := none) (o := ()) (if_neg (hcd_ne h0 (by decide))) (fun _ => ?_) (fun h => nomatch h)
    refine v_goto X (tgt := 3452) dL_law_1525 rfl ?_
    refine v_sub (lv' := [(0, .ref b), (1, .ref (ad 0)), (2, .ref (am 0)), (3, .ref ao), (4, .int (nlaw n))]) [2, 3, 4, 5, 6] rfl ?_
    exact v_widen (by omega) (by omega) (K _ _ asl apa _ hR1)
set_option maxRecDepth 100000 in
set_option maxHeartbeats 4000000 in
theorem w_27 (l : Launch) {G : (Nat → Prop) → State → Heap → Prop} (hG : vG G) (hl0 : l.stackTraces = false) (hNC : ∀ (A : Nat → Prop) (U : State) (H : Heap), G A U H → ∀ q ∈ ncL, va_Nc q.1 q.2 U) (D : va_G) (c9 : Nat → ClassId) (sk sv : Nat → Nat) (hGU : ∀ (A : Nat → Prop) (U : State) (H : Heap), G A U H → vU sk sv A U H) (ad am : Nat → Nat) (ao b L : Nat) (xs : Nat → Int32) {p : Program} {e : Env} {s : State} {mm : MethodId} {args : Array Value} {below : List Frame} {meth : Method} {c : Code} {A : Nat → Prop} {Q : State → Prop} (X : vX p s mm args meth c cL_law 9 (some .boolean) RL (Cond.tt :: Wg) D (tyA c9) G A) (hX : va_X b L xs s s.heap) (hbl : b < s.heap.size) (hbA : ¬ A b) (REL : FX → FM → Prop) (hk : H27 REL) (n : Nat) (hn : n + 6 ≤ L) (hL : L ≤ 3072) (x : FX) (m : FM) (hR : REL x m) (asl apa : Nat → Nat → Nat) (fo : Nat → Int64) (nC nS : Nat) (hC : nC + 14 ≤ 601024) (hS : nS + 481 ≤ 7293034) (K : ∀ (x' : FX) (m' : FM) (asl' apa' : Nat → Nat → Nat) (fo' : Nat → Int64), REL x' m' → vW p l e room_1 s mm args below meth c 9 D A (wLF c9 x'.sl asl' x'.pa apa' ao fo' (wMf am c9 m')) (nC + 14) (nS + 481) Q (wXf ad c9 x' asl' apa') 3452 [(0, .ref b), (1, .ref (ad 0)), (2, .ref (am 0)), (3, .ref ao), (4, .int (nlaw n))] []) : vW p l e room_1 s mm args below meth c 9 D A (wLF c9 x.sl asl x.pa apa ao fo (wMf am c9 m)) nC nS Q (wXf ad c9 x asl apa) 1528 [(0, .ref b), (1, .ref (ad 0)), (2, .ref (am 0)), (3, .ref ao), (4, .int (nlaw n))] [] := by
  obtain ⟨ox, om, hx, hex, hm, ht, hv, hR1⟩ := hk x m hR (xs (nlaw n + 1).toNatClampNeg)
  refine v_aload_n X dL_law_1528 1 rfl rfl 1529 rfl ?_
  refine v_aload_n X dL_law_1529 0 rfl rfl 1530 rfl ?_
  refine v_iload X dL_law_1530 4 rfl 1532 rfl ?_
  refine v_iconst X dL_law_1532 ic_1 1533 rfl ?_
  refine v_iadd X dL_law_1533 1534 rfl ?_
  refine v_sld X hX hbl hbA (sc_in hn hL 1 (by decide)) dL_law_1534 1535 rfl ?_
  refine v_aload_n X dL_law_1535 3 rfl rfl 1536 rfl ?_
  refine v_hcallS X (S := Unit) (As := [.ref (ad 0), .int (xs (nlaw n + 1).toNatClampNeg), .ref ao]) (rest := []) (ws' := fun u => wX11 ad c9 x.nextPast x.pastCount x.i_count x.i_cells x.o_count x.o_cells x.p_start x.p_end x.p_kind x.p_value x.p_error x.p_errorAt x.p_d_time x.p_d_tolerance x.p_d_seed x.p_d_madeTickets x.p_d_cheesesOfText x.p_d_R_rows x.p_d_R_cells x.p_d_U_rows x.p_d_U_cells x.p_d_S_rows x.p_d_S_cells x.p_d_T_rows x.p_d_T_cells x.p_d_E_rows x.p_d_E_cells x.s_time x.s_tolerance x.s_seed x.s_madeTickets x.s_cheesesOfText x.s_R_rows x.s_R_cells x.s_U_rows x.s_U_cells x.s_S_rows x.s_S_cells x.s_T_rows x.s_T_cells x.s_E_rows x.s_E_cells x.sl asl x.pa apa) (F' := fun u => wLF c9 x.sl asl x.pa apa ao (hout ox.1 fo ox.2.toInt64) (wMf am c9 m)) (c_L_startOf l hG hl0 hNC D c9 sk sv hGU ad x.nextPast x.pastCount x.i_count x.i_cells x.o_count x.o_cells x.p_start x.p_end x.p_kind x.p_value x.p_error x.p_errorAt x.p_d_time x.p_d_tolerance x.p_d_seed x.p_d_madeTickets x.p_d_cheesesOfText x.p_d_R_rows x.p_d_R_cells x.p_d_U_rows x.p_d_U_cells x.p_d_S_rows x.p_d_S_cells x.p_d_T_rows x.p_d_T_cells x.p_d_E_rows x.p_d_E_cells x.s_time x.s_tolerance x.s_seed x.s_madeTickets x.s_cheesesOfText x.s_R_rows x.s_R_cells x.s_U_rows x.s_U_cells x.s_S_rows x.s_S_cells x.s_T_rows x.s_T_cells x.s_E_rows x.s_E_cells x.sl asl x.pa apa ao fo (xs (nlaw n + 1).toNatClampNeg) hx hex) 3 (gS wbd_205 wbd_206 wbd_2 wbd_207) rfl rfl rfl pd_L_startOf ⟨Nat.le_of_ble_eq_true rfl, Nat.le_of_ble_eq_true rfl⟩ rfl rfl (Nat.le_of_ble_eq_true rfl) ⟨show nC + 1 ≤ 601024 by omega, show nS + 6 ≤ 7293034 by omega⟩ (fun _ => rfl) dL_law_1536 1539 rfl (fun u _ => ?_)
  refine v_istore X (lv' := [(5, .int (hcd [4] ox.1)), (0, .ref b), (1, .ref (ad 0)), (2, .ref (am 0)), (3, .ref ao), (4, .int (nlaw n))]) dL_law_1539 (by decide) rfl 1541 rfl ?_
  refine v_toM ?_
  refine v_aload_n X dL_law_1541 3 rfl rfl 1542 rfl ?_
  refine v_aload_n X dL_law_1542 1 rfl rfl 1543 rfl ?_
  refine v_iload X dL_law_1543 5 rfl 1545 rfl ?_
  refine v_iconst X dL_law_1545 ic_1 1546 rfl ?_
  refine v_iadd X dL_law_1546 1547 rfl ?_
  refine v_sld X hX hbl hbA (sc_in hn hL 1 (by decide)) dL_law_1547 1548 rfl ?_
  refine v_callVi X (C := RX12) (ci := 11) (T := TX12) (As := [.int (xs (nlaw n + 1).toNatClampNeg)]) (rest := []) (ws' := wX12 am c9 m.m_undoable m.m_undoStart om.2 m.m_inputLength m.m_position m.m_start m.m_token m.m_value m.m_letters m.m_code m.m_place m.m_outputLength m.m_s m.m_parsed m.m_tried m.m_remembered m.m_slots m.m_kept m.m_away m.m_input m.m_halfway m.m_output) (c_X12_startOf l hG D c9 am m.m_undoable m.m_undoStart m.m_thrown m.m_inputLength m.m_position m.m_start m.m_token m.m_value m.m_letters m.m_code m.m_place m.m_outputLength m.m_s m.m_parsed m.m_tried m.m_remembered m.m_slots m.m_kept m.m_away m.m_input m.m_halfway m.m_output (xs (nlaw n + 1).toNatClampNeg) hm) 1 (gV wbd_208 wbd_209 wbd_210 wbd_7 wbd_211) rfl rfl rfl ⟨rfl, pd_X12_startOf⟩ ⟨Nat.le_of_ble_eq_true rfl, Nat.le_of_ble_eq_true rfl⟩ 0 rfl rfl rfl rfl (Nat.le_of_ble_eq_true rfl) ⟨show nC + 1 + 0 ≤ 601024 by omega, show nS + 6 + 0 ≤ 7293034 by omega⟩ [0, 1, 2, 3, 4, 5, 6, 7, 8, 9, 10] [] [0, 1, 2, 3, 4, 5, 6, 7, 8, 9, 10] rfl rfl rfl rfl dL_law_1548 1551 rfl ?_
  refine v_istore X (lv' := [(6, .int om.1), (5, .int (hcd [4] ox.1)), (0, .ref b), (1, .ref (ad 0)), (2, .ref (am 0)), (3, .ref ao), (4, .int (nlaw n))]) dL_law_1551 (by decide) rfl 1553 rfl ?_
  refine v_aload_n X dL_law_1553 4 rfl rfl 1554 rfl ?_
  refine v_callVi X (C := RX12) (ci := 11) (T := TX12) (As := []) (rest := []) (ws' := wX12 am c9 m.m_undoable m.m_undoStart om.2 m.m_inputLength m.m_position m.m_start m.m_token m.m_value m.m_letters m.m_code m.m_place m.m_outputLength m.m_s m.m_parsed m.m_tried m.m_remembered m.m_slots m.m_kept m.m_away m.m_input m.m_halfway m.m_output) (c_X12_thrown l hG D c9 am m.m_undoable m.m_undoStart om.2 m.m_inputLength m.m_position m.m_start m.m_token m.m_value m.m_letters m.m_code m.m_place m.m_outputLength m.m_s m.m_parsed m.m_tried m.m_remembered m.m_slots m.m_kept m.m_away m.m_input m.m_halfway m.m_output  rfl) 0 (gV wbd_9 wbd_10 wbd_11 wbd_7 wbd_12) rfl rfl rfl ⟨rfl, pd_X12_thrown⟩ ⟨Nat.le_of_ble_eq_true rfl, Nat.le_of_ble_eq_true rfl⟩ 0 rfl rfl rfl rfl (Nat.le_of_ble_eq_true rfl) ⟨show nC + 1 + 0 ≤ 601024 by omega, show nS + 6 + 0 ≤ 7293034 by omega⟩ [0, 1, 2, 3, 4, 5, 6, 7, 8, 9, 10] [] [0, 1, 2, 3, 4, 5, 6, 7, 8, 9, 10] rfl rfl rfl rfl dL_law_1554 1557 rfl ?_
  refine v_iload X dL_law_1557 1 rfl 1559 rfl ?_
  refine v_icmp_eq X (tgt := 1564) dL_law_1559 rfl 1562 rfl (a := some ()) (b := none) (o := ()) (if_pos ht) (fun _ => ?_) (fun h => nomatch h)
  refine v_toX ?_
  refine v_iload X dL_law_1564 1 rfl 1566 rfl ?_
  by_cases h0 : ox.1 = 0
  · refine v_if_ne X (tgt := 1581) dL_law_1566 rfl 1569 rfl (a := none) (b := some ()) (o := ()) (if_pos (by rw [h0]; rfl)) (fun h => nomatch h) (fun _ => ?_)
    refine v_aload_n X dL_law_1569 5 rfl rfl 1570 rfl ?_
    refine v_iconst X dL_law_1570 ic_0 1571 rfl ?_
    refine v_outld X dL_law_1571 1572 rfl ?_
    refine v_iload X dL_law_1572 0 rfl 1574 rfl ?_
    refine v_i2l X dL_law_1574 1575 rfl ?_
    refine v_lcmp X dL_law_1575 1576 rfl ?_
    refine v_if_eq X (tgt := 1581) dL_law_1576 rfl 1579 rfl (a := some ()) (b := none) (o := ()) (if_pos (by rw [hout, if_pos h0, ← hv h0]; exact lg_cmp_self _)) (fun _ => ?_) (fun h => nomatch h)
    refine v_goto X (tgt := 3452) dL_law_1581 rfl ?_
    refine v_sub (lv' := [(0, .ref b), (1, .ref (ad 0)), (2, .ref (am 0)), (3, .ref ao), (4, .int (nlaw n))]) [2, 3, 4, 5, 6] rfl ?_
    exact v_widen (by omega) (by omega) (K _ _ asl apa _ hR1)
  · refine v_if_ne X (tgt := 1581) dL_law_1566 rfl 1569 rfl (a := some ()) (b := none) (o := ()) (if_neg (hcd_ne h0 (by decide))) (fun _ => ?_) (fun h => nomatch h)
    refine v_goto X (tgt := 3452) dL_law_1581 rfl ?_
    refine v_sub (lv' := [(0, .ref b), (1, .ref (ad 0)), (2, .ref (am 0)), (3, .ref ao), (4, .int (nlaw n))]) [2, 3, 4, 5, 6] rfl ?_
    exact v_widen (by omega) (by omega) (K _ _ asl apa _ hR1)
set_option maxRecDepth 100000 in
set_option maxHeartbeats 4000000 in
theorem w_28 (l : Launch) {G : (Nat → Prop) → State → Heap → Prop} (hG : vG G) (hl0 : l.stackTraces = false) (hNC : ∀ (A : Nat → Prop) (U : State) (H : Heap), G A U H → ∀ q ∈ ncL, va_Nc q.1 q.2 U) (D : va_G) (c9 : Nat → ClassId) (sk sv : Nat → Nat) (hGU : ∀ (A : Nat → Prop) (U : State) (H : Heap), G A U H → vU sk sv A U H) (ad am : Nat → Nat) (ao b L : Nat) (xs : Nat → Int32) {p : Program} {e : Env} {s : State} {mm : MethodId} {args : Array Value} {below : List Frame} {meth : Method} {c : Code} {A : Nat → Prop} {Q : State → Prop} (X : vX p s mm args meth c cL_law 9 (some .boolean) RL (Cond.tt :: Wg) D (tyA c9) G A) (hX : va_X b L xs s s.heap) (hbl : b < s.heap.size) (hbA : ¬ A b) (REL : FX → FM → Prop) (hk : H28 REL) (n : Nat) (hn : n + 6 ≤ L) (hL : L ≤ 3072) (x : FX) (m : FM) (hR : REL x m) (asl apa : Nat → Nat → Nat) (fo : Nat → Int64) (nC nS : Nat) (hC : nC + 14 ≤ 601024) (hS : nS + 481 ≤ 7293034) (K : ∀ (x' : FX) (m' : FM) (asl' apa' : Nat → Nat → Nat) (fo' : Nat → Int64), REL x' m' → vW p l e room_1 s mm args below meth c 9 D A (wLF c9 x'.sl asl' x'.pa apa' ao fo' (wMf am c9 m')) (nC + 14) (nS + 481) Q (wXf ad c9 x' asl' apa') 3452 [(0, .ref b), (1, .ref (ad 0)), (2, .ref (am 0)), (3, .ref ao), (4, .int (nlaw n))] []) : vW p l e room_1 s mm args below meth c 9 D A (wLF c9 x.sl asl x.pa apa ao fo (wMf am c9 m)) nC nS Q (wXf ad c9 x asl apa) 1584 [(0, .ref b), (1, .ref (ad 0)), (2, .ref (am 0)), (3, .ref ao), (4, .int (nlaw n))] [] := by
  obtain ⟨ox, om, hx, hex, hm, ht, hv, hR1⟩ := hk x m hR (xs (nlaw n + 1).toNatClampNeg)
  refine v_aload_n X dL_law_1584 1 rfl rfl 1585 rfl ?_
  refine v_aload_n X dL_law_1585 0 rfl rfl 1586 rfl ?_
  refine v_iload X dL_law_1586 4 rfl 1588 rfl ?_
  refine v_iconst X dL_law_1588 ic_1 1589 rfl ?_
  refine v_iadd X dL_law_1589 1590 rfl ?_
  refine v_sld X hX hbl hbA (sc_in hn hL 1 (by decide)) dL_law_1590 1591 rfl ?_
  refine v_aload_n X dL_law_1591 3 rfl rfl 1592 rfl ?_
  refine v_hcallS X (S := Unit) (As := [.ref (ad 0), .int (xs (nlaw n + 1).toNatClampNeg), .ref ao]) (rest := []) (ws' := fun u => wX11 ad c9 x.nextPast x.pastCount x.i_count x.i_cells x.o_count x.o_cells x.p_start x.p_end x.p_kind x.p_value x.p_error x.p_errorAt x.p_d_time x.p_d_tolerance x.p_d_seed x.p_d_madeTickets x.p_d_cheesesOfText x.p_d_R_rows x.p_d_R_cells x.p_d_U_rows x.p_d_U_cells x.p_d_S_rows x.p_d_S_cells x.p_d_T_rows x.p_d_T_cells x.p_d_E_rows x.p_d_E_cells x.s_time x.s_tolerance x.s_seed x.s_madeTickets x.s_cheesesOfText x.s_R_rows x.s_R_cells x.s_U_rows x.s_U_cells x.s_S_rows x.s_S_cells x.s_T_rows x.s_T_cells x.s_E_rows x.s_E_cells x.sl asl x.pa apa) (F' := fun u => wLF c9 x.sl asl x.pa apa ao (hout ox.1 fo ox.2.toInt64) (wMf am c9 m)) (c_L_endOf l hG hl0 hNC D c9 sk sv hGU ad x.nextPast x.pastCount x.i_count x.i_cells x.o_count x.o_cells x.p_start x.p_end x.p_kind x.p_value x.p_error x.p_errorAt x.p_d_time x.p_d_tolerance x.p_d_seed x.p_d_madeTickets x.p_d_cheesesOfText x.p_d_R_rows x.p_d_R_cells x.p_d_U_rows x.p_d_U_cells x.p_d_S_rows x.p_d_S_cells x.p_d_T_rows x.p_d_T_cells x.p_d_E_rows x.p_d_E_cells x.s_time x.s_tolerance x.s_seed x.s_madeTickets x.s_cheesesOfText x.s_R_rows x.s_R_cells x.s_U_rows x.s_U_cells x.s_S_rows x.s_S_cells x.s_T_rows x.s_T_cells x.s_E_rows x.s_E_cells x.sl asl x.pa apa ao fo (xs (nlaw n + 1).toNatClampNeg) hx hex) 3 (gS wbd_212 wbd_213 wbd_2 wbd_214) rfl rfl rfl pd_L_endOf ⟨Nat.le_of_ble_eq_true rfl, Nat.le_of_ble_eq_true rfl⟩ rfl rfl (Nat.le_of_ble_eq_true rfl) ⟨show nC + 1 ≤ 601024 by omega, show nS + 6 ≤ 7293034 by omega⟩ (fun _ => rfl) dL_law_1592 1595 rfl (fun u _ => ?_)
  refine v_istore X (lv' := [(5, .int (hcd [4] ox.1)), (0, .ref b), (1, .ref (ad 0)), (2, .ref (am 0)), (3, .ref ao), (4, .int (nlaw n))]) dL_law_1595 (by decide) rfl 1597 rfl ?_
  refine v_toM ?_
  refine v_aload_n X dL_law_1597 3 rfl rfl 1598 rfl ?_
  refine v_aload_n X dL_law_1598 1 rfl rfl 1599 rfl ?_
  refine v_iload X dL_law_1599 5 rfl 1601 rfl ?_
  refine v_iconst X dL_law_1601 ic_1 1602 rfl ?_
  refine v_iadd X dL_law_1602 1603 rfl ?_
  refine v_sld X hX hbl hbA (sc_in hn hL 1 (by decide)) dL_law_1603 1604 rfl ?_
  refine v_callVi X (C := RX12) (ci := 11) (T := TX12) (As := [.int (xs (nlaw n + 1).toNatClampNeg)]) (rest := []) (ws' := wX12 am c9 m.m_undoable m.m_undoStart om.2 m.m_inputLength m.m_position m.m_start m.m_token m.m_value m.m_letters m.m_code m.m_place m.m_outputLength m.m_s m.m_parsed m.m_tried m.m_remembered m.m_slots m.m_kept m.m_away m.m_input m.m_halfway m.m_output) (c_X12_endOf l hG D c9 am m.m_undoable m.m_undoStart m.m_thrown m.m_inputLength m.m_position m.m_start m.m_token m.m_value m.m_letters m.m_code m.m_place m.m_outputLength m.m_s m.m_parsed m.m_tried m.m_remembered m.m_slots m.m_kept m.m_away m.m_input m.m_halfway m.m_output (xs (nlaw n + 1).toNatClampNeg) hm) 1 (gV wbd_215 wbd_216 wbd_217 wbd_7 wbd_218) rfl rfl rfl ⟨rfl, pd_X12_endOf⟩ ⟨Nat.le_of_ble_eq_true rfl, Nat.le_of_ble_eq_true rfl⟩ 0 rfl rfl rfl rfl (Nat.le_of_ble_eq_true rfl) ⟨show nC + 1 + 0 ≤ 601024 by omega, show nS + 6 + 0 ≤ 7293034 by omega⟩ [0, 1, 2, 3, 4, 5, 6, 7, 8, 9, 10] [] [0, 1, 2, 3, 4, 5, 6, 7, 8, 9, 10] rfl rfl rfl rfl dL_law_1604 1607 rfl ?_
  refine v_istore X (lv' := [(6, .int om.1), (5, .int (hcd [4] ox.1)), (0, .ref b), (1, .ref (ad 0)), (2, .ref (am 0)), (3, .ref ao), (4, .int (nlaw n))]) dL_law_1607 (by decide) rfl 1609 rfl ?_
  refine v_aload_n X dL_law_1609 4 rfl rfl 1610 rfl ?_
  refine v_callVi X (C := RX12) (ci := 11) (T := TX12) (As := []) (rest := []) (ws' := wX12 am c9 m.m_undoable m.m_undoStart om.2 m.m_inputLength m.m_position m.m_start m.m_token m.m_value m.m_letters m.m_code m.m_place m.m_outputLength m.m_s m.m_parsed m.m_tried m.m_remembered m.m_slots m.m_kept m.m_away m.m_input m.m_halfway m.m_output) (c_X12_thrown l hG D c9 am m.m_undoable m.m_undoStart om.2 m.m_inputLength m.m_position m.m_start m.m_token m.m_value m.m_letters m.m_code m.m_place m.m_outputLength m.m_s m.m_parsed m.m_tried m.m_remembered m.m_slots m.m_kept m.m_away m.m_input m.m_halfway m.m_output  rfl) 0 (gV wbd_9 wbd_10 wbd_11 wbd_7 wbd_12) rfl rfl rfl ⟨rfl, pd_X12_thrown⟩ ⟨Nat.le_of_ble_eq_true rfl, Nat.le_of_ble_eq_true rfl⟩ 0 rfl rfl rfl rfl (Nat.le_of_ble_eq_true rfl) ⟨show nC + 1 + 0 ≤ 601024 by omega, show nS + 6 + 0 ≤ 7293034 by omega⟩ [0, 1, 2, 3, 4, 5, 6, 7, 8, 9, 10] [] [0, 1, 2, 3, 4, 5, 6, 7, 8, 9, 10] rfl rfl rfl rfl dL_law_1610 1613 rfl ?_
  refine v_iload X dL_law_1613 1 rfl 1615 rfl ?_
  refine v_icmp_eq X (tgt := 1620) dL_law_1615 rfl 1618 rfl (a := some ()) (b := none) (o := ()) (if_pos ht) (fun _ => ?_) (fun h => nomatch h)
  refine v_toX ?_
  refine v_iload X dL_law_1620 1 rfl 1622 rfl ?_
  by_cases h0 : ox.1 = 0
  · refine v_if_ne X (tgt := 1637) dL_law_1622 rfl 1625 rfl (a := none) (b := some ()) (o := ()) (if_pos (by rw [h0]; rfl)) (fun h => nomatch h) (fun _ => ?_)
    refine v_aload_n X dL_law_1625 5 rfl rfl 1626 rfl ?_
    refine v_iconst X dL_law_1626 ic_0 1627 rfl ?_
    refine v_outld X dL_law_1627 1628 rfl ?_
    refine v_iload X dL_law_1628 0 rfl 1630 rfl ?_
    refine v_i2l X dL_law_1630 1631 rfl ?_
    refine v_lcmp X dL_law_1631 1632 rfl ?_
    refine v_if_eq X (tgt := 1637) dL_law_1632 rfl 1635 rfl (a := some ()) (b := none) (o := ()) (if_pos (by rw [hout, if_pos h0, ← hv h0]; exact lg_cmp_self _)) (fun _ => ?_) (fun h => nomatch h)
    refine v_goto X (tgt := 3452) dL_law_1637 rfl ?_
    refine v_sub (lv' := [(0, .ref b), (1, .ref (ad 0)), (2, .ref (am 0)), (3, .ref ao), (4, .int (nlaw n))]) [2, 3, 4, 5, 6] rfl ?_
    exact v_widen (by omega) (by omega) (K _ _ asl apa _ hR1)
  · refine v_if_ne X (tgt := 1637) dL_law_1622 rfl 1625 rfl (a := some ()) (b := none) (o := ()) (if_neg (hcd_ne h0 (by decide))) (fun _ => ?_) (fun h => nomatch h)
    refine v_goto X (tgt := 3452) dL_law_1637 rfl ?_
    refine v_sub (lv' := [(0, .ref b), (1, .ref (ad 0)), (2, .ref (am 0)), (3, .ref ao), (4, .int (nlaw n))]) [2, 3, 4, 5, 6] rfl ?_
    exact v_widen (by omega) (by omega) (K _ _ asl apa _ hR1)
set_option maxRecDepth 100000 in
set_option maxHeartbeats 4000000 in
theorem w_29 (l : Launch) {G : (Nat → Prop) → State → Heap → Prop} (hG : vG G) (hl0 : l.stackTraces = false) (hNC : ∀ (A : Nat → Prop) (U : State) (H : Heap), G A U H → ∀ q ∈ ncL, va_Nc q.1 q.2 U) (D : va_G) (c9 : Nat → ClassId) (sk sv : Nat → Nat) (hGU : ∀ (A : Nat → Prop) (U : State) (H : Heap), G A U H → vU sk sv A U H) (ad am : Nat → Nat) (ao b L : Nat) (xs : Nat → Int32) {p : Program} {e : Env} {s : State} {mm : MethodId} {args : Array Value} {below : List Frame} {meth : Method} {c : Code} {A : Nat → Prop} {Q : State → Prop} (X : vX p s mm args meth c cL_law 9 (some .boolean) RL (Cond.tt :: Wg) D (tyA c9) G A) (hX : va_X b L xs s s.heap) (hbl : b < s.heap.size) (hbA : ¬ A b) (REL : FX → FM → Prop) (hk : H29 REL) (n : Nat) (hn : n + 6 ≤ L) (hL : L ≤ 3072) (x : FX) (m : FM) (hR : REL x m) (asl apa : Nat → Nat → Nat) (fo : Nat → Int64) (nC nS : Nat) (hC : nC + 14 ≤ 601024) (hS : nS + 481 ≤ 7293034) (K : ∀ (x' : FX) (m' : FM) (asl' apa' : Nat → Nat → Nat) (fo' : Nat → Int64), REL x' m' → vW p l e room_1 s mm args below meth c 9 D A (wLF c9 x'.sl asl' x'.pa apa' ao fo' (wMf am c9 m')) (nC + 14) (nS + 481) Q (wXf ad c9 x' asl' apa') 3452 [(0, .ref b), (1, .ref (ad 0)), (2, .ref (am 0)), (3, .ref ao), (4, .int (nlaw n))] []) : vW p l e room_1 s mm args below meth c 9 D A (wLF c9 x.sl asl x.pa apa ao fo (wMf am c9 m)) nC nS Q (wXf ad c9 x asl apa) 1640 [(0, .ref b), (1, .ref (ad 0)), (2, .ref (am 0)), (3, .ref ao), (4, .int (nlaw n))] [] := by
  obtain ⟨ox, om, hx, hex, hm, ht, hv, hR1⟩ := hk x m hR (xs (nlaw n + 1).toNatClampNeg)
  refine v_aload_n X dL_law_1640 1 rfl rfl 1641 rfl ?_
  refine v_aload_n X dL_law_1641 0 rfl rfl 1642 rfl ?_
  refine v_iload X dL_law_1642 4 rfl 1644 rfl ?_
  refine v_iconst X dL_law_1644 ic_1 1645 rfl ?_
  refine v_iadd X dL_law_1645 1646 rfl ?_
  refine v_sld X hX hbl hbA (sc_in hn hL 1 (by decide)) dL_law_1646 1647 rfl ?_
  refine v_aload_n X dL_law_1647 3 rfl rfl 1648 rfl ?_
  refine v_hcallS X (S := Unit) (As := [.ref (ad 0), .int (xs (nlaw n + 1).toNatClampNeg), .ref ao]) (rest := []) (ws' := fun u => wX11 ad c9 x.nextPast x.pastCount x.i_count x.i_cells x.o_count x.o_cells x.p_start x.p_end x.p_kind x.p_value x.p_error x.p_errorAt x.p_d_time x.p_d_tolerance x.p_d_seed x.p_d_madeTickets x.p_d_cheesesOfText x.p_d_R_rows x.p_d_R_cells x.p_d_U_rows x.p_d_U_cells x.p_d_S_rows x.p_d_S_cells x.p_d_T_rows x.p_d_T_cells x.p_d_E_rows x.p_d_E_cells x.s_time x.s_tolerance x.s_seed x.s_madeTickets x.s_cheesesOfText x.s_R_rows x.s_R_cells x.s_U_rows x.s_U_cells x.s_S_rows x.s_S_cells x.s_T_rows x.s_T_cells x.s_E_rows x.s_E_cells x.sl asl x.pa apa) (F' := fun u => wLF c9 x.sl asl x.pa apa ao (hout ox.1 fo ox.2.toInt64) (wMf am c9 m)) (c_L_lastEndOf l hG hl0 hNC D c9 sk sv hGU ad x.nextPast x.pastCount x.i_count x.i_cells x.o_count x.o_cells x.p_start x.p_end x.p_kind x.p_value x.p_error x.p_errorAt x.p_d_time x.p_d_tolerance x.p_d_seed x.p_d_madeTickets x.p_d_cheesesOfText x.p_d_R_rows x.p_d_R_cells x.p_d_U_rows x.p_d_U_cells x.p_d_S_rows x.p_d_S_cells x.p_d_T_rows x.p_d_T_cells x.p_d_E_rows x.p_d_E_cells x.s_time x.s_tolerance x.s_seed x.s_madeTickets x.s_cheesesOfText x.s_R_rows x.s_R_cells x.s_U_rows x.s_U_cells x.s_S_rows x.s_S_cells x.s_T_rows x.s_T_cells x.s_E_rows x.s_E_cells x.sl asl x.pa apa ao fo (xs (nlaw n + 1).toNatClampNeg) hx hex) 3 (gS wbd_219 wbd_220 wbd_2 wbd_221) rfl rfl rfl pd_L_lastEndOf ⟨Nat.le_of_ble_eq_true rfl, Nat.le_of_ble_eq_true rfl⟩ rfl rfl (Nat.le_of_ble_eq_true rfl) ⟨show nC + 1 ≤ 601024 by omega, show nS + 6 ≤ 7293034 by omega⟩ (fun _ => rfl) dL_law_1648 1651 rfl (fun u _ => ?_)
  refine v_istore X (lv' := [(5, .int (hcd [4] ox.1)), (0, .ref b), (1, .ref (ad 0)), (2, .ref (am 0)), (3, .ref ao), (4, .int (nlaw n))]) dL_law_1651 (by decide) rfl 1653 rfl ?_
  refine v_toM ?_
  refine v_aload_n X dL_law_1653 3 rfl rfl 1654 rfl ?_
  refine v_aload_n X dL_law_1654 1 rfl rfl 1655 rfl ?_
  refine v_iload X dL_law_1655 5 rfl 1657 rfl ?_
  refine v_iconst X dL_law_1657 ic_1 1658 rfl ?_
  refine v_iadd X dL_law_1658 1659 rfl ?_
  refine v_sld X hX hbl hbA (sc_in hn hL 1 (by decide)) dL_law_1659 1660 rfl ?_
  refine v_callVi X (C := RX12) (ci := 11) (T := TX12) (As := [.int (xs (nlaw n + 1).toNatClampNeg)]) (rest := []) (ws' := wX12 am c9 m.m_undoable m.m_undoStart om.2 m.m_inputLength m.m_position m.m_start m.m_token m.m_value m.m_letters m.m_code m.m_place m.m_outputLength m.m_s m.m_parsed m.m_tried m.m_remembered m.m_slots m.m_kept m.m_away m.m_input m.m_halfway m.m_output) (c_X12_lastEndOf l hG D c9 am m.m_undoable m.m_undoStart m.m_thrown m.m_inputLength m.m_position m.m_start m.m_token m.m_value m.m_letters m.m_code m.m_place m.m_outputLength m.m_s m.m_parsed m.m_tried m.m_remembered m.m_slots m.m_kept m.m_away m.m_input m.m_halfway m.m_output (xs (nlaw n + 1).toNatClampNeg) hm) 1 (gV wbd_222 wbd_223 wbd_224 wbd_7 wbd_225) rfl rfl rfl ⟨rfl, pd_X12_lastEndOf⟩ ⟨Nat.le_of_ble_eq_true rfl, Nat.le_of_ble_eq_true rfl⟩ 0 rfl rfl rfl rfl (Nat.le_of_ble_eq_true rfl) ⟨show nC + 1 + 0 ≤ 601024 by omega, show nS + 6 + 0 ≤ 7293034 by omega⟩ [0, 1, 2, 3, 4, 5, 6, 7, 8, 9, 10] [] [0, 1, 2, 3, 4, 5, 6, 7, 8, 9, 10] rfl rfl rfl rfl dL_law_1660 1663 rfl ?_
  refine v_istore X (lv' := [(6, .int om.1), (5, .int (hcd [4] ox.1)), (0, .ref b), (1, .ref (ad 0)), (2, .ref (am 0)), (3, .ref ao), (4, .int (nlaw n))]) dL_law_1663 (by decide) rfl 1665 rfl ?_
  refine v_aload_n X dL_law_1665 4 rfl rfl 1666 rfl ?_
  refine v_callVi X (C := RX12) (ci := 11) (T := TX12) (As := []) (rest := []) (ws' := wX12 am c9 m.m_undoable m.m_undoStart om.2 m.m_inputLength m.m_position m.m_start m.m_token m.m_value m.m_letters m.m_code m.m_place m.m_outputLength m.m_s m.m_parsed m.m_tried m.m_remembered m.m_slots m.m_kept m.m_away m.m_input m.m_halfway m.m_output) (c_X12_thrown l hG D c9 am m.m_undoable m.m_undoStart om.2 m.m_inputLength m.m_position m.m_start m.m_token m.m_value m.m_letters m.m_code m.m_place m.m_outputLength m.m_s m.m_parsed m.m_tried m.m_remembered m.m_slots m.m_kept m.m_away m.m_input m.m_halfway m.m_output  rfl) 0 (gV wbd_9 wbd_10 wbd_11 wbd_7 wbd_12) rfl rfl rfl ⟨rfl, pd_X12_thrown⟩ ⟨Nat.le_of_ble_eq_true rfl, Nat.le_of_ble_eq_true rfl⟩ 0 rfl rfl rfl rfl (Nat.le_of_ble_eq_true rfl) ⟨show nC + 1 + 0 ≤ 601024 by omega, show nS + 6 + 0 ≤ 7293034 by omega⟩ [0, 1, 2, 3, 4, 5, 6, 7, 8, 9, 10] [] [0, 1, 2, 3, 4, 5, 6, 7, 8, 9, 10] rfl rfl rfl rfl dL_law_1666 1669 rfl ?_
  refine v_iload X dL_law_1669 1 rfl 1671 rfl ?_
  refine v_icmp_eq X (tgt := 1676) dL_law_1671 rfl 1674 rfl (a := some ()) (b := none) (o := ()) (if_pos ht) (fun _ => ?_) (fun h => nomatch h)
  refine v_toX ?_
  refine v_iload X dL_law_1676 1 rfl 1678 rfl ?_
  by_cases h0 : ox.1 = 0
  · refine v_if_ne X (tgt := 1693) dL_law_1678 rfl 1681 rfl (a := none) (b := some ()) (o := ()) (if_pos (by rw [h0]; rfl)) (fun h => nomatch h) (fun _ => ?_)
    refine v_aload_n X dL_law_1681 5 rfl rfl 1682 rfl ?_
    refine v_iconst X dL_law_1682 ic_0 1683 rfl ?_
    refine v_outld X dL_law_1683 1684 rfl ?_
    refine v_iload X dL_law_1684 0 rfl 1686 rfl ?_
    refine v_i2l X dL_law_1686 1687 rfl ?_
    refine v_lcmp X dL_law_1687 1688 rfl ?_
    refine v_if_eq X (tgt := 1693) dL_law_1688 rfl 1691 rfl (a := some ()) (b := none) (o := ()) (if_pos (by rw [hout, if_pos h0, ← hv h0]; exact lg_cmp_self _)) (fun _ => ?_) (fun h => nomatch h)
    refine v_goto X (tgt := 3452) dL_law_1693 rfl ?_
    refine v_sub (lv' := [(0, .ref b), (1, .ref (ad 0)), (2, .ref (am 0)), (3, .ref ao), (4, .int (nlaw n))]) [2, 3, 4, 5, 6] rfl ?_
    exact v_widen (by omega) (by omega) (K _ _ asl apa _ hR1)
  · refine v_if_ne X (tgt := 1693) dL_law_1678 rfl 1681 rfl (a := some ()) (b := none) (o := ()) (if_neg (hcd_ne h0 (by decide))) (fun _ => ?_) (fun h => nomatch h)
    refine v_goto X (tgt := 3452) dL_law_1693 rfl ?_
    refine v_sub (lv' := [(0, .ref b), (1, .ref (ad 0)), (2, .ref (am 0)), (3, .ref ao), (4, .int (nlaw n))]) [2, 3, 4, 5, 6] rfl ?_
    exact v_widen (by omega) (by omega) (K _ _ asl apa _ hR1)
set_option maxRecDepth 100000 in
set_option maxHeartbeats 4000000 in
theorem w_30 (l : Launch) {G : (Nat → Prop) → State → Heap → Prop} (hG : vG G) (hl0 : l.stackTraces = false) (hNC : ∀ (A : Nat → Prop) (U : State) (H : Heap), G A U H → ∀ q ∈ ncL, va_Nc q.1 q.2 U) (D : va_G) (c9 : Nat → ClassId) (sk sv : Nat → Nat) (hGU : ∀ (A : Nat → Prop) (U : State) (H : Heap), G A U H → vU sk sv A U H) (ad am : Nat → Nat) (ao b L : Nat) (xs : Nat → Int32) {p : Program} {e : Env} {s : State} {mm : MethodId} {args : Array Value} {below : List Frame} {meth : Method} {c : Code} {A : Nat → Prop} {Q : State → Prop} (X : vX p s mm args meth c cL_law 9 (some .boolean) RL (Cond.tt :: Wg) D (tyA c9) G A) (hX : va_X b L xs s s.heap) (hbl : b < s.heap.size) (hbA : ¬ A b) (REL : FX → FM → Prop) (hk : H30 REL) (n : Nat) (hn : n + 6 ≤ L) (hL : L ≤ 3072) (x : FX) (m : FM) (hR : REL x m) (asl apa : Nat → Nat → Nat) (fo : Nat → Int64) (nC nS : Nat) (hC : nC + 14 ≤ 601024) (hS : nS + 481 ≤ 7293034) (K : ∀ (x' : FX) (m' : FM) (asl' apa' : Nat → Nat → Nat) (fo' : Nat → Int64), REL x' m' → vW p l e room_1 s mm args below meth c 9 D A (wLF c9 x'.sl asl' x'.pa apa' ao fo' (wMf am c9 m')) (nC + 14) (nS + 481) Q (wXf ad c9 x' asl' apa') 3452 [(0, .ref b), (1, .ref (ad 0)), (2, .ref (am 0)), (3, .ref ao), (4, .int (nlaw n))] []) : vW p l e room_1 s mm args below meth c 9 D A (wLF c9 x.sl asl x.pa apa ao fo (wMf am c9 m)) nC nS Q (wXf ad c9 x asl apa) 1696 [(0, .ref b), (1, .ref (ad 0)), (2, .ref (am 0)), (3, .ref ao), (4, .int (nlaw n))] [] := by
  obtain ⟨ox, om, hx, hex, hm, ht, hv, hR1⟩ := hk x m hR (xs (nlaw n + 1).toNatClampNeg)
  refine v_aload_n X dL_law_1696 1 rfl rfl 1697 rfl ?_
  refine v_aload_n X dL_law_1697 0 rfl rfl 1698 rfl ?_
  refine v_iload X dL_law_1698 4 rfl 1700 rfl ?_
  refine v_iconst X dL_law_1700 ic_1 1701 rfl ?_
  refine v_iadd X dL_law_1701 1702 rfl ?_
  refine v_sld X hX hbl hbA (sc_in hn hL 1 (by decide)) dL_law_1702 1703 rfl ?_
  refine v_aload_n X dL_law_1703 3 rfl rfl 1704 rfl ?_
  refine v_hcallS X (S := Unit) (As := [.ref (ad 0), .int (xs (nlaw n + 1).toNatClampNeg), .ref ao]) (rest := []) (ws' := fun u => wX11 ad c9 x.nextPast x.pastCount x.i_count x.i_cells x.o_count x.o_cells x.p_start x.p_end x.p_kind x.p_value x.p_error x.p_errorAt x.p_d_time x.p_d_tolerance x.p_d_seed x.p_d_madeTickets x.p_d_cheesesOfText x.p_d_R_rows x.p_d_R_cells x.p_d_U_rows x.p_d_U_cells x.p_d_S_rows x.p_d_S_cells x.p_d_T_rows x.p_d_T_cells x.p_d_E_rows x.p_d_E_cells x.s_time x.s_tolerance x.s_seed x.s_madeTickets x.s_cheesesOfText x.s_R_rows x.s_R_cells x.s_U_rows x.s_U_cells x.s_S_rows x.s_S_cells x.s_T_rows x.s_T_cells x.s_E_rows x.s_E_cells x.sl asl x.pa apa) (F' := fun u => wLF c9 x.sl asl x.pa apa ao (hout ox.1 fo ox.2.toInt64) (wMf am c9 m)) (c_L_keyOf l hG hl0 hNC D c9 sk sv hGU ad x.nextPast x.pastCount x.i_count x.i_cells x.o_count x.o_cells x.p_start x.p_end x.p_kind x.p_value x.p_error x.p_errorAt x.p_d_time x.p_d_tolerance x.p_d_seed x.p_d_madeTickets x.p_d_cheesesOfText x.p_d_R_rows x.p_d_R_cells x.p_d_U_rows x.p_d_U_cells x.p_d_S_rows x.p_d_S_cells x.p_d_T_rows x.p_d_T_cells x.p_d_E_rows x.p_d_E_cells x.s_time x.s_tolerance x.s_seed x.s_madeTickets x.s_cheesesOfText x.s_R_rows x.s_R_cells x.s_U_rows x.s_U_cells x.s_S_rows x.s_S_cells x.s_T_rows x.s_T_cells x.s_E_rows x.s_E_cells x.sl asl x.pa apa ao fo (xs (nlaw n + 1).toNatClampNeg) hx hex) 3 (gS wbd_226 wbd_227 wbd_2 wbd_228) rfl rfl rfl pd_L_keyOf ⟨Nat.le_of_ble_eq_true rfl, Nat.le_of_ble_eq_true rfl⟩ rfl rfl (Nat.le_of_ble_eq_true rfl) ⟨show nC + 1 ≤ 601024 by omega, show nS + 6 ≤ 7293034 by omega⟩ (fun _ => rfl) dL_law_1704 1707 rfl (fun u _ => ?_)
  refine v_istore X (lv' := [(5, .int (hcd [4] ox.1)), (0, .ref b), (1, .ref (ad 0)), (2, .ref (am 0)), (3, .ref ao), (4, .int (nlaw n))]) dL_law_1707 (by decide) rfl 1709 rfl ?_
  refine v_toM ?_
  refine v_aload_n X dL_law_1709 3 rfl rfl 1710 rfl ?_
  refine v_aload_n X dL_law_1710 1 rfl rfl 1711 rfl ?_
  refine v_iload X dL_law_1711 5 rfl 1713 rfl ?_
  refine v_iconst X dL_law_1713 ic_1 1714 rfl ?_
  refine v_iadd X dL_law_1714 1715 rfl ?_
  refine v_sld X hX hbl hbA (sc_in hn hL 1 (by decide)) dL_law_1715 1716 rfl ?_
  refine v_callVi X (C := RX12) (ci := 11) (T := TX12) (As := [.int (xs (nlaw n + 1).toNatClampNeg)]) (rest := []) (ws' := wX12 am c9 m.m_undoable m.m_undoStart om.2 m.m_inputLength m.m_position m.m_start m.m_token m.m_value m.m_letters m.m_code m.m_place m.m_outputLength m.m_s m.m_parsed m.m_tried m.m_remembered m.m_slots m.m_kept m.m_away m.m_input m.m_halfway m.m_output) (c_X12_keyOf l hG D c9 am m.m_undoable m.m_undoStart m.m_thrown m.m_inputLength m.m_position m.m_start m.m_token m.m_value m.m_letters m.m_code m.m_place m.m_outputLength m.m_s m.m_parsed m.m_tried m.m_remembered m.m_slots m.m_kept m.m_away m.m_input m.m_halfway m.m_output (xs (nlaw n + 1).toNatClampNeg) hm) 1 (gV wbd_229 wbd_230 wbd_231 wbd_7 wbd_232) rfl rfl rfl ⟨rfl, pd_X12_keyOf⟩ ⟨Nat.le_of_ble_eq_true rfl, Nat.le_of_ble_eq_true rfl⟩ 0 rfl rfl rfl rfl (Nat.le_of_ble_eq_true rfl) ⟨show nC + 1 + 0 ≤ 601024 by omega, show nS + 6 + 0 ≤ 7293034 by omega⟩ [0, 1, 2, 3, 4, 5, 6, 7, 8, 9, 10] [] [0, 1, 2, 3, 4, 5, 6, 7, 8, 9, 10] rfl rfl rfl rfl dL_law_1716 1719 rfl ?_
  refine v_istore X (lv' := [(6, .int om.1), (5, .int (hcd [4] ox.1)), (0, .ref b), (1, .ref (ad 0)), (2, .ref (am 0)), (3, .ref ao), (4, .int (nlaw n))]) dL_law_1719 (by decide) rfl 1721 rfl ?_
  refine v_aload_n X dL_law_1721 4 rfl rfl 1722 rfl ?_
  refine v_callVi X (C := RX12) (ci := 11) (T := TX12) (As := []) (rest := []) (ws' := wX12 am c9 m.m_undoable m.m_undoStart om.2 m.m_inputLength m.m_position m.m_start m.m_token m.m_value m.m_letters m.m_code m.m_place m.m_outputLength m.m_s m.m_parsed m.m_tried m.m_remembered m.m_slots m.m_kept m.m_away m.m_input m.m_halfway m.m_output) (c_X12_thrown l hG D c9 am m.m_undoable m.m_undoStart om.2 m.m_inputLength m.m_position m.m_start m.m_token m.m_value m.m_letters m.m_code m.m_place m.m_outputLength m.m_s m.m_parsed m.m_tried m.m_remembered m.m_slots m.m_kept m.m_away m.m_input m.m_halfway m.m_output  rfl) 0 (gV wbd_9 wbd_10 wbd_11 wbd_7 wbd_12) rfl rfl rfl ⟨rfl, pd_X12_thrown⟩ ⟨Nat.le_of_ble_eq_true rfl, Nat.le_of_ble_eq_true rfl⟩ 0 rfl rfl rfl rfl (Nat.le_of_ble_eq_true rfl) ⟨show nC + 1 + 0 ≤ 601024 by omega, show nS + 6 + 0 ≤ 7293034 by omega⟩ [0, 1, 2, 3, 4, 5, 6, 7, 8, 9, 10] [] [0, 1, 2, 3, 4, 5, 6, 7, 8, 9, 10] rfl rfl rfl rfl dL_law_1722 1725 rfl ?_
  refine v_iload X dL_law_1725 1 rfl 1727 rfl ?_
  refine v_icmp_eq X (tgt := 1732) dL_law_1727 rfl 1730 rfl (a := some ()) (b := none) (o := ()) (if_pos ht) (fun _ => ?_) (fun h => nomatch h)
  refine v_toX ?_
  refine v_iload X dL_law_1732 1 rfl 1734 rfl ?_
  by_cases h0 : ox.1 = 0
  · refine v_if_ne X (tgt := 1749) dL_law_1734 rfl 1737 rfl (a := none) (b := some ()) (o := ()) (if_pos (by rw [h0]; rfl)) (fun h => nomatch h) (fun _ => ?_)
    refine v_aload_n X dL_law_1737 5 rfl rfl 1738 rfl ?_
    refine v_iconst X dL_law_1738 ic_0 1739 rfl ?_
    refine v_outld X dL_law_1739 1740 rfl ?_
    refine v_iload X dL_law_1740 0 rfl 1742 rfl ?_
    refine v_i2l X dL_law_1742 1743 rfl ?_
    refine v_lcmp X dL_law_1743 1744 rfl ?_
    refine v_if_eq X (tgt := 1749) dL_law_1744 rfl 1747 rfl (a := some ()) (b := none) (o := ()) (if_pos (by rw [hout, if_pos h0, ← hv h0]; exact lg_cmp_self _)) (fun _ => ?_) (fun h => nomatch h)
    refine v_goto X (tgt := 3452) dL_law_1749 rfl ?_
    refine v_sub (lv' := [(0, .ref b), (1, .ref (ad 0)), (2, .ref (am 0)), (3, .ref ao), (4, .int (nlaw n))]) [2, 3, 4, 5, 6] rfl ?_
    exact v_widen (by omega) (by omega) (K _ _ asl apa _ hR1)
  · refine v_if_ne X (tgt := 1749) dL_law_1734 rfl 1737 rfl (a := some ()) (b := none) (o := ()) (if_neg (hcd_ne h0 (by decide))) (fun _ => ?_) (fun h => nomatch h)
    refine v_goto X (tgt := 3452) dL_law_1749 rfl ?_
    refine v_sub (lv' := [(0, .ref b), (1, .ref (ad 0)), (2, .ref (am 0)), (3, .ref ao), (4, .int (nlaw n))]) [2, 3, 4, 5, 6] rfl ?_
    exact v_widen (by omega) (by omega) (K _ _ asl apa _ hR1)
set_option maxRecDepth 100000 in
set_option maxHeartbeats 4000000 in
theorem w_31 (l : Launch) {G : (Nat → Prop) → State → Heap → Prop} (hG : vG G) (hl0 : l.stackTraces = false) (hNC : ∀ (A : Nat → Prop) (U : State) (H : Heap), G A U H → ∀ q ∈ ncL, va_Nc q.1 q.2 U) (D : va_G) (c9 : Nat → ClassId) (sk sv : Nat → Nat) (hGU : ∀ (A : Nat → Prop) (U : State) (H : Heap), G A U H → vU sk sv A U H) (ad am : Nat → Nat) (ao b L : Nat) (xs : Nat → Int32) {p : Program} {e : Env} {s : State} {mm : MethodId} {args : Array Value} {below : List Frame} {meth : Method} {c : Code} {A : Nat → Prop} {Q : State → Prop} (X : vX p s mm args meth c cL_law 9 (some .boolean) RL (Cond.tt :: Wg) D (tyA c9) G A) (hX : va_X b L xs s s.heap) (hbl : b < s.heap.size) (hbA : ¬ A b) (REL : FX → FM → Prop) (hk : H31 REL) (n : Nat) (hn : n + 6 ≤ L) (hL : L ≤ 3072) (x : FX) (m : FM) (hR : REL x m) (asl apa : Nat → Nat → Nat) (fo : Nat → Int64) (nC nS : Nat) (hC : nC + 14 ≤ 601024) (hS : nS + 481 ≤ 7293034) (K : ∀ (x' : FX) (m' : FM) (asl' apa' : Nat → Nat → Nat) (fo' : Nat → Int64), REL x' m' → vW p l e room_1 s mm args below meth c 9 D A (wLF c9 x'.sl asl' x'.pa apa' ao fo' (wMf am c9 m')) (nC + 14) (nS + 481) Q (wXf ad c9 x' asl' apa') 3452 [(0, .ref b), (1, .ref (ad 0)), (2, .ref (am 0)), (3, .ref ao), (4, .int (nlaw n))] []) : vW p l e room_1 s mm args below meth c 9 D A (wLF c9 x.sl asl x.pa apa ao fo (wMf am c9 m)) nC nS Q (wXf ad c9 x asl apa) 1752 [(0, .ref b), (1, .ref (ad 0)), (2, .ref (am 0)), (3, .ref ao), (4, .int (nlaw n))] [] := by
  obtain ⟨ox, om, hx, hex, hm, ht, hv, hR1⟩ := hk x m hR (xs (nlaw n + 1).toNatClampNeg)
  refine v_aload_n X dL_law_1752 1 rfl rfl 1753 rfl ?_
  refine v_aload_n X dL_law_1753 0 rfl rfl 1754 rfl ?_
  refine v_iload X dL_law_1754 4 rfl 1756 rfl ?_
  refine v_iconst X dL_law_1756 ic_1 1757 rfl ?_
  refine v_iadd X dL_law_1757 1758 rfl ?_
  refine v_sld X hX hbl hbA (sc_in hn hL 1 (by decide)) dL_law_1758 1759 rfl ?_
  refine v_aload_n X dL_law_1759 3 rfl rfl 1760 rfl ?_
  refine v_hcallS X (S := Unit) (As := [.ref (ad 0), .int (xs (nlaw n + 1).toNatClampNeg), .ref ao]) (rest := []) (ws' := fun u => wX11 ad c9 x.nextPast x.pastCount x.i_count x.i_cells x.o_count x.o_cells x.p_start x.p_end x.p_kind x.p_value x.p_error x.p_errorAt x.p_d_time x.p_d_tolerance x.p_d_seed x.p_d_madeTickets x.p_d_cheesesOfText x.p_d_R_rows x.p_d_R_cells x.p_d_U_rows x.p_d_U_cells x.p_d_S_rows x.p_d_S_cells x.p_d_T_rows x.p_d_T_cells x.p_d_E_rows x.p_d_E_cells x.s_time x.s_tolerance x.s_seed x.s_madeTickets x.s_cheesesOfText x.s_R_rows x.s_R_cells x.s_U_rows x.s_U_cells x.s_S_rows x.s_S_cells x.s_T_rows x.s_T_cells x.s_E_rows x.s_E_cells x.sl asl x.pa apa) (F' := fun u => wLF c9 x.sl asl x.pa apa ao (hout ox.1 fo (lb ox.2)) (wMf am c9 m)) (c_L_isRenewable l hG hl0 hNC D c9 sk sv hGU ad x.nextPast x.pastCount x.i_count x.i_cells x.o_count x.o_cells x.p_start x.p_end x.p_kind x.p_value x.p_error x.p_errorAt x.p_d_time x.p_d_tolerance x.p_d_seed x.p_d_madeTickets x.p_d_cheesesOfText x.p_d_R_rows x.p_d_R_cells x.p_d_U_rows x.p_d_U_cells x.p_d_S_rows x.p_d_S_cells x.p_d_T_rows x.p_d_T_cells x.p_d_E_rows x.p_d_E_cells x.s_time x.s_tolerance x.s_seed x.s_madeTickets x.s_cheesesOfText x.s_R_rows x.s_R_cells x.s_U_rows x.s_U_cells x.s_S_rows x.s_S_cells x.s_T_rows x.s_T_cells x.s_E_rows x.s_E_cells x.sl asl x.pa apa ao fo (xs (nlaw n + 1).toNatClampNeg) hx hex) 3 (gS wbd_233 wbd_234 wbd_2 wbd_235) rfl rfl rfl pd_L_isRenewable ⟨Nat.le_of_ble_eq_true rfl, Nat.le_of_ble_eq_true rfl⟩ rfl rfl (Nat.le_of_ble_eq_true rfl) ⟨show nC + 1 ≤ 601024 by omega, show nS + 6 ≤ 7293034 by omega⟩ (fun _ => rfl) dL_law_1760 1763 rfl (fun u _ => ?_)
  refine v_istore X (lv' := [(5, .int (hcd [4] ox.1)), (0, .ref b), (1, .ref (ad 0)), (2, .ref (am 0)), (3, .ref ao), (4, .int (nlaw n))]) dL_law_1763 (by decide) rfl 1765 rfl ?_
  refine v_toM ?_
  refine v_aload_n X dL_law_1765 3 rfl rfl 1766 rfl ?_
  refine v_aload_n X dL_law_1766 1 rfl rfl 1767 rfl ?_
  refine v_iload X dL_law_1767 5 rfl 1769 rfl ?_
  refine v_iconst X dL_law_1769 ic_1 1770 rfl ?_
  refine v_iadd X dL_law_1770 1771 rfl ?_
  refine v_sld X hX hbl hbA (sc_in hn hL 1 (by decide)) dL_law_1771 1772 rfl ?_
  refine v_callVi X (C := RX12) (ci := 11) (T := TX12) (As := [.int (xs (nlaw n + 1).toNatClampNeg)]) (rest := []) (ws' := wX12 am c9 m.m_undoable m.m_undoStart om.2 m.m_inputLength m.m_position m.m_start m.m_token m.m_value m.m_letters m.m_code m.m_place m.m_outputLength m.m_s m.m_parsed m.m_tried m.m_remembered m.m_slots m.m_kept m.m_away m.m_input m.m_halfway m.m_output) (c_X12_isRenewable l hG D c9 am m.m_undoable m.m_undoStart m.m_thrown m.m_inputLength m.m_position m.m_start m.m_token m.m_value m.m_letters m.m_code m.m_place m.m_outputLength m.m_s m.m_parsed m.m_tried m.m_remembered m.m_slots m.m_kept m.m_away m.m_input m.m_halfway m.m_output (xs (nlaw n + 1).toNatClampNeg) hm) 1 (gV wbd_236 wbd_237 wbd_238 wbd_7 wbd_239) rfl rfl rfl ⟨rfl, pd_X12_isRenewable⟩ ⟨Nat.le_of_ble_eq_true rfl, Nat.le_of_ble_eq_true rfl⟩ 0 rfl rfl rfl rfl (Nat.le_of_ble_eq_true rfl) ⟨show nC + 1 + 0 ≤ 601024 by omega, show nS + 6 + 0 ≤ 7293034 by omega⟩ [0, 1, 2, 3, 4, 5, 6, 7, 8, 9, 10] [] [0, 1, 2, 3, 4, 5, 6, 7, 8, 9, 10] rfl rfl rfl rfl dL_law_1772 1775 rfl ?_
  refine v_istore X (lv' := [(6, .int om.1), (5, .int (hcd [4] ox.1)), (0, .ref b), (1, .ref (ad 0)), (2, .ref (am 0)), (3, .ref ao), (4, .int (nlaw n))]) dL_law_1775 (by decide) rfl 1777 rfl ?_
  refine v_aload_n X dL_law_1777 4 rfl rfl 1778 rfl ?_
  refine v_callVi X (C := RX12) (ci := 11) (T := TX12) (As := []) (rest := []) (ws' := wX12 am c9 m.m_undoable m.m_undoStart om.2 m.m_inputLength m.m_position m.m_start m.m_token m.m_value m.m_letters m.m_code m.m_place m.m_outputLength m.m_s m.m_parsed m.m_tried m.m_remembered m.m_slots m.m_kept m.m_away m.m_input m.m_halfway m.m_output) (c_X12_thrown l hG D c9 am m.m_undoable m.m_undoStart om.2 m.m_inputLength m.m_position m.m_start m.m_token m.m_value m.m_letters m.m_code m.m_place m.m_outputLength m.m_s m.m_parsed m.m_tried m.m_remembered m.m_slots m.m_kept m.m_away m.m_input m.m_halfway m.m_output  rfl) 0 (gV wbd_9 wbd_10 wbd_11 wbd_7 wbd_12) rfl rfl rfl ⟨rfl, pd_X12_thrown⟩ ⟨Nat.le_of_ble_eq_true rfl, Nat.le_of_ble_eq_true rfl⟩ 0 rfl rfl rfl rfl (Nat.le_of_ble_eq_true rfl) ⟨show nC + 1 + 0 ≤ 601024 by omega, show nS + 6 + 0 ≤ 7293034 by omega⟩ [0, 1, 2, 3, 4, 5, 6, 7, 8, 9, 10] [] [0, 1, 2, 3, 4, 5, 6, 7, 8, 9, 10] rfl rfl rfl rfl dL_law_1778 1781 rfl ?_
  refine v_iload X dL_law_1781 1 rfl 1783 rfl ?_
  refine v_icmp_eq X (tgt := 1788) dL_law_1783 rfl 1786 rfl (a := some ()) (b := none) (o := ()) (if_pos ht) (fun _ => ?_) (fun h => nomatch h)
  refine v_toX ?_
  refine v_iload X dL_law_1788 1 rfl 1790 rfl ?_
  by_cases h0 : ox.1 = 0
  · refine v_if_ne X (tgt := 1812) dL_law_1790 rfl 1793 rfl (a := none) (b := some ()) (o := ()) (if_pos (by rw [h0]; rfl)) (fun h => nomatch h) (fun _ => ?_)
    refine v_aload_n X dL_law_1793 5 rfl rfl 1794 rfl ?_
    refine v_iconst X dL_law_1794 ic_0 1795 rfl ?_
    refine v_outld X dL_law_1795 1796 rfl ?_
    refine v_iload X dL_law_1796 0 rfl 1798 rfl ?_
    by_cases hz : om.1 = 0
    · refine v_if_eq X (tgt := 1805) dL_law_1798 rfl 1801 rfl (a := some ()) (b := none) (o := ()) (if_pos hz) (fun _ => ?_) (fun h => nomatch h)
      refine v_lconst X dL_law_1805 (v := 0) rfl 1806 rfl ?_
      refine v_lcmp X dL_law_1806 1807 rfl ?_
      refine v_if_eq X (tgt := 1812) dL_law_1807 rfl 1810 rfl (a := some ()) (b := none) (o := ()) (if_pos (by rw [hout, if_pos h0, hv h0, lb, if_pos hz]; exact lg_cmp_self _)) (fun _ => ?_) (fun h => nomatch h)
      refine v_goto X (tgt := 3452) dL_law_1812 rfl ?_
      refine v_sub (lv' := [(0, .ref b), (1, .ref (ad 0)), (2, .ref (am 0)), (3, .ref ao), (4, .int (nlaw n))]) [2, 3, 4, 5, 6] rfl ?_
      exact v_widen (by omega) (by omega) (K _ _ asl apa _ hR1)
    · refine v_if_eq X (tgt := 1805) dL_law_1798 rfl 1801 rfl (a := none) (b := some ()) (o := ()) (if_neg hz) (fun h => nomatch h) (fun _ => ?_)
      refine v_lconst X dL_law_1801 (v := 1) rfl 1802 rfl ?_
      refine v_goto X (tgt := 1806) dL_law_1802 rfl ?_
      refine v_lcmp X dL_law_1806 1807 rfl ?_
      refine v_if_eq X (tgt := 1812) dL_law_1807 rfl 1810 rfl (a := some ()) (b := none) (o := ()) (if_pos (by rw [hout, if_pos h0, hv h0, lb, if_neg hz]; exact lg_cmp_self _)) (fun _ => ?_) (fun h => nomatch h)
      refine v_goto X (tgt := 3452) dL_law_1812 rfl ?_
      refine v_sub (lv' := [(0, .ref b), (1, .ref (ad 0)), (2, .ref (am 0)), (3, .ref ao), (4, .int (nlaw n))]) [2, 3, 4, 5, 6] rfl ?_
      exact v_widen (by omega) (by omega) (K _ _ asl apa _ hR1)
  · refine v_if_ne X (tgt := 1812) dL_law_1790 rfl 1793 rfl (a := some ()) (b := none) (o := ()) (if_neg (hcd_ne h0 (by decide))) (fun _ => ?_) (fun h => nomatch h)
    refine v_goto X (tgt := 3452) dL_law_1812 rfl ?_
    refine v_sub (lv' := [(0, .ref b), (1, .ref (ad 0)), (2, .ref (am 0)), (3, .ref ao), (4, .int (nlaw n))]) [2, 3, 4, 5, 6] rfl ?_
    exact v_widen (by omega) (by omega) (K _ _ asl apa _ hR1)
set_option maxRecDepth 100000 in
set_option maxHeartbeats 4000000 in
theorem w_32 (l : Launch) {G : (Nat → Prop) → State → Heap → Prop} (hG : vG G) (hl0 : l.stackTraces = false) (hNC : ∀ (A : Nat → Prop) (U : State) (H : Heap), G A U H → ∀ q ∈ ncL, va_Nc q.1 q.2 U) (D : va_G) (c9 : Nat → ClassId) (sk sv : Nat → Nat) (hGU : ∀ (A : Nat → Prop) (U : State) (H : Heap), G A U H → vU sk sv A U H) (ad am : Nat → Nat) (ao b L : Nat) (xs : Nat → Int32) {p : Program} {e : Env} {s : State} {mm : MethodId} {args : Array Value} {below : List Frame} {meth : Method} {c : Code} {A : Nat → Prop} {Q : State → Prop} (X : vX p s mm args meth c cL_law 9 (some .boolean) RL (Cond.tt :: Wg) D (tyA c9) G A) (hX : va_X b L xs s s.heap) (hbl : b < s.heap.size) (hbA : ¬ A b) (REL : FX → FM → Prop) (hk : H32 REL) (n : Nat) (hn : n + 6 ≤ L) (hL : L ≤ 3072) (x : FX) (m : FM) (hR : REL x m) (asl apa : Nat → Nat → Nat) (fo : Nat → Int64) (nC nS : Nat) (hC : nC + 14 ≤ 601024) (hS : nS + 481 ≤ 7293034) (K : ∀ (x' : FX) (m' : FM) (asl' apa' : Nat → Nat → Nat) (fo' : Nat → Int64), REL x' m' → vW p l e room_1 s mm args below meth c 9 D A (wLF c9 x'.sl asl' x'.pa apa' ao fo' (wMf am c9 m')) (nC + 14) (nS + 481) Q (wXf ad c9 x' asl' apa') 3452 [(0, .ref b), (1, .ref (ad 0)), (2, .ref (am 0)), (3, .ref ao), (4, .int (nlaw n))] []) : vW p l e room_1 s mm args below meth c 9 D A (wLF c9 x.sl asl x.pa apa ao fo (wMf am c9 m)) nC nS Q (wXf ad c9 x asl apa) 1815 [(0, .ref b), (1, .ref (ad 0)), (2, .ref (am 0)), (3, .ref ao), (4, .int (nlaw n))] [] := by
  obtain ⟨ox, om, hx, hex, hm, ht, hv, hR1⟩ := hk x m hR (xs (nlaw n + 1).toNatClampNeg)
  refine v_aload_n X dL_law_1815 1 rfl rfl 1816 rfl ?_
  refine v_aload_n X dL_law_1816 0 rfl rfl 1817 rfl ?_
  refine v_iload X dL_law_1817 4 rfl 1819 rfl ?_
  refine v_iconst X dL_law_1819 ic_1 1820 rfl ?_
  refine v_iadd X dL_law_1820 1821 rfl ?_
  refine v_sld X hX hbl hbA (sc_in hn hL 1 (by decide)) dL_law_1821 1822 rfl ?_
  refine v_aload_n X dL_law_1822 3 rfl rfl 1823 rfl ?_
  refine v_hcallS X (S := Unit) (As := [.ref (ad 0), .int (xs (nlaw n + 1).toNatClampNeg), .ref ao]) (rest := []) (ws' := fun u => wX11 ad c9 x.nextPast x.pastCount x.i_count x.i_cells x.o_count x.o_cells x.p_start x.p_end x.p_kind x.p_value x.p_error x.p_errorAt x.p_d_time x.p_d_tolerance x.p_d_seed x.p_d_madeTickets x.p_d_cheesesOfText x.p_d_R_rows x.p_d_R_cells x.p_d_U_rows x.p_d_U_cells x.p_d_S_rows x.p_d_S_cells x.p_d_T_rows x.p_d_T_cells x.p_d_E_rows x.p_d_E_cells x.s_time x.s_tolerance x.s_seed x.s_madeTickets x.s_cheesesOfText x.s_R_rows x.s_R_cells x.s_U_rows x.s_U_cells x.s_S_rows x.s_S_cells x.s_T_rows x.s_T_cells x.s_E_rows x.s_E_cells x.sl asl x.pa apa) (F' := fun u => wLF c9 x.sl asl x.pa apa ao (hout ox.1 fo (lb ox.2)) (wMf am c9 m)) (c_L_isValid l hG hl0 hNC D c9 sk sv hGU ad x.nextPast x.pastCount x.i_count x.i_cells x.o_count x.o_cells x.p_start x.p_end x.p_kind x.p_value x.p_error x.p_errorAt x.p_d_time x.p_d_tolerance x.p_d_seed x.p_d_madeTickets x.p_d_cheesesOfText x.p_d_R_rows x.p_d_R_cells x.p_d_U_rows x.p_d_U_cells x.p_d_S_rows x.p_d_S_cells x.p_d_T_rows x.p_d_T_cells x.p_d_E_rows x.p_d_E_cells x.s_time x.s_tolerance x.s_seed x.s_madeTickets x.s_cheesesOfText x.s_R_rows x.s_R_cells x.s_U_rows x.s_U_cells x.s_S_rows x.s_S_cells x.s_T_rows x.s_T_cells x.s_E_rows x.s_E_cells x.sl asl x.pa apa ao fo (xs (nlaw n + 1).toNatClampNeg) hx hex) 3 (gS wbd_240 wbd_241 wbd_2 wbd_242) rfl rfl rfl pd_L_isValid ⟨Nat.le_of_ble_eq_true rfl, Nat.le_of_ble_eq_true rfl⟩ rfl rfl (Nat.le_of_ble_eq_true rfl) ⟨show nC + 1 ≤ 601024 by omega, show nS + 6 ≤ 7293034 by omega⟩ (fun _ => rfl) dL_law_1823 1826 rfl (fun u _ => ?_)
  refine v_istore X (lv' := [(5, .int (hcd [4] ox.1)), (0, .ref b), (1, .ref (ad 0)), (2, .ref (am 0)), (3, .ref ao), (4, .int (nlaw n))]) dL_law_1826 (by decide) rfl 1828 rfl ?_
  refine v_toM ?_
  refine v_aload_n X dL_law_1828 3 rfl rfl 1829 rfl ?_
  refine v_aload_n X dL_law_1829 1 rfl rfl 1830 rfl ?_
  refine v_iload X dL_law_1830 5 rfl 1832 rfl ?_
  refine v_iconst X dL_law_1832 ic_1 1833 rfl ?_
  refine v_iadd X dL_law_1833 1834 rfl ?_
  refine v_sld X hX hbl hbA (sc_in hn hL 1 (by decide)) dL_law_1834 1835 rfl ?_
  refine v_callVi X (C := RX12) (ci := 11) (T := TX12) (As := [.int (xs (nlaw n + 1).toNatClampNeg)]) (rest := []) (ws' := wX12 am c9 m.m_undoable m.m_undoStart om.2 m.m_inputLength m.m_position m.m_start m.m_token m.m_value m.m_letters m.m_code m.m_place m.m_outputLength m.m_s m.m_parsed m.m_tried m.m_remembered m.m_slots m.m_kept m.m_away m.m_input m.m_halfway m.m_output) (c_X12_isValid l hG D c9 am m.m_undoable m.m_undoStart m.m_thrown m.m_inputLength m.m_position m.m_start m.m_token m.m_value m.m_letters m.m_code m.m_place m.m_outputLength m.m_s m.m_parsed m.m_tried m.m_remembered m.m_slots m.m_kept m.m_away m.m_input m.m_halfway m.m_output (xs (nlaw n + 1).toNatClampNeg) hm) 1 (gV wbd_243 wbd_244 wbd_245 wbd_7 wbd_246) rfl rfl rfl ⟨rfl, pd_X12_isValid⟩ ⟨Nat.le_of_ble_eq_true rfl, Nat.le_of_ble_eq_true rfl⟩ 0 rfl rfl rfl rfl (Nat.le_of_ble_eq_true rfl) ⟨show nC + 1 + 0 ≤ 601024 by omega, show nS + 6 + 0 ≤ 7293034 by omega⟩ [0, 1, 2, 3, 4, 5, 6, 7, 8, 9, 10] [] [0, 1, 2, 3, 4, 5, 6, 7, 8, 9, 10] rfl rfl rfl rfl dL_law_1835 1838 rfl ?_
  refine v_istore X (lv' := [(6, .int om.1), (5, .int (hcd [4] ox.1)), (0, .ref b), (1, .ref (ad 0)), (2, .ref (am 0)), (3, .ref ao), (4, .int (nlaw n))]) dL_law_1838 (by decide) rfl 1840 rfl ?_
  refine v_aload_n X dL_law_1840 4 rfl rfl 1841 rfl ?_
  refine v_callVi X (C := RX12) (ci := 11) (T := TX12) (As := []) (rest := []) (ws' := wX12 am c9 m.m_undoable m.m_undoStart om.2 m.m_inputLength m.m_position m.m_start m.m_token m.m_value m.m_letters m.m_code m.m_place m.m_outputLength m.m_s m.m_parsed m.m_tried m.m_remembered m.m_slots m.m_kept m.m_away m.m_input m.m_halfway m.m_output) (c_X12_thrown l hG D c9 am m.m_undoable m.m_undoStart om.2 m.m_inputLength m.m_position m.m_start m.m_token m.m_value m.m_letters m.m_code m.m_place m.m_outputLength m.m_s m.m_parsed m.m_tried m.m_remembered m.m_slots m.m_kept m.m_away m.m_input m.m_halfway m.m_output  rfl) 0 (gV wbd_9 wbd_10 wbd_11 wbd_7 wbd_12) rfl rfl rfl ⟨rfl, pd_X12_thrown⟩ ⟨Nat.le_of_ble_eq_true rfl, Nat.le_of_ble_eq_true rfl⟩ 0 rfl rfl rfl rfl (Nat.le_of_ble_eq_true rfl) ⟨show nC + 1 + 0 ≤ 601024 by omega, show nS + 6 + 0 ≤ 7293034 by omega⟩ [0, 1, 2, 3, 4, 5, 6, 7, 8, 9, 10] [] [0, 1, 2, 3, 4, 5, 6, 7, 8, 9, 10] rfl rfl rfl rfl dL_law_1841 1844 rfl ?_
  refine v_iload X dL_law_1844 1 rfl 1846 rfl ?_
  refine v_icmp_eq X (tgt := 1851) dL_law_1846 rfl 1849 rfl (a := some ()) (b := none) (o := ()) (if_pos ht) (fun _ => ?_) (fun h => nomatch h)
  refine v_toX ?_
  refine v_iload X dL_law_1851 1 rfl 1853 rfl ?_
  by_cases h0 : ox.1 = 0
  · refine v_if_ne X (tgt := 1875) dL_law_1853 rfl 1856 rfl (a := none) (b := some ()) (o := ()) (if_pos (by rw [h0]; rfl)) (fun h => nomatch h) (fun _ => ?_)
    refine v_aload_n X dL_law_1856 5 rfl rfl 1857 rfl ?_
    refine v_iconst X dL_law_1857 ic_0 1858 rfl ?_
    refine v_outld X dL_law_1858 1859 rfl ?_
    refine v_iload X dL_law_1859 0 rfl 1861 rfl ?_
    by_cases hz : om.1 = 0
    · refine v_if_eq X (tgt := 1868) dL_law_1861 rfl 1864 rfl (a := some ()) (b := none) (o := ()) (if_pos hz) (fun _ => ?_) (fun h => nomatch h)
      refine v_lconst X dL_law_1868 (v := 0) rfl 1869 rfl ?_
      refine v_lcmp X dL_law_1869 1870 rfl ?_
      refine v_if_eq X (tgt := 1875) dL_law_1870 rfl 1873 rfl (a := some ()) (b := none) (o := ()) (if_pos (by rw [hout, if_pos h0, hv h0, lb, if_pos hz]; exact lg_cmp_self _)) (fun _ => ?_) (fun h => nomatch h)
      refine v_goto X (tgt := 3452) dL_law_1875 rfl ?_
      refine v_sub (lv' := [(0, .ref b), (1, .ref (ad 0)), (2, .ref (am 0)), (3, .ref ao), (4, .int (nlaw n))]) [2, 3, 4, 5, 6] rfl ?_
      exact v_widen (by omega) (by omega) (K _ _ asl apa _ hR1)
    · refine v_if_eq X (tgt := 1868) dL_law_1861 rfl 1864 rfl (a := none) (b := some ()) (o := ()) (if_neg hz) (fun h => nomatch h) (fun _ => ?_)
      refine v_lconst X dL_law_1864 (v := 1) rfl 1865 rfl ?_
      refine v_goto X (tgt := 1869) dL_law_1865 rfl ?_
      refine v_lcmp X dL_law_1869 1870 rfl ?_
      refine v_if_eq X (tgt := 1875) dL_law_1870 rfl 1873 rfl (a := some ()) (b := none) (o := ()) (if_pos (by rw [hout, if_pos h0, hv h0, lb, if_neg hz]; exact lg_cmp_self _)) (fun _ => ?_) (fun h => nomatch h)
      refine v_goto X (tgt := 3452) dL_law_1875 rfl ?_
      refine v_sub (lv' := [(0, .ref b), (1, .ref (ad 0)), (2, .ref (am 0)), (3, .ref ao), (4, .int (nlaw n))]) [2, 3, 4, 5, 6] rfl ?_
      exact v_widen (by omega) (by omega) (K _ _ asl apa _ hR1)
  · refine v_if_ne X (tgt := 1875) dL_law_1853 rfl 1856 rfl (a := some ()) (b := none) (o := ()) (if_neg (hcd_ne h0 (by decide))) (fun _ => ?_) (fun h => nomatch h)
    refine v_goto X (tgt := 3452) dL_law_1875 rfl ?_
    refine v_sub (lv' := [(0, .ref b), (1, .ref (ad 0)), (2, .ref (am 0)), (3, .ref ao), (4, .int (nlaw n))]) [2, 3, 4, 5, 6] rfl ?_
    exact v_widen (by omega) (by omega) (K _ _ asl apa _ hR1)
set_option maxRecDepth 100000 in
set_option maxHeartbeats 4000000 in
theorem w_33 (l : Launch) {G : (Nat → Prop) → State → Heap → Prop} (hG : vG G) (hl0 : l.stackTraces = false) (hNC : ∀ (A : Nat → Prop) (U : State) (H : Heap), G A U H → ∀ q ∈ ncL, va_Nc q.1 q.2 U) (D : va_G) (c9 : Nat → ClassId) (sk sv : Nat → Nat) (hGU : ∀ (A : Nat → Prop) (U : State) (H : Heap), G A U H → vU sk sv A U H) (ad am : Nat → Nat) (ao b L : Nat) (xs : Nat → Int32) {p : Program} {e : Env} {s : State} {mm : MethodId} {args : Array Value} {below : List Frame} {meth : Method} {c : Code} {A : Nat → Prop} {Q : State → Prop} (X : vX p s mm args meth c cL_law 9 (some .boolean) RL (Cond.tt :: Wg) D (tyA c9) G A) (hX : va_X b L xs s s.heap) (hbl : b < s.heap.size) (hbA : ¬ A b) (REL : FX → FM → Prop) (hk : H33 REL) (n : Nat) (hn : n + 6 ≤ L) (hL : L ≤ 3072) (x : FX) (m : FM) (hR : REL x m) (asl apa : Nat → Nat → Nat) (fo : Nat → Int64) (nC nS : Nat) (hC : nC + 14 ≤ 601024) (hS : nS + 481 ≤ 7293034) (K : ∀ (x' : FX) (m' : FM) (asl' apa' : Nat → Nat → Nat) (fo' : Nat → Int64), REL x' m' → vW p l e room_1 s mm args below meth c 9 D A (wLF c9 x'.sl asl' x'.pa apa' ao fo' (wMf am c9 m')) (nC + 14) (nS + 481) Q (wXf ad c9 x' asl' apa') 3452 [(0, .ref b), (1, .ref (ad 0)), (2, .ref (am 0)), (3, .ref ao), (4, .int (nlaw n))] []) : vW p l e room_1 s mm args below meth c 9 D A (wLF c9 x.sl asl x.pa apa ao fo (wMf am c9 m)) nC nS Q (wXf ad c9 x asl apa) 1878 [(0, .ref b), (1, .ref (ad 0)), (2, .ref (am 0)), (3, .ref ao), (4, .int (nlaw n))] [] := by
  obtain ⟨ox, om, hx, hex, hm, ht, hv, hR1⟩ := hk x m hR (xs (nlaw n + 1).toNatClampNeg)
  refine v_aload_n X dL_law_1878 1 rfl rfl 1879 rfl ?_
  refine v_aload_n X dL_law_1879 0 rfl rfl 1880 rfl ?_
  refine v_iload X dL_law_1880 4 rfl 1882 rfl ?_
  refine v_iconst X dL_law_1882 ic_1 1883 rfl ?_
  refine v_iadd X dL_law_1883 1884 rfl ?_
  refine v_sld X hX hbl hbA (sc_in hn hL 1 (by decide)) dL_law_1884 1885 rfl ?_
  refine v_aload_n X dL_law_1885 3 rfl rfl 1886 rfl ?_
  refine v_hcallS X (S := Unit) (As := [.ref (ad 0), .int (xs (nlaw n + 1).toNatClampNeg), .ref ao]) (rest := []) (ws' := fun u => wX11 ad c9 x.nextPast x.pastCount x.i_count x.i_cells x.o_count x.o_cells x.p_start x.p_end x.p_kind x.p_value x.p_error x.p_errorAt x.p_d_time x.p_d_tolerance x.p_d_seed x.p_d_madeTickets x.p_d_cheesesOfText x.p_d_R_rows x.p_d_R_cells x.p_d_U_rows x.p_d_U_cells x.p_d_S_rows x.p_d_S_cells x.p_d_T_rows x.p_d_T_cells x.p_d_E_rows x.p_d_E_cells x.s_time x.s_tolerance x.s_seed x.s_madeTickets x.s_cheesesOfText x.s_R_rows x.s_R_cells x.s_U_rows x.s_U_cells x.s_S_rows x.s_S_cells x.s_T_rows x.s_T_cells x.s_E_rows x.s_E_cells x.sl asl x.pa apa) (F' := fun u => wLF c9 x.sl asl x.pa apa ao (hout ox.1 fo ox.2.toInt64) (wMf am c9 m)) (c_L_minutesLeft l hG hl0 hNC D c9 sk sv hGU ad x.nextPast x.pastCount x.i_count x.i_cells x.o_count x.o_cells x.p_start x.p_end x.p_kind x.p_value x.p_error x.p_errorAt x.p_d_time x.p_d_tolerance x.p_d_seed x.p_d_madeTickets x.p_d_cheesesOfText x.p_d_R_rows x.p_d_R_cells x.p_d_U_rows x.p_d_U_cells x.p_d_S_rows x.p_d_S_cells x.p_d_T_rows x.p_d_T_cells x.p_d_E_rows x.p_d_E_cells x.s_time x.s_tolerance x.s_seed x.s_madeTickets x.s_cheesesOfText x.s_R_rows x.s_R_cells x.s_U_rows x.s_U_cells x.s_S_rows x.s_S_cells x.s_T_rows x.s_T_cells x.s_E_rows x.s_E_cells x.sl asl x.pa apa ao fo (xs (nlaw n + 1).toNatClampNeg) hx hex) 3 (gS wbd_247 wbd_248 wbd_2 wbd_249) rfl rfl rfl pd_L_minutesLeft ⟨Nat.le_of_ble_eq_true rfl, Nat.le_of_ble_eq_true rfl⟩ rfl rfl (Nat.le_of_ble_eq_true rfl) ⟨show nC + 1 ≤ 601024 by omega, show nS + 6 ≤ 7293034 by omega⟩ (fun _ => rfl) dL_law_1886 1889 rfl (fun u _ => ?_)
  refine v_istore X (lv' := [(5, .int (hcd [4] ox.1)), (0, .ref b), (1, .ref (ad 0)), (2, .ref (am 0)), (3, .ref ao), (4, .int (nlaw n))]) dL_law_1889 (by decide) rfl 1891 rfl ?_
  refine v_toM ?_
  refine v_aload_n X dL_law_1891 3 rfl rfl 1892 rfl ?_
  refine v_aload_n X dL_law_1892 1 rfl rfl 1893 rfl ?_
  refine v_iload X dL_law_1893 5 rfl 1895 rfl ?_
  refine v_iconst X dL_law_1895 ic_1 1896 rfl ?_
  refine v_iadd X dL_law_1896 1897 rfl ?_
  refine v_sld X hX hbl hbA (sc_in hn hL 1 (by decide)) dL_law_1897 1898 rfl ?_
  refine v_callVi X (C := RX12) (ci := 11) (T := TX12) (As := [.int (xs (nlaw n + 1).toNatClampNeg)]) (rest := []) (ws' := wX12 am c9 m.m_undoable m.m_undoStart om.2 m.m_inputLength m.m_position m.m_start m.m_token m.m_value m.m_letters m.m_code m.m_place m.m_outputLength m.m_s m.m_parsed m.m_tried m.m_remembered m.m_slots m.m_kept m.m_away m.m_input m.m_halfway m.m_output) (c_X12_minutesLeft l hG D c9 am m.m_undoable m.m_undoStart m.m_thrown m.m_inputLength m.m_position m.m_start m.m_token m.m_value m.m_letters m.m_code m.m_place m.m_outputLength m.m_s m.m_parsed m.m_tried m.m_remembered m.m_slots m.m_kept m.m_away m.m_input m.m_halfway m.m_output (xs (nlaw n + 1).toNatClampNeg) hm) 1 (gV wbd_250 wbd_251 wbd_252 wbd_7 wbd_253) rfl rfl rfl ⟨rfl, pd_X12_minutesLeft⟩ ⟨Nat.le_of_ble_eq_true rfl, Nat.le_of_ble_eq_true rfl⟩ 0 rfl rfl rfl rfl (Nat.le_of_ble_eq_true rfl) ⟨show nC + 1 + 0 ≤ 601024 by omega, show nS + 6 + 0 ≤ 7293034 by omega⟩ [0, 1, 2, 3, 4, 5, 6, 7, 8, 9, 10] [] [0, 1, 2, 3, 4, 5, 6, 7, 8, 9, 10] rfl rfl rfl rfl dL_law_1898 1901 rfl ?_
  refine v_istore X (lv' := [(6, .int om.1), (5, .int (hcd [4] ox.1)), (0, .ref b), (1, .ref (ad 0)), (2, .ref (am 0)), (3, .ref ao), (4, .int (nlaw n))]) dL_law_1901 (by decide) rfl 1903 rfl ?_
  refine v_aload_n X dL_law_1903 4 rfl rfl 1904 rfl ?_
  refine v_callVi X (C := RX12) (ci := 11) (T := TX12) (As := []) (rest := []) (ws' := wX12 am c9 m.m_undoable m.m_undoStart om.2 m.m_inputLength m.m_position m.m_start m.m_token m.m_value m.m_letters m.m_code m.m_place m.m_outputLength m.m_s m.m_parsed m.m_tried m.m_remembered m.m_slots m.m_kept m.m_away m.m_input m.m_halfway m.m_output) (c_X12_thrown l hG D c9 am m.m_undoable m.m_undoStart om.2 m.m_inputLength m.m_position m.m_start m.m_token m.m_value m.m_letters m.m_code m.m_place m.m_outputLength m.m_s m.m_parsed m.m_tried m.m_remembered m.m_slots m.m_kept m.m_away m.m_input m.m_halfway m.m_output  rfl) 0 (gV wbd_9 wbd_10 wbd_11 wbd_7 wbd_12) rfl rfl rfl ⟨rfl, pd_X12_thrown⟩ ⟨Nat.le_of_ble_eq_true rfl, Nat.le_of_ble_eq_true rfl⟩ 0 rfl rfl rfl rfl (Nat.le_of_ble_eq_true rfl) ⟨show nC + 1 + 0 ≤ 601024 by omega, show nS + 6 + 0 ≤ 7293034 by omega⟩ [0, 1, 2, 3, 4, 5, 6, 7, 8, 9, 10] [] [0, 1, 2, 3, 4, 5, 6, 7, 8, 9, 10] rfl rfl rfl rfl dL_law_1904 1907 rfl ?_
  refine v_iload X dL_law_1907 1 rfl 1909 rfl ?_
  refine v_icmp_eq X (tgt := 1914) dL_law_1909 rfl 1912 rfl (a := some ()) (b := none) (o := ()) (if_pos ht) (fun _ => ?_) (fun h => nomatch h)
  refine v_toX ?_
  refine v_iload X dL_law_1914 1 rfl 1916 rfl ?_
  by_cases h0 : ox.1 = 0
  · refine v_if_ne X (tgt := 1931) dL_law_1916 rfl 1919 rfl (a := none) (b := some ()) (o := ()) (if_pos (by rw [h0]; rfl)) (fun h => nomatch h) (fun _ => ?_)
    refine v_aload_n X dL_law_1919 5 rfl rfl 1920 rfl ?_
    refine v_iconst X dL_law_1920 ic_0 1921 rfl ?_
    refine v_outld X dL_law_1921 1922 rfl ?_
    refine v_iload X dL_law_1922 0 rfl 1924 rfl ?_
    refine v_i2l X dL_law_1924 1925 rfl ?_
    refine v_lcmp X dL_law_1925 1926 rfl ?_
    refine v_if_eq X (tgt := 1931) dL_law_1926 rfl 1929 rfl (a := some ()) (b := none) (o := ()) (if_pos (by rw [hout, if_pos h0, ← hv h0]; exact lg_cmp_self _)) (fun _ => ?_) (fun h => nomatch h)
    refine v_goto X (tgt := 3452) dL_law_1931 rfl ?_
    refine v_sub (lv' := [(0, .ref b), (1, .ref (ad 0)), (2, .ref (am 0)), (3, .ref ao), (4, .int (nlaw n))]) [2, 3, 4, 5, 6] rfl ?_
    exact v_widen (by omega) (by omega) (K _ _ asl apa _ hR1)
  · refine v_if_ne X (tgt := 1931) dL_law_1916 rfl 1919 rfl (a := some ()) (b := none) (o := ()) (if_neg (hcd_ne h0 (by decide))) (fun _ => ?_) (fun h => nomatch h)
    refine v_goto X (tgt := 3452) dL_law_1931 rfl ?_
    refine v_sub (lv' := [(0, .ref b), (1, .ref (ad 0)), (2, .ref (am 0)), (3, .ref ao), (4, .int (nlaw n))]) [2, 3, 4, 5, 6] rfl ?_
    exact v_widen (by omega) (by omega) (K _ _ asl apa _ hR1)
set_option maxRecDepth 100000 in
set_option maxHeartbeats 4000000 in
theorem w_34 (l : Launch) {G : (Nat → Prop) → State → Heap → Prop} (hG : vG G) (hl0 : l.stackTraces = false) (hNC : ∀ (A : Nat → Prop) (U : State) (H : Heap), G A U H → ∀ q ∈ ncL, va_Nc q.1 q.2 U) (D : va_G) (c9 : Nat → ClassId) (sk sv : Nat → Nat) (hGU : ∀ (A : Nat → Prop) (U : State) (H : Heap), G A U H → vU sk sv A U H) (ad am : Nat → Nat) (ao b L : Nat) (xs : Nat → Int32) {p : Program} {e : Env} {s : State} {mm : MethodId} {args : Array Value} {below : List Frame} {meth : Method} {c : Code} {A : Nat → Prop} {Q : State → Prop} (X : vX p s mm args meth c cL_law 9 (some .boolean) RL (Cond.tt :: Wg) D (tyA c9) G A) (hX : va_X b L xs s s.heap) (hbl : b < s.heap.size) (hbA : ¬ A b) (REL : FX → FM → Prop) (hk : H34 REL) (n : Nat) (hn : n + 6 ≤ L) (hL : L ≤ 3072) (x : FX) (m : FM) (hR : REL x m) (asl apa : Nat → Nat → Nat) (fo : Nat → Int64) (nC nS : Nat) (hC : nC + 14 ≤ 601024) (hS : nS + 481 ≤ 7293034) (K : ∀ (x' : FX) (m' : FM) (asl' apa' : Nat → Nat → Nat) (fo' : Nat → Int64), REL x' m' → vW p l e room_1 s mm args below meth c 9 D A (wLF c9 x'.sl asl' x'.pa apa' ao fo' (wMf am c9 m')) (nC + 14) (nS + 481) Q (wXf ad c9 x' asl' apa') 3452 [(0, .ref b), (1, .ref (ad 0)), (2, .ref (am 0)), (3, .ref ao), (4, .int (nlaw n))] []) : vW p l e room_1 s mm args below meth c 9 D A (wLF c9 x.sl asl x.pa apa ao fo (wMf am c9 m)) nC nS Q (wXf ad c9 x asl apa) 1934 [(0, .ref b), (1, .ref (ad 0)), (2, .ref (am 0)), (3, .ref ao), (4, .int (nlaw n))] [] := by
  obtain ⟨ox, om, hx, hex, hm, ht, hv, hR1⟩ := hk x m hR (xs (nlaw n + 1).toNatClampNeg) (xs (nlaw n + 2).toNatClampNeg)
  refine v_aload_n X dL_law_1934 1 rfl rfl 1935 rfl ?_
  refine v_aload_n X dL_law_1935 0 rfl rfl 1936 rfl ?_
  refine v_iload X dL_law_1936 4 rfl 1938 rfl ?_
  refine v_iconst X dL_law_1938 ic_1 1939 rfl ?_
  refine v_iadd X dL_law_1939 1940 rfl ?_
  refine v_sld X hX hbl hbA (sc_in hn hL 1 (by decide)) dL_law_1940 1941 rfl ?_
  refine v_aload_n X dL_law_1941 0 rfl rfl 1942 rfl ?_
  refine v_iload X dL_law_1942 4 rfl 1944 rfl ?_
  refine v_iconst X dL_law_1944 ic_2 1945 rfl ?_
  refine v_iadd X dL_law_1945 1946 rfl ?_
  refine v_sld X hX hbl hbA (sc_in hn hL 2 (by decide)) dL_law_1946 1947 rfl ?_
  refine v_aload_n X dL_law_1947 3 rfl rfl 1948 rfl ?_
  refine v_hcallS X (S := Unit) (As := [.ref (ad 0), .int (xs (nlaw n + 1).toNatClampNeg), .int (xs (nlaw n + 2).toNatClampNeg), .ref ao]) (rest := []) (ws' := fun u => wX11 ad c9 x.nextPast x.pastCount x.i_count x.i_cells x.o_count x.o_cells x.p_start x.p_end x.p_kind x.p_value x.p_error x.p_errorAt x.p_d_time x.p_d_tolerance x.p_d_seed x.p_d_madeTickets x.p_d_cheesesOfText x.p_d_R_rows x.p_d_R_cells x.p_d_U_rows x.p_d_U_cells x.p_d_S_rows x.p_d_S_cells x.p_d_T_rows x.p_d_T_cells x.p_d_E_rows x.p_d_E_cells x.s_time x.s_tolerance x.s_seed x.s_madeTickets x.s_cheesesOfText x.s_R_rows x.s_R_cells x.s_U_rows x.s_U_cells x.s_S_rows x.s_S_cells x.s_T_rows x.s_T_cells x.s_E_rows x.s_E_cells x.sl asl x.pa apa) (F' := fun u => wLF c9 x.sl asl x.pa apa ao (hout ox.1 fo ox.2.toInt64) (wMf am c9 m)) (c_L_loginRefusal l hG hl0 hNC D c9 sk sv hGU ad x.nextPast x.pastCount x.i_count x.i_cells x.o_count x.o_cells x.p_start x.p_end x.p_kind x.p_value x.p_error x.p_errorAt x.p_d_time x.p_d_tolerance x.p_d_seed x.p_d_madeTickets x.p_d_cheesesOfText x.p_d_R_rows x.p_d_R_cells x.p_d_U_rows x.p_d_U_cells x.p_d_S_rows x.p_d_S_cells x.p_d_T_rows x.p_d_T_cells x.p_d_E_rows x.p_d_E_cells x.s_time x.s_tolerance x.s_seed x.s_madeTickets x.s_cheesesOfText x.s_R_rows x.s_R_cells x.s_U_rows x.s_U_cells x.s_S_rows x.s_S_cells x.s_T_rows x.s_T_cells x.s_E_rows x.s_E_cells x.sl asl x.pa apa ao fo (xs (nlaw n + 1).toNatClampNeg) (xs (nlaw n + 2).toNatClampNeg) hx hex) 4 (gS wbd_254 wbd_255 wbd_2 wbd_256) rfl rfl rfl pd_L_loginRefusal ⟨Nat.le_of_ble_eq_true rfl, Nat.le_of_ble_eq_true rfl⟩ rfl rfl (Nat.le_of_ble_eq_true rfl) ⟨show nC + 2 ≤ 601024 by omega, show nS + 12 ≤ 7293034 by omega⟩ (fun _ => rfl) dL_law_1948 1951 rfl (fun u _ => ?_)
  refine v_istore X (lv' := [(5, .int (hcd [1, 2] ox.1)), (0, .ref b), (1, .ref (ad 0)), (2, .ref (am 0)), (3, .ref ao), (4, .int (nlaw n))]) dL_law_1951 (by decide) rfl 1953 rfl ?_
  refine v_toM ?_
  refine v_aload_n X dL_law_1953 3 rfl rfl 1954 rfl ?_
  refine v_aload_n X dL_law_1954 1 rfl rfl 1955 rfl ?_
  refine v_iload X dL_law_1955 5 rfl 1957 rfl ?_
  refine v_iconst X dL_law_1957 ic_1 1958 rfl ?_
  refine v_iadd X dL_law_1958 1959 rfl ?_
  refine v_sld X hX hbl hbA (sc_in hn hL 1 (by decide)) dL_law_1959 1960 rfl ?_
  refine v_aload_n X dL_law_1960 1 rfl rfl 1961 rfl ?_
  refine v_iload X dL_law_1961 5 rfl 1963 rfl ?_
  refine v_iconst X dL_law_1963 ic_2 1964 rfl ?_
  refine v_iadd X dL_law_1964 1965 rfl ?_
  refine v_sld X hX hbl hbA (sc_in hn hL 2 (by decide)) dL_law_1965 1966 rfl ?_
  refine v_callVi X (C := RX12) (ci := 11) (T := TX12) (As := [.int (xs (nlaw n + 1).toNatClampNeg), .int (xs (nlaw n + 2).toNatClampNeg)]) (rest := []) (ws' := wX12 am c9 m.m_undoable m.m_undoStart om.2 m.m_inputLength m.m_position m.m_start m.m_token m.m_value m.m_letters m.m_code m.m_place m.m_outputLength m.m_s m.m_parsed m.m_tried m.m_remembered m.m_slots m.m_kept m.m_away m.m_input m.m_halfway m.m_output) (c_X12_loginRefusal l hG D c9 am m.m_undoable m.m_undoStart m.m_thrown m.m_inputLength m.m_position m.m_start m.m_token m.m_value m.m_letters m.m_code m.m_place m.m_outputLength m.m_s m.m_parsed m.m_tried m.m_remembered m.m_slots m.m_kept m.m_away m.m_input m.m_halfway m.m_output (xs (nlaw n + 1).toNatClampNeg) (xs (nlaw n + 2).toNatClampNeg) hm) 2 (gV wbd_257 wbd_258 wbd_259 wbd_7 wbd_260) rfl rfl rfl ⟨rfl, pd_X12_loginRefusal⟩ ⟨Nat.le_of_ble_eq_true rfl, Nat.le_of_ble_eq_true rfl⟩ 0 rfl rfl rfl rfl (Nat.le_of_ble_eq_true rfl) ⟨show nC + 2 + 0 ≤ 601024 by omega, show nS + 12 + 0 ≤ 7293034 by omega⟩ [0, 1, 2, 3, 4, 5, 6, 7, 8, 9, 10] [] [0, 1, 2, 3, 4, 5, 6, 7, 8, 9, 10] rfl rfl rfl rfl dL_law_1966 1969 rfl ?_
  refine v_istore X (lv' := [(6, .int om.1), (5, .int (hcd [1, 2] ox.1)), (0, .ref b), (1, .ref (ad 0)), (2, .ref (am 0)), (3, .ref ao), (4, .int (nlaw n))]) dL_law_1969 (by decide) rfl 1971 rfl ?_
  refine v_aload_n X dL_law_1971 4 rfl rfl 1972 rfl ?_
  refine v_callVi X (C := RX12) (ci := 11) (T := TX12) (As := []) (rest := []) (ws' := wX12 am c9 m.m_undoable m.m_undoStart om.2 m.m_inputLength m.m_position m.m_start m.m_token m.m_value m.m_letters m.m_code m.m_place m.m_outputLength m.m_s m.m_parsed m.m_tried m.m_remembered m.m_slots m.m_kept m.m_away m.m_input m.m_halfway m.m_output) (c_X12_thrown l hG D c9 am m.m_undoable m.m_undoStart om.2 m.m_inputLength m.m_position m.m_start m.m_token m.m_value m.m_letters m.m_code m.m_place m.m_outputLength m.m_s m.m_parsed m.m_tried m.m_remembered m.m_slots m.m_kept m.m_away m.m_input m.m_halfway m.m_output  rfl) 0 (gV wbd_9 wbd_10 wbd_11 wbd_7 wbd_12) rfl rfl rfl ⟨rfl, pd_X12_thrown⟩ ⟨Nat.le_of_ble_eq_true rfl, Nat.le_of_ble_eq_true rfl⟩ 0 rfl rfl rfl rfl (Nat.le_of_ble_eq_true rfl) ⟨show nC + 2 + 0 ≤ 601024 by omega, show nS + 12 + 0 ≤ 7293034 by omega⟩ [0, 1, 2, 3, 4, 5, 6, 7, 8, 9, 10] [] [0, 1, 2, 3, 4, 5, 6, 7, 8, 9, 10] rfl rfl rfl rfl dL_law_1972 1975 rfl ?_
  refine v_iload X dL_law_1975 1 rfl 1977 rfl ?_
  refine v_icmp_eq X (tgt := 1982) dL_law_1977 rfl 1980 rfl (a := some ()) (b := none) (o := ()) (if_pos ht) (fun _ => ?_) (fun h => nomatch h)
  refine v_toX ?_
  refine v_iload X dL_law_1982 1 rfl 1984 rfl ?_
  by_cases h0 : ox.1 = 0
  · refine v_if_ne X (tgt := 1999) dL_law_1984 rfl 1987 rfl (a := none) (b := some ()) (o := ()) (if_pos (by rw [h0]; rfl)) (fun h => nomatch h) (fun _ => ?_)
    refine v_aload_n X dL_law_1987 5 rfl rfl 1988 rfl ?_
    refine v_iconst X dL_law_1988 ic_0 1989 rfl ?_
    refine v_outld X dL_law_1989 1990 rfl ?_
    refine v_iload X dL_law_1990 0 rfl 1992 rfl ?_
    refine v_i2l X dL_law_1992 1993 rfl ?_
    refine v_lcmp X dL_law_1993 1994 rfl ?_
    refine v_if_eq X (tgt := 1999) dL_law_1994 rfl 1997 rfl (a := some ()) (b := none) (o := ()) (if_pos (by rw [hout, if_pos h0, ← hv h0]; exact lg_cmp_self _)) (fun _ => ?_) (fun h => nomatch h)
    refine v_goto X (tgt := 3452) dL_law_1999 rfl ?_
    refine v_sub (lv' := [(0, .ref b), (1, .ref (ad 0)), (2, .ref (am 0)), (3, .ref ao), (4, .int (nlaw n))]) [2, 3, 4, 5, 6] rfl ?_
    exact v_widen (by omega) (by omega) (K _ _ asl apa _ hR1)
  · refine v_if_ne X (tgt := 1999) dL_law_1984 rfl 1987 rfl (a := some ()) (b := none) (o := ()) (if_neg (hcd_ne h0 (by decide))) (fun _ => ?_) (fun h => nomatch h)
    refine v_goto X (tgt := 3452) dL_law_1999 rfl ?_
    refine v_sub (lv' := [(0, .ref b), (1, .ref (ad 0)), (2, .ref (am 0)), (3, .ref ao), (4, .int (nlaw n))]) [2, 3, 4, 5, 6] rfl ?_
    exact v_widen (by omega) (by omega) (K _ _ asl apa _ hR1)
set_option maxRecDepth 100000 in
set_option maxHeartbeats 4000000 in
theorem w_35 (l : Launch) {G : (Nat → Prop) → State → Heap → Prop} (hG : vG G) (hl0 : l.stackTraces = false) (hNC : ∀ (A : Nat → Prop) (U : State) (H : Heap), G A U H → ∀ q ∈ ncL, va_Nc q.1 q.2 U) (D : va_G) (c9 : Nat → ClassId) (sk sv : Nat → Nat) (hGU : ∀ (A : Nat → Prop) (U : State) (H : Heap), G A U H → vU sk sv A U H) (ad am : Nat → Nat) (ao b L : Nat) (xs : Nat → Int32) {p : Program} {e : Env} {s : State} {mm : MethodId} {args : Array Value} {below : List Frame} {meth : Method} {c : Code} {A : Nat → Prop} {Q : State → Prop} (X : vX p s mm args meth c cL_law 9 (some .boolean) RL (Cond.tt :: Wg) D (tyA c9) G A) (hX : va_X b L xs s s.heap) (hbl : b < s.heap.size) (hbA : ¬ A b) (REL : FX → FM → Prop) (hk : H35 REL) (n : Nat) (hn : n + 6 ≤ L) (hL : L ≤ 3072) (x : FX) (m : FM) (hR : REL x m) (asl apa : Nat → Nat → Nat) (fo : Nat → Int64) (nC nS : Nat) (hC : nC + 14 ≤ 601024) (hS : nS + 481 ≤ 7293034) (K : ∀ (x' : FX) (m' : FM) (asl' apa' : Nat → Nat → Nat) (fo' : Nat → Int64), REL x' m' → vW p l e room_1 s mm args below meth c 9 D A (wLF c9 x'.sl asl' x'.pa apa' ao fo' (wMf am c9 m')) (nC + 14) (nS + 481) Q (wXf ad c9 x' asl' apa') 3452 [(0, .ref b), (1, .ref (ad 0)), (2, .ref (am 0)), (3, .ref ao), (4, .int (nlaw n))] []) : vW p l e room_1 s mm args below meth c 9 D A (wLF c9 x.sl asl x.pa apa ao fo (wMf am c9 m)) nC nS Q (wXf ad c9 x asl apa) 2002 [(0, .ref b), (1, .ref (ad 0)), (2, .ref (am 0)), (3, .ref ao), (4, .int (nlaw n))] [] := by
  obtain ⟨ox, om, hx, hex, hm, ht, hv, hR1⟩ := hk x m hR (xs (nlaw n + 1).toNatClampNeg) (xs (nlaw n + 2).toNatClampNeg)
  refine v_aload_n X dL_law_2002 1 rfl rfl 2003 rfl ?_
  refine v_aload_n X dL_law_2003 0 rfl rfl 2004 rfl ?_
  refine v_iload X dL_law_2004 4 rfl 2006 rfl ?_
  refine v_iconst X dL_law_2006 ic_1 2007 rfl ?_
  refine v_iadd X dL_law_2007 2008 rfl ?_
  refine v_sld X hX hbl hbA (sc_in hn hL 1 (by decide)) dL_law_2008 2009 rfl ?_
  refine v_aload_n X dL_law_2009 0 rfl rfl 2010 rfl ?_
  refine v_iload X dL_law_2010 4 rfl 2012 rfl ?_
  refine v_iconst X dL_law_2012 ic_2 2013 rfl ?_
  refine v_iadd X dL_law_2013 2014 rfl ?_
  refine v_sld X hX hbl hbA (sc_in hn hL 2 (by decide)) dL_law_2014 2015 rfl ?_
  refine v_aload_n X dL_law_2015 3 rfl rfl 2016 rfl ?_
  refine v_hcallS X (S := Unit) (As := [.ref (ad 0), .int (xs (nlaw n + 1).toNatClampNeg), .int (xs (nlaw n + 2).toNatClampNeg), .ref ao]) (rest := []) (ws' := fun u => wX11 ad c9 x.nextPast x.pastCount x.i_count x.i_cells x.o_count x.o_cells x.p_start x.p_end x.p_kind x.p_value x.p_error x.p_errorAt x.p_d_time x.p_d_tolerance x.p_d_seed x.p_d_madeTickets x.p_d_cheesesOfText x.p_d_R_rows x.p_d_R_cells x.p_d_U_rows x.p_d_U_cells x.p_d_S_rows x.p_d_S_cells x.p_d_T_rows x.p_d_T_cells x.p_d_E_rows x.p_d_E_cells x.s_time x.s_tolerance x.s_seed x.s_madeTickets x.s_cheesesOfText x.s_R_rows x.s_R_cells x.s_U_rows x.s_U_cells x.s_S_rows x.s_S_cells x.s_T_rows x.s_T_cells x.s_E_rows x.s_E_cells x.sl asl x.pa apa) (F' := fun u => wLF c9 x.sl asl x.pa apa ao (hout ox.1 fo ox.2.toInt64) (wMf am c9 m)) (c_L_referRefusal l hG hl0 hNC D c9 sk sv hGU ad x.nextPast x.pastCount x.i_count x.i_cells x.o_count x.o_cells x.p_start x.p_end x.p_kind x.p_value x.p_error x.p_errorAt x.p_d_time x.p_d_tolerance x.p_d_seed x.p_d_madeTickets x.p_d_cheesesOfText x.p_d_R_rows x.p_d_R_cells x.p_d_U_rows x.p_d_U_cells x.p_d_S_rows x.p_d_S_cells x.p_d_T_rows x.p_d_T_cells x.p_d_E_rows x.p_d_E_cells x.s_time x.s_tolerance x.s_seed x.s_madeTickets x.s_cheesesOfText x.s_R_rows x.s_R_cells x.s_U_rows x.s_U_cells x.s_S_rows x.s_S_cells x.s_T_rows x.s_T_cells x.s_E_rows x.s_E_cells x.sl asl x.pa apa ao fo (xs (nlaw n + 1).toNatClampNeg) (xs (nlaw n + 2).toNatClampNeg) hx hex) 4 (gS wbd_261 wbd_262 wbd_2 wbd_263) rfl rfl rfl pd_L_referRefusal ⟨Nat.le_of_ble_eq_true rfl, Nat.le_of_ble_eq_true rfl⟩ rfl rfl (Nat.le_of_ble_eq_true rfl) ⟨show nC + 2 ≤ 601024 by omega, show nS + 12 ≤ 7293034 by omega⟩ (fun _ => rfl) dL_law_2016 2019 rfl (fun u _ => ?_)
  refine v_istore X (lv' := [(5, .int (hcd [4, 1] ox.1)), (0, .ref b), (1, .ref (ad 0)), (2, .ref (am 0)), (3, .ref ao), (4, .int (nlaw n))]) dL_law_2019 (by decide) rfl 2021 rfl ?_
  refine v_toM ?_
  refine v_aload_n X dL_law_2021 3 rfl rfl 2022 rfl ?_
  refine v_aload_n X dL_law_2022 1 rfl rfl 2023 rfl ?_
  refine v_iload X dL_law_2023 5 rfl 2025 rfl ?_
  refine v_iconst X dL_law_2025 ic_1 2026 rfl ?_
  refine v_iadd X dL_law_2026 2027 rfl ?_
  refine v_sld X hX hbl hbA (sc_in hn hL 1 (by decide)) dL_law_2027 2028 rfl ?_
  refine v_aload_n X dL_law_2028 1 rfl rfl 2029 rfl ?_
  refine v_iload X dL_law_2029 5 rfl 2031 rfl ?_
  refine v_iconst X dL_law_2031 ic_2 2032 rfl ?_
  refine v_iadd X dL_law_2032 2033 rfl ?_
  refine v_sld X hX hbl hbA (sc_in hn hL 2 (by decide)) dL_law_2033 2034 rfl ?_
  refine v_callVi X (C := RX12) (ci := 11) (T := TX12) (As := [.int (xs (nlaw n + 1).toNatClampNeg), .int (xs (nlaw n + 2).toNatClampNeg)]) (rest := []) (ws' := wX12 am c9 m.m_undoable m.m_undoStart om.2 m.m_inputLength m.m_position m.m_start m.m_token m.m_value m.m_letters m.m_code m.m_place m.m_outputLength m.m_s m.m_parsed m.m_tried m.m_remembered m.m_slots m.m_kept m.m_away m.m_input m.m_halfway m.m_output) (c_X12_referRefusal l hG D c9 am m.m_undoable m.m_undoStart m.m_thrown m.m_inputLength m.m_position m.m_start m.m_token m.m_value m.m_letters m.m_code m.m_place m.m_outputLength m.m_s m.m_parsed m.m_tried m.m_remembered m.m_slots m.m_kept m.m_away m.m_input m.m_halfway m.m_output (xs (nlaw n + 1).toNatClampNeg) (xs (nlaw n + 2).toNatClampNeg) hm) 2 (gV wbd_264 wbd_265 wbd_266 wbd_7 wbd_267) rfl rfl rfl ⟨rfl, pd_X12_referRefusal⟩ ⟨Nat.le_of_ble_eq_true rfl, Nat.le_of_ble_eq_true rfl⟩ 0 rfl rfl rfl rfl (Nat.le_of_ble_eq_true rfl) ⟨show nC + 2 + 0 ≤ 601024 by omega, show nS + 12 + 0 ≤ 7293034 by omega⟩ [0, 1, 2, 3, 4, 5, 6, 7, 8, 9, 10] [] [0, 1, 2, 3, 4, 5, 6, 7, 8, 9, 10] rfl rfl rfl rfl dL_law_2034 2037 rfl ?_
  refine v_istore X (lv' := [(6, .int om.1), (5, .int (hcd [4, 1] ox.1)), (0, .ref b), (1, .ref (ad 0)), (2, .ref (am 0)), (3, .ref ao), (4, .int (nlaw n))]) dL_law_2037 (by decide) rfl 2039 rfl ?_
  refine v_aload_n X dL_law_2039 4 rfl rfl 2040 rfl ?_
  refine v_callVi X (C := RX12) (ci := 11) (T := TX12) (As := []) (rest := []) (ws' := wX12 am c9 m.m_undoable m.m_undoStart om.2 m.m_inputLength m.m_position m.m_start m.m_token m.m_value m.m_letters m.m_code m.m_place m.m_outputLength m.m_s m.m_parsed m.m_tried m.m_remembered m.m_slots m.m_kept m.m_away m.m_input m.m_halfway m.m_output) (c_X12_thrown l hG D c9 am m.m_undoable m.m_undoStart om.2 m.m_inputLength m.m_position m.m_start m.m_token m.m_value m.m_letters m.m_code m.m_place m.m_outputLength m.m_s m.m_parsed m.m_tried m.m_remembered m.m_slots m.m_kept m.m_away m.m_input m.m_halfway m.m_output  rfl) 0 (gV wbd_9 wbd_10 wbd_11 wbd_7 wbd_12) rfl rfl rfl ⟨rfl, pd_X12_thrown⟩ ⟨Nat.le_of_ble_eq_true rfl, Nat.le_of_ble_eq_true rfl⟩ 0 rfl rfl rfl rfl (Nat.le_of_ble_eq_true rfl) ⟨show nC + 2 + 0 ≤ 601024 by omega, show nS + 12 + 0 ≤ 7293034 by omega⟩ [0, 1, 2, 3, 4, 5, 6, 7, 8, 9, 10] [] [0, 1, 2, 3, 4, 5, 6, 7, 8, 9, 10] rfl rfl rfl rfl dL_law_2040 2043 rfl ?_
  refine v_iload X dL_law_2043 1 rfl 2045 rfl ?_
  refine v_icmp_eq X (tgt := 2050) dL_law_2045 rfl 2048 rfl (a := some ()) (b := none) (o := ()) (if_pos ht) (fun _ => ?_) (fun h => nomatch h)
  refine v_toX ?_
  refine v_iload X dL_law_2050 1 rfl 2052 rfl ?_
  by_cases h0 : ox.1 = 0
  · refine v_if_ne X (tgt := 2067) dL_law_2052 rfl 2055 rfl (a := none) (b := some ()) (o := ()) (if_pos (by rw [h0]; rfl)) (fun h => nomatch h) (fun _ => ?_)
    refine v_aload_n X dL_law_2055 5 rfl rfl 2056 rfl ?_
    refine v_iconst X dL_law_2056 ic_0 2057 rfl ?_
    refine v_outld X dL_law_2057 2058 rfl ?_
    refine v_iload X dL_law_2058 0 rfl 2060 rfl ?_
    refine v_i2l X dL_law_2060 2061 rfl ?_
    refine v_lcmp X dL_law_2061 2062 rfl ?_
    refine v_if_eq X (tgt := 2067) dL_law_2062 rfl 2065 rfl (a := some ()) (b := none) (o := ()) (if_pos (by rw [hout, if_pos h0, ← hv h0]; exact lg_cmp_self _)) (fun _ => ?_) (fun h => nomatch h)
    refine v_goto X (tgt := 3452) dL_law_2067 rfl ?_
    refine v_sub (lv' := [(0, .ref b), (1, .ref (ad 0)), (2, .ref (am 0)), (3, .ref ao), (4, .int (nlaw n))]) [2, 3, 4, 5, 6] rfl ?_
    exact v_widen (by omega) (by omega) (K _ _ asl apa _ hR1)
  · refine v_if_ne X (tgt := 2067) dL_law_2052 rfl 2055 rfl (a := some ()) (b := none) (o := ()) (if_neg (hcd_ne h0 (by decide))) (fun _ => ?_) (fun h => nomatch h)
    refine v_goto X (tgt := 3452) dL_law_2067 rfl ?_
    refine v_sub (lv' := [(0, .ref b), (1, .ref (ad 0)), (2, .ref (am 0)), (3, .ref ao), (4, .int (nlaw n))]) [2, 3, 4, 5, 6] rfl ?_
    exact v_widen (by omega) (by omega) (K _ _ asl apa _ hR1)
set_option maxRecDepth 100000 in
set_option maxHeartbeats 4000000 in
theorem w_36 (l : Launch) {G : (Nat → Prop) → State → Heap → Prop} (hG : vG G) (hl0 : l.stackTraces = false) (hNC : ∀ (A : Nat → Prop) (U : State) (H : Heap), G A U H → ∀ q ∈ ncL, va_Nc q.1 q.2 U) (D : va_G) (c9 : Nat → ClassId) (sk sv : Nat → Nat) (hGU : ∀ (A : Nat → Prop) (U : State) (H : Heap), G A U H → vU sk sv A U H) (ad am : Nat → Nat) (ao b L : Nat) (xs : Nat → Int32) {p : Program} {e : Env} {s : State} {mm : MethodId} {args : Array Value} {below : List Frame} {meth : Method} {c : Code} {A : Nat → Prop} {Q : State → Prop} (X : vX p s mm args meth c cL_law 9 (some .boolean) RL (Cond.tt :: Wg) D (tyA c9) G A) (hX : va_X b L xs s s.heap) (hbl : b < s.heap.size) (hbA : ¬ A b) (REL : FX → FM → Prop) (hk : H36 REL) (n : Nat) (hn : n + 6 ≤ L) (hL : L ≤ 3072) (x : FX) (m : FM) (hR : REL x m) (asl apa : Nat → Nat → Nat) (fo : Nat → Int64) (nC nS : Nat) (hC : nC + 14 ≤ 601024) (hS : nS + 481 ≤ 7293034) (K : ∀ (x' : FX) (m' : FM) (asl' apa' : Nat → Nat → Nat) (fo' : Nat → Int64), REL x' m' → vW p l e room_1 s mm args below meth c 9 D A (wLF c9 x'.sl asl' x'.pa apa' ao fo' (wMf am c9 m')) (nC + 14) (nS + 481) Q (wXf ad c9 x' asl' apa') 3452 [(0, .ref b), (1, .ref (ad 0)), (2, .ref (am 0)), (3, .ref ao), (4, .int (nlaw n))] []) : vW p l e room_1 s mm args below meth c 9 D A (wLF c9 x.sl asl x.pa apa ao fo (wMf am c9 m)) nC nS Q (wXf ad c9 x asl apa) 2070 [(0, .ref b), (1, .ref (ad 0)), (2, .ref (am 0)), (3, .ref ao), (4, .int (nlaw n))] [] := by
  obtain ⟨ox, om, hx, hex, hm, ht, hv, hR1⟩ := hk x m hR (xs (nlaw n + 1).toNatClampNeg) (xs (nlaw n + 2).toNatClampNeg)
  refine v_aload_n X dL_law_2070 1 rfl rfl 2071 rfl ?_
  refine v_aload_n X dL_law_2071 0 rfl rfl 2072 rfl ?_
  refine v_iload X dL_law_2072 4 rfl 2074 rfl ?_
  refine v_iconst X dL_law_2074 ic_1 2075 rfl ?_
  refine v_iadd X dL_law_2075 2076 rfl ?_
  refine v_sld X hX hbl hbA (sc_in hn hL 1 (by decide)) dL_law_2076 2077 rfl ?_
  refine v_aload_n X dL_law_2077 0 rfl rfl 2078 rfl ?_
  refine v_iload X dL_law_2078 4 rfl 2080 rfl ?_
  refine v_iconst X dL_law_2080 ic_2 2081 rfl ?_
  refine v_iadd X dL_law_2081 2082 rfl ?_
  refine v_sld X hX hbl hbA (sc_in hn hL 2 (by decide)) dL_law_2082 2083 rfl ?_
  refine v_aload_n X dL_law_2083 3 rfl rfl 2084 rfl ?_
  refine v_hcallS X (S := Unit) (As := [.ref (ad 0), .int (xs (nlaw n + 1).toNatClampNeg), .int (xs (nlaw n + 2).toNatClampNeg), .ref ao]) (rest := []) (ws' := fun u => wX11 ad c9 x.nextPast x.pastCount x.i_count x.i_cells x.o_count x.o_cells x.p_start x.p_end x.p_kind x.p_value x.p_error x.p_errorAt x.p_d_time x.p_d_tolerance x.p_d_seed x.p_d_madeTickets x.p_d_cheesesOfText x.p_d_R_rows x.p_d_R_cells x.p_d_U_rows x.p_d_U_cells x.p_d_S_rows x.p_d_S_cells x.p_d_T_rows x.p_d_T_cells x.p_d_E_rows x.p_d_E_cells x.s_time x.s_tolerance x.s_seed x.s_madeTickets x.s_cheesesOfText x.s_R_rows x.s_R_cells x.s_U_rows x.s_U_cells x.s_S_rows x.s_S_cells x.s_T_rows x.s_T_cells x.s_E_rows x.s_E_cells x.sl asl x.pa apa) (F' := fun u => wLF c9 x.sl asl x.pa apa ao (hout ox.1 fo ox.2.toInt64) (wMf am c9 m)) (c_L_requestRefusal l hG hl0 hNC D c9 sk sv hGU ad x.nextPast x.pastCount x.i_count x.i_cells x.o_count x.o_cells x.p_start x.p_end x.p_kind x.p_value x.p_error x.p_errorAt x.p_d_time x.p_d_tolerance x.p_d_seed x.p_d_madeTickets x.p_d_cheesesOfText x.p_d_R_rows x.p_d_R_cells x.p_d_U_rows x.p_d_U_cells x.p_d_S_rows x.p_d_S_cells x.p_d_T_rows x.p_d_T_cells x.p_d_E_rows x.p_d_E_cells x.s_time x.s_tolerance x.s_seed x.s_madeTickets x.s_cheesesOfText x.s_R_rows x.s_R_cells x.s_U_rows x.s_U_cells x.s_S_rows x.s_S_cells x.s_T_rows x.s_T_cells x.s_E_rows x.s_E_cells x.sl asl x.pa apa ao fo (xs (nlaw n + 1).toNatClampNeg) (xs (nlaw n + 2).toNatClampNeg) hx hex) 4 (gS wbd_268 wbd_269 wbd_2 wbd_270) rfl rfl rfl pd_L_requestRefusal ⟨Nat.le_of_ble_eq_true rfl, Nat.le_of_ble_eq_true rfl⟩ rfl rfl (Nat.le_of_ble_eq_true rfl) ⟨show nC + 2 ≤ 601024 by omega, show nS + 12 ≤ 7293034 by omega⟩ (fun _ => rfl) dL_law_2084 2087 rfl (fun u _ => ?_)
  refine v_istore X (lv' := [(5, .int (hcd [4, 1] ox.1)), (0, .ref b), (1, .ref (ad 0)), (2, .ref (am 0)), (3, .ref ao), (4, .int (nlaw n))]) dL_law_2087 (by decide) rfl 2089 rfl ?_
  refine v_toM ?_
  refine v_aload_n X dL_law_2089 3 rfl rfl 2090 rfl ?_
  refine v_aload_n X dL_law_2090 1 rfl rfl 2091 rfl ?_
  refine v_iload X dL_law_2091 5 rfl 2093 rfl ?_
  refine v_iconst X dL_law_2093 ic_1 2094 rfl ?_
  refine v_iadd X dL_law_2094 2095 rfl ?_
  refine v_sld X hX hbl hbA (sc_in hn hL 1 (by decide)) dL_law_2095 2096 rfl ?_
  refine v_aload_n X dL_law_2096 1 rfl rfl 2097 rfl ?_
  refine v_iload X dL_law_2097 5 rfl 2099 rfl ?_
  refine v_iconst X dL_law_2099 ic_2 2100 rfl ?_
  refine v_iadd X dL_law_2100 2101 rfl ?_
  refine v_sld X hX hbl hbA (sc_in hn hL 2 (by decide)) dL_law_2101 2102 rfl ?_
  refine v_callVi X (C := RX12) (ci := 11) (T := TX12) (As := [.int (xs (nlaw n + 1).toNatClampNeg), .int (xs (nlaw n + 2).toNatClampNeg)]) (rest := []) (ws' := wX12 am c9 m.m_undoable m.m_undoStart om.2 m.m_inputLength m.m_position m.m_start m.m_token m.m_value m.m_letters m.m_code m.m_place m.m_outputLength m.m_s m.m_parsed m.m_tried m.m_remembered m.m_slots m.m_kept m.m_away m.m_input m.m_halfway m.m_output) (c_X12_requestRefusal l hG D c9 am m.m_undoable m.m_undoStart m.m_thrown m.m_inputLength m.m_position m.m_start m.m_token m.m_value m.m_letters m.m_code m.m_place m.m_outputLength m.m_s m.m_parsed m.m_tried m.m_remembered m.m_slots m.m_kept m.m_away m.m_input m.m_halfway m.m_output (xs (nlaw n + 1).toNatClampNeg) (xs (nlaw n + 2).toNatClampNeg) hm) 2 (gV wbd_271 wbd_272 wbd_273 wbd_7 wbd_274) rfl rfl rfl ⟨rfl, pd_X12_requestRefusal⟩ ⟨Nat.le_of_ble_eq_true rfl, Nat.le_of_ble_eq_true rfl⟩ 0 rfl rfl rfl rfl (Nat.le_of_ble_eq_true rfl) ⟨show nC + 2 + 0 ≤ 601024 by omega, show nS + 12 + 0 ≤ 7293034 by omega⟩ [0, 1, 2, 3, 4, 5, 6, 7, 8, 9, 10] [] [0, 1, 2, 3, 4, 5, 6, 7, 8, 9, 10] rfl rfl rfl rfl dL_law_2102 2105 rfl ?_
  refine v_istore X (lv' := [(6, .int om.1), (5, .int (hcd [4, 1] ox.1)), (0, .ref b), (1, .ref (ad 0)), (2, .ref (am 0)), (3, .ref ao), (4, .int (nlaw n))]) dL_law_2105 (by decide) rfl 2107 rfl ?_
  refine v_aload_n X dL_law_2107 4 rfl rfl 2108 rfl ?_
  refine v_callVi X (C := RX12) (ci := 11) (T := TX12) (As := []) (rest := []) (ws' := wX12 am c9 m.m_undoable m.m_undoStart om.2 m.m_inputLength m.m_position m.m_start m.m_token m.m_value m.m_letters m.m_code m.m_place m.m_outputLength m.m_s m.m_parsed m.m_tried m.m_remembered m.m_slots m.m_kept m.m_away m.m_input m.m_halfway m.m_output) (c_X12_thrown l hG D c9 am m.m_undoable m.m_undoStart om.2 m.m_inputLength m.m_position m.m_start m.m_token m.m_value m.m_letters m.m_code m.m_place m.m_outputLength m.m_s m.m_parsed m.m_tried m.m_remembered m.m_slots m.m_kept m.m_away m.m_input m.m_halfway m.m_output  rfl) 0 (gV wbd_9 wbd_10 wbd_11 wbd_7 wbd_12) rfl rfl rfl ⟨rfl, pd_X12_thrown⟩ ⟨Nat.le_of_ble_eq_true rfl, Nat.le_of_ble_eq_true rfl⟩ 0 rfl rfl rfl rfl (Nat.le_of_ble_eq_true rfl) ⟨show nC + 2 + 0 ≤ 601024 by omega, show nS + 12 + 0 ≤ 7293034 by omega⟩ [0, 1, 2, 3, 4, 5, 6, 7, 8, 9, 10] [] [0, 1, 2, 3, 4, 5, 6, 7, 8, 9, 10] rfl rfl rfl rfl dL_law_2108 2111 rfl ?_
  refine v_iload X dL_law_2111 1 rfl 2113 rfl ?_
  refine v_icmp_eq X (tgt := 2118) dL_law_2113 rfl 2116 rfl (a := some ()) (b := none) (o := ()) (if_pos ht) (fun _ => ?_) (fun h => nomatch h)
  refine v_toX ?_
  refine v_iload X dL_law_2118 1 rfl 2120 rfl ?_
  by_cases h0 : ox.1 = 0
  · refine v_if_ne X (tgt := 2135) dL_law_2120 rfl 2123 rfl (a := none) (b := some ()) (o := ()) (if_pos (by rw [h0]; rfl)) (fun h => nomatch h) (fun _ => ?_)
    refine v_aload_n X dL_law_2123 5 rfl rfl 2124 rfl ?_
    refine v_iconst X dL_law_2124 ic_0 2125 rfl ?_
    refine v_outld X dL_law_2125 2126 rfl ?_
    refine v_iload X dL_law_2126 0 rfl 2128 rfl ?_
    refine v_i2l X dL_law_2128 2129 rfl ?_
    refine v_lcmp X dL_law_2129 2130 rfl ?_
    refine v_if_eq X (tgt := 2135) dL_law_2130 rfl 2133 rfl (a := some ()) (b := none) (o := ()) (if_pos (by rw [hout, if_pos h0, ← hv h0]; exact lg_cmp_self _)) (fun _ => ?_) (fun h => nomatch h)
    refine v_goto X (tgt := 3452) dL_law_2135 rfl ?_
    refine v_sub (lv' := [(0, .ref b), (1, .ref (ad 0)), (2, .ref (am 0)), (3, .ref ao), (4, .int (nlaw n))]) [2, 3, 4, 5, 6] rfl ?_
    exact v_widen (by omega) (by omega) (K _ _ asl apa _ hR1)
  · refine v_if_ne X (tgt := 2135) dL_law_2120 rfl 2123 rfl (a := some ()) (b := none) (o := ()) (if_neg (hcd_ne h0 (by decide))) (fun _ => ?_) (fun h => nomatch h)
    refine v_goto X (tgt := 3452) dL_law_2135 rfl ?_
    refine v_sub (lv' := [(0, .ref b), (1, .ref (ad 0)), (2, .ref (am 0)), (3, .ref ao), (4, .int (nlaw n))]) [2, 3, 4, 5, 6] rfl ?_
    exact v_widen (by omega) (by omega) (K _ _ asl apa _ hR1)
set_option maxRecDepth 100000 in
set_option maxHeartbeats 4000000 in
theorem w_37 (l : Launch) {G : (Nat → Prop) → State → Heap → Prop} (hG : vG G) (hl0 : l.stackTraces = false) (hNC : ∀ (A : Nat → Prop) (U : State) (H : Heap), G A U H → ∀ q ∈ ncL, va_Nc q.1 q.2 U) (D : va_G) (c9 : Nat → ClassId) (sk sv : Nat → Nat) (hGU : ∀ (A : Nat → Prop) (U : State) (H : Heap), G A U H → vU sk sv A U H) (ad am : Nat → Nat) (ao b L : Nat) (xs : Nat → Int32) {p : Program} {e : Env} {s : State} {mm : MethodId} {args : Array Value} {below : List Frame} {meth : Method} {c : Code} {A : Nat → Prop} {Q : State → Prop} (X : vX p s mm args meth c cL_law 9 (some .boolean) RL (Cond.tt :: Wg) D (tyA c9) G A) (hX : va_X b L xs s s.heap) (hbl : b < s.heap.size) (hbA : ¬ A b) (REL : FX → FM → Prop) (hk : H37 REL) (n : Nat) (hn : n + 6 ≤ L) (hL : L ≤ 3072) (x : FX) (m : FM) (hR : REL x m) (asl apa : Nat → Nat → Nat) (fo : Nat → Int64) (nC nS : Nat) (hC : nC + 14 ≤ 601024) (hS : nS + 481 ≤ 7293034) (K : ∀ (x' : FX) (m' : FM) (asl' apa' : Nat → Nat → Nat) (fo' : Nat → Int64), REL x' m' → vW p l e room_1 s mm args below meth c 9 D A (wLF c9 x'.sl asl' x'.pa apa' ao fo' (wMf am c9 m')) (nC + 14) (nS + 481) Q (wXf ad c9 x' asl' apa') 3452 [(0, .ref b), (1, .ref (ad 0)), (2, .ref (am 0)), (3, .ref ao), (4, .int (nlaw n))] []) : vW p l e room_1 s mm args below meth c 9 D A (wLF c9 x.sl asl x.pa apa ao fo (wMf am c9 m)) nC nS Q (wXf ad c9 x asl apa) 2138 [(0, .ref b), (1, .ref (ad 0)), (2, .ref (am 0)), (3, .ref ao), (4, .int (nlaw n))] [] := by
  obtain ⟨ox, om, hx, hex, hm, ht, hv, hR1⟩ := hk x m hR (xs (nlaw n + 1).toNatClampNeg)
  refine v_aload_n X dL_law_2138 1 rfl rfl 2139 rfl ?_
  refine v_aload_n X dL_law_2139 0 rfl rfl 2140 rfl ?_
  refine v_iload X dL_law_2140 4 rfl 2142 rfl ?_
  refine v_iconst X dL_law_2142 ic_1 2143 rfl ?_
  refine v_iadd X dL_law_2143 2144 rfl ?_
  refine v_sld X hX hbl hbA (sc_in hn hL 1 (by decide)) dL_law_2144 2145 rfl ?_
  refine v_aload_n X dL_law_2145 3 rfl rfl 2146 rfl ?_
  refine v_hcallS X (S := Unit) (As := [.ref (ad 0), .int (xs (nlaw n + 1).toNatClampNeg), .ref ao]) (rest := []) (ws' := fun u => wX11 ad c9 x.nextPast x.pastCount x.i_count x.i_cells x.o_count x.o_cells x.p_start x.p_end x.p_kind x.p_value x.p_error x.p_errorAt x.p_d_time x.p_d_tolerance x.p_d_seed x.p_d_madeTickets x.p_d_cheesesOfText x.p_d_R_rows x.p_d_R_cells x.p_d_U_rows x.p_d_U_cells x.p_d_S_rows x.p_d_S_cells x.p_d_T_rows x.p_d_T_cells x.p_d_E_rows x.p_d_E_cells x.s_time x.s_tolerance x.s_seed x.s_madeTickets x.s_cheesesOfText x.s_R_rows x.s_R_cells x.s_U_rows x.s_U_cells x.s_S_rows x.s_S_cells x.s_T_rows x.s_T_cells x.s_E_rows x.s_E_cells x.sl asl x.pa apa) (F' := fun u => wLF c9 x.sl asl x.pa apa ao (hout ox.1 fo ox.2.toInt64) (wMf am c9 m)) (c_L_renewRefusal l hG hl0 hNC D c9 sk sv hGU ad x.nextPast x.pastCount x.i_count x.i_cells x.o_count x.o_cells x.p_start x.p_end x.p_kind x.p_value x.p_error x.p_errorAt x.p_d_time x.p_d_tolerance x.p_d_seed x.p_d_madeTickets x.p_d_cheesesOfText x.p_d_R_rows x.p_d_R_cells x.p_d_U_rows x.p_d_U_cells x.p_d_S_rows x.p_d_S_cells x.p_d_T_rows x.p_d_T_cells x.p_d_E_rows x.p_d_E_cells x.s_time x.s_tolerance x.s_seed x.s_madeTickets x.s_cheesesOfText x.s_R_rows x.s_R_cells x.s_U_rows x.s_U_cells x.s_S_rows x.s_S_cells x.s_T_rows x.s_T_cells x.s_E_rows x.s_E_cells x.sl asl x.pa apa ao fo (xs (nlaw n + 1).toNatClampNeg) hx hex) 3 (gS wbd_275 wbd_276 wbd_2 wbd_277) rfl rfl rfl pd_L_renewRefusal ⟨Nat.le_of_ble_eq_true rfl, Nat.le_of_ble_eq_true rfl⟩ rfl rfl (Nat.le_of_ble_eq_true rfl) ⟨show nC + 1 ≤ 601024 by omega, show nS + 6 ≤ 7293034 by omega⟩ (fun _ => rfl) dL_law_2146 2149 rfl (fun u _ => ?_)
  refine v_istore X (lv' := [(5, .int (hcd [4] ox.1)), (0, .ref b), (1, .ref (ad 0)), (2, .ref (am 0)), (3, .ref ao), (4, .int (nlaw n))]) dL_law_2149 (by decide) rfl 2151 rfl ?_
  refine v_toM ?_
  refine v_aload_n X dL_law_2151 3 rfl rfl 2152 rfl ?_
  refine v_aload_n X dL_law_2152 1 rfl rfl 2153 rfl ?_
  refine v_iload X dL_law_2153 5 rfl 2155 rfl ?_
  refine v_iconst X dL_law_2155 ic_1 2156 rfl ?_
  refine v_iadd X dL_law_2156 2157 rfl ?_
  refine v_sld X hX hbl hbA (sc_in hn hL 1 (by decide)) dL_law_2157 2158 rfl ?_
  refine v_callVi X (C := RX12) (ci := 11) (T := TX12) (As := [.int (xs (nlaw n + 1).toNatClampNeg)]) (rest := []) (ws' := wX12 am c9 m.m_undoable m.m_undoStart om.2 m.m_inputLength m.m_position m.m_start m.m_token m.m_value m.m_letters m.m_code m.m_place m.m_outputLength m.m_s m.m_parsed m.m_tried m.m_remembered m.m_slots m.m_kept m.m_away m.m_input m.m_halfway m.m_output) (c_X12_renewRefusal l hG D c9 am m.m_undoable m.m_undoStart m.m_thrown m.m_inputLength m.m_position m.m_start m.m_token m.m_value m.m_letters m.m_code m.m_place m.m_outputLength m.m_s m.m_parsed m.m_tried m.m_remembered m.m_slots m.m_kept m.m_away m.m_input m.m_halfway m.m_output (xs (nlaw n + 1).toNatClampNeg) hm) 1 (gV wbd_278 wbd_279 wbd_280 wbd_7 wbd_281) rfl rfl rfl ⟨rfl, pd_X12_renewRefusal⟩ ⟨Nat.le_of_ble_eq_true rfl, Nat.le_of_ble_eq_true rfl⟩ 0 rfl rfl rfl rfl (Nat.le_of_ble_eq_true rfl) ⟨show nC + 1 + 0 ≤ 601024 by omega, show nS + 6 + 0 ≤ 7293034 by omega⟩ [0, 1, 2, 3, 4, 5, 6, 7, 8, 9, 10] [] [0, 1, 2, 3, 4, 5, 6, 7, 8, 9, 10] rfl rfl rfl rfl dL_law_2158 2161 rfl ?_
  refine v_istore X (lv' := [(6, .int om.1), (5, .int (hcd [4] ox.1)), (0, .ref b), (1, .ref (ad 0)), (2, .ref (am 0)), (3, .ref ao), (4, .int (nlaw n))]) dL_law_2161 (by decide) rfl 2163 rfl ?_
  refine v_aload_n X dL_law_2163 4 rfl rfl 2164 rfl ?_
  refine v_callVi X (C := RX12) (ci := 11) (T := TX12) (As := []) (rest := []) (ws' := wX12 am c9 m.m_undoable m.m_undoStart om.2 m.m_inputLength m.m_position m.m_start m.m_token m.m_value m.m_letters m.m_code m.m_place m.m_outputLength m.m_s m.m_parsed m.m_tried m.m_remembered m.m_slots m.m_kept m.m_away m.m_input m.m_halfway m.m_output) (c_X12_thrown l hG D c9 am m.m_undoable m.m_undoStart om.2 m.m_inputLength m.m_position m.m_start m.m_token m.m_value m.m_letters m.m_code m.m_place m.m_outputLength m.m_s m.m_parsed m.m_tried m.m_remembered m.m_slots m.m_kept m.m_away m.m_input m.m_halfway m.m_output  rfl) 0 (gV wbd_9 wbd_10 wbd_11 wbd_7 wbd_12) rfl rfl rfl ⟨rfl, pd_X12_thrown⟩ ⟨Nat.le_of_ble_eq_true rfl, Nat.le_of_ble_eq_true rfl⟩ 0 rfl rfl rfl rfl (Nat.le_of_ble_eq_true rfl) ⟨show nC + 1 + 0 ≤ 601024 by omega, show nS + 6 + 0 ≤ 7293034 by omega⟩ [0, 1, 2, 3, 4, 5, 6, 7, 8, 9, 10] [] [0, 1, 2, 3, 4, 5, 6, 7, 8, 9, 10] rfl rfl rfl rfl dL_law_2164 2167 rfl ?_
  refine v_iload X dL_law_2167 1 rfl 2169 rfl ?_
  refine v_icmp_eq X (tgt := 2174) dL_law_2169 rfl 2172 rfl (a := some ()) (b := none) (o := ()) (if_pos ht) (fun _ => ?_) (fun h => nomatch h)
  refine v_toX ?_
  refine v_iload X dL_law_2174 1 rfl 2176 rfl ?_
  by_cases h0 : ox.1 = 0
  · refine v_if_ne X (tgt := 2191) dL_law_2176 rfl 2179 rfl (a := none) (b := some ()) (o := ()) (if_pos (by rw [h0]; rfl)) (fun h => nomatch h) (fun _ => ?_)
    refine v_aload_n X dL_law_2179 5 rfl rfl 2180 rfl ?_
    refine v_iconst X dL_law_2180 ic_0 2181 rfl ?_
    refine v_outld X dL_law_2181 2182 rfl ?_
    refine v_iload X dL_law_2182 0 rfl 2184 rfl ?_
    refine v_i2l X dL_law_2184 2185 rfl ?_
    refine v_lcmp X dL_law_2185 2186 rfl ?_
    refine v_if_eq X (tgt := 2191) dL_law_2186 rfl 2189 rfl (a := some ()) (b := none) (o := ()) (if_pos (by rw [hout, if_pos h0, ← hv h0]; exact lg_cmp_self _)) (fun _ => ?_) (fun h => nomatch h)
    refine v_goto X (tgt := 3452) dL_law_2191 rfl ?_
    refine v_sub (lv' := [(0, .ref b), (1, .ref (ad 0)), (2, .ref (am 0)), (3, .ref ao), (4, .int (nlaw n))]) [2, 3, 4, 5, 6] rfl ?_
    exact v_widen (by omega) (by omega) (K _ _ asl apa _ hR1)
  · refine v_if_ne X (tgt := 2191) dL_law_2176 rfl 2179 rfl (a := some ()) (b := none) (o := ()) (if_neg (hcd_ne h0 (by decide))) (fun _ => ?_) (fun h => nomatch h)
    refine v_goto X (tgt := 3452) dL_law_2191 rfl ?_
    refine v_sub (lv' := [(0, .ref b), (1, .ref (ad 0)), (2, .ref (am 0)), (3, .ref ao), (4, .int (nlaw n))]) [2, 3, 4, 5, 6] rfl ?_
    exact v_widen (by omega) (by omega) (K _ _ asl apa _ hR1)
set_option maxRecDepth 100000 in
set_option maxHeartbeats 4000000 in
theorem w_38 (l : Launch) {G : (Nat → Prop) → State → Heap → Prop} (hG : vG G) (hl0 : l.stackTraces = false) (hNC : ∀ (A : Nat → Prop) (U : State) (H : Heap), G A U H → ∀ q ∈ ncL, va_Nc q.1 q.2 U) (D : va_G) (c9 : Nat → ClassId) (sk sv : Nat → Nat) (hGU : ∀ (A : Nat → Prop) (U : State) (H : Heap), G A U H → vU sk sv A U H) (ad am : Nat → Nat) (ao b L : Nat) (xs : Nat → Int32) {p : Program} {e : Env} {s : State} {mm : MethodId} {args : Array Value} {below : List Frame} {meth : Method} {c : Code} {A : Nat → Prop} {Q : State → Prop} (X : vX p s mm args meth c cL_law 9 (some .boolean) RL (Cond.tt :: Wg) D (tyA c9) G A) (hX : va_X b L xs s s.heap) (hbl : b < s.heap.size) (hbA : ¬ A b) (REL : FX → FM → Prop) (hk : H38 REL) (n : Nat) (hn : n + 6 ≤ L) (hL : L ≤ 3072) (x : FX) (m : FM) (hR : REL x m) (asl apa : Nat → Nat → Nat) (fo : Nat → Int64) (nC nS : Nat) (hC : nC + 14 ≤ 601024) (hS : nS + 481 ≤ 7293034) (K : ∀ (x' : FX) (m' : FM) (asl' apa' : Nat → Nat → Nat) (fo' : Nat → Int64), REL x' m' → vW p l e room_1 s mm args below meth c 9 D A (wLF c9 x'.sl asl' x'.pa apa' ao fo' (wMf am c9 m')) (nC + 14) (nS + 481) Q (wXf ad c9 x' asl' apa') 3452 [(0, .ref b), (1, .ref (ad 0)), (2, .ref (am 0)), (3, .ref ao), (4, .int (nlaw n))] []) : vW p l e room_1 s mm args below meth c 9 D A (wLF c9 x.sl asl x.pa apa ao fo (wMf am c9 m)) nC nS Q (wXf ad c9 x asl apa) 2194 [(0, .ref b), (1, .ref (ad 0)), (2, .ref (am 0)), (3, .ref ao), (4, .int (nlaw n))] [] := by
  obtain ⟨ox, om, hx, hex, hm, ht, hv, hR1⟩ := hk x m hR (xs (nlaw n + 1).toNatClampNeg)
  refine v_aload_n X dL_law_2194 1 rfl rfl 2195 rfl ?_
  refine v_aload_n X dL_law_2195 0 rfl rfl 2196 rfl ?_
  refine v_iload X dL_law_2196 4 rfl 2198 rfl ?_
  refine v_iconst X dL_law_2198 ic_1 2199 rfl ?_
  refine v_iadd X dL_law_2199 2200 rfl ?_
  refine v_sld X hX hbl hbA (sc_in hn hL 1 (by decide)) dL_law_2200 2201 rfl ?_
  refine v_aload_n X dL_law_2201 3 rfl rfl 2202 rfl ?_
  refine v_hcallS X (S := Unit) (As := [.ref (ad 0), .int (xs (nlaw n + 1).toNatClampNeg), .ref ao]) (rest := []) (ws' := fun u => wX11 ad c9 x.nextPast x.pastCount x.i_count x.i_cells x.o_count x.o_cells x.p_start x.p_end x.p_kind x.p_value x.p_error x.p_errorAt x.p_d_time x.p_d_tolerance x.p_d_seed x.p_d_madeTickets x.p_d_cheesesOfText x.p_d_R_rows x.p_d_R_cells x.p_d_U_rows x.p_d_U_cells x.p_d_S_rows x.p_d_S_cells x.p_d_T_rows x.p_d_T_cells x.p_d_E_rows x.p_d_E_cells x.s_time x.s_tolerance x.s_seed x.s_madeTickets x.s_cheesesOfText x.s_R_rows x.s_R_cells x.s_U_rows x.s_U_cells x.s_S_rows x.s_S_cells x.s_T_rows x.s_T_cells x.s_E_rows x.s_E_cells x.sl asl x.pa apa) (F' := fun u => wLF c9 x.sl asl x.pa apa ao (hout ox.1 fo ox.2.toInt64) (wMf am c9 m)) (c_L_cheeseRefusal l hG hl0 hNC D c9 sk sv hGU ad x.nextPast x.pastCount x.i_count x.i_cells x.o_count x.o_cells x.p_start x.p_end x.p_kind x.p_value x.p_error x.p_errorAt x.p_d_time x.p_d_tolerance x.p_d_seed x.p_d_madeTickets x.p_d_cheesesOfText x.p_d_R_rows x.p_d_R_cells x.p_d_U_rows x.p_d_U_cells x.p_d_S_rows x.p_d_S_cells x.p_d_T_rows x.p_d_T_cells x.p_d_E_rows x.p_d_E_cells x.s_time x.s_tolerance x.s_seed x.s_madeTickets x.s_cheesesOfText x.s_R_rows x.s_R_cells x.s_U_rows x.s_U_cells x.s_S_rows x.s_S_cells x.s_T_rows x.s_T_cells x.s_E_rows x.s_E_cells x.sl asl x.pa apa ao fo (xs (nlaw n + 1).toNatClampNeg) hx hex) 3 (gS wbd_282 wbd_283 wbd_2 wbd_284) rfl rfl rfl pd_L_cheeseRefusal ⟨Nat.le_of_ble_eq_true rfl, Nat.le_of_ble_eq_true rfl⟩ rfl rfl (Nat.le_of_ble_eq_true rfl) ⟨show nC + 1 ≤ 601024 by omega, show nS + 6 ≤ 7293034 by omega⟩ (fun _ => rfl) dL_law_2202 2205 rfl (fun u _ => ?_)
  refine v_istore X (lv' := [(5, .int (hcd [4] ox.1)), (0, .ref b), (1, .ref (ad 0)), (2, .ref (am 0)), (3, .ref ao), (4, .int (nlaw n))]) dL_law_2205 (by decide) rfl 2207 rfl ?_
  refine v_toM ?_
  refine v_aload_n X dL_law_2207 3 rfl rfl 2208 rfl ?_
  refine v_aload_n X dL_law_2208 1 rfl rfl 2209 rfl ?_
  refine v_iload X dL_law_2209 5 rfl 2211 rfl ?_
  refine v_iconst X dL_law_2211 ic_1 2212 rfl ?_
  refine v_iadd X dL_law_2212 2213 rfl ?_
  refine v_sld X hX hbl hbA (sc_in hn hL 1 (by decide)) dL_law_2213 2214 rfl ?_
  refine v_callVi X (C := RX12) (ci := 11) (T := TX12) (As := [.int (xs (nlaw n + 1).toNatClampNeg)]) (rest := []) (ws' := wX12 am c9 m.m_undoable m.m_undoStart om.2 m.m_inputLength m.m_position m.m_start m.m_token m.m_value m.m_letters m.m_code m.m_place m.m_outputLength m.m_s m.m_parsed m.m_tried m.m_remembered m.m_slots m.m_kept m.m_away m.m_input m.m_halfway m.m_output) (c_X12_cheeseRefusal l hG D c9 am m.m_undoable m.m_undoStart m.m_thrown m.m_inputLength m.m_position m.m_start m.m_token m.m_value m.m_letters m.m_code m.m_place m.m_outputLength m.m_s m.m_parsed m.m_tried m.m_remembered m.m_slots m.m_kept m.m_away m.m_input m.m_halfway m.m_output (xs (nlaw n + 1).toNatClampNeg) hm) 1 (gV wbd_285 wbd_286 wbd_287 wbd_7 wbd_288) rfl rfl rfl ⟨rfl, pd_X12_cheeseRefusal⟩ ⟨Nat.le_of_ble_eq_true rfl, Nat.le_of_ble_eq_true rfl⟩ 0 rfl rfl rfl rfl (Nat.le_of_ble_eq_true rfl) ⟨show nC + 1 + 0 ≤ 601024 by omega, show nS + 6 + 0 ≤ 7293034 by omega⟩ [0, 1, 2, 3, 4, 5, 6, 7, 8, 9, 10] [] [0, 1, 2, 3, 4, 5, 6, 7, 8, 9, 10] rfl rfl rfl rfl dL_law_2214 2217 rfl ?_
  refine v_istore X (lv' := [(6, .int om.1), (5, .int (hcd [4] ox.1)), (0, .ref b), (1, .ref (ad 0)), (2, .ref (am 0)), (3, .ref ao), (4, .int (nlaw n))]) dL_law_2217 (by decide) rfl 2219 rfl ?_
  refine v_aload_n X dL_law_2219 4 rfl rfl 2220 rfl ?_
  refine v_callVi X (C := RX12) (ci := 11) (T := TX12) (As := []) (rest := []) (ws' := wX12 am c9 m.m_undoable m.m_undoStart om.2 m.m_inputLength m.m_position m.m_start m.m_token m.m_value m.m_letters m.m_code m.m_place m.m_outputLength m.m_s m.m_parsed m.m_tried m.m_remembered m.m_slots m.m_kept m.m_away m.m_input m.m_halfway m.m_output) (c_X12_thrown l hG D c9 am m.m_undoable m.m_undoStart om.2 m.m_inputLength m.m_position m.m_start m.m_token m.m_value m.m_letters m.m_code m.m_place m.m_outputLength m.m_s m.m_parsed m.m_tried m.m_remembered m.m_slots m.m_kept m.m_away m.m_input m.m_halfway m.m_output  rfl) 0 (gV wbd_9 wbd_10 wbd_11 wbd_7 wbd_12) rfl rfl rfl ⟨rfl, pd_X12_thrown⟩ ⟨Nat.le_of_ble_eq_true rfl, Nat.le_of_ble_eq_true rfl⟩ 0 rfl rfl rfl rfl (Nat.le_of_ble_eq_true rfl) ⟨show nC + 1 + 0 ≤ 601024 by omega, show nS + 6 + 0 ≤ 7293034 by omega⟩ [0, 1, 2, 3, 4, 5, 6, 7, 8, 9, 10] [] [0, 1, 2, 3, 4, 5, 6, 7, 8, 9, 10] rfl rfl rfl rfl dL_law_2220 2223 rfl ?_
  refine v_iload X dL_law_2223 1 rfl 2225 rfl ?_
  refine v_icmp_eq X (tgt := 2230) dL_law_2225 rfl 2228 rfl (a := some ()) (b := none) (o := ()) (if_pos ht) (fun _ => ?_) (fun h => nomatch h)
  refine v_toX ?_
  refine v_iload X dL_law_2230 1 rfl 2232 rfl ?_
  by_cases h0 : ox.1 = 0
  · refine v_if_ne X (tgt := 2247) dL_law_2232 rfl 2235 rfl (a := none) (b := some ()) (o := ()) (if_pos (by rw [h0]; rfl)) (fun h => nomatch h) (fun _ => ?_)
    refine v_aload_n X dL_law_2235 5 rfl rfl 2236 rfl ?_
    refine v_iconst X dL_law_2236 ic_0 2237 rfl ?_
    refine v_outld X dL_law_2237 2238 rfl ?_
    refine v_iload X dL_law_2238 0 rfl 2240 rfl ?_
    refine v_i2l X dL_law_2240 2241 rfl ?_
    refine v_lcmp X dL_law_2241 2242 rfl ?_
    refine v_if_eq X (tgt := 2247) dL_law_2242 rfl 2245 rfl (a := some ()) (b := none) (o := ()) (if_pos (by rw [hout, if_pos h0, ← hv h0]; exact lg_cmp_self _)) (fun _ => ?_) (fun h => nomatch h)
    refine v_goto X (tgt := 3452) dL_law_2247 rfl ?_
    refine v_sub (lv' := [(0, .ref b), (1, .ref (ad 0)), (2, .ref (am 0)), (3, .ref ao), (4, .int (nlaw n))]) [2, 3, 4, 5, 6] rfl ?_
    exact v_widen (by omega) (by omega) (K _ _ asl apa _ hR1)
  · refine v_if_ne X (tgt := 2247) dL_law_2232 rfl 2235 rfl (a := some ()) (b := none) (o := ()) (if_neg (hcd_ne h0 (by decide))) (fun _ => ?_) (fun h => nomatch h)
    refine v_goto X (tgt := 3452) dL_law_2247 rfl ?_
    refine v_sub (lv' := [(0, .ref b), (1, .ref (ad 0)), (2, .ref (am 0)), (3, .ref ao), (4, .int (nlaw n))]) [2, 3, 4, 5, 6] rfl ?_
    exact v_widen (by omega) (by omega) (K _ _ asl apa _ hR1)
