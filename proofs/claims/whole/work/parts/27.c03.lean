set_option maxRecDepth 100000 in
set_option maxHeartbeats 4000000 in
theorem w_39 (l : Launch) {G : (Nat → Prop) → State → Heap → Prop} (hG : vG G) (hl0 : l.stackTraces = false) (hNC : ∀ (A : Nat → Prop) (U : State) (H : Heap), G A U H → ∀ q ∈ ncL, va_Nc q.1 q.2 U) (D : va_G) (c9 : Nat → ClassId) (sk sv : Nat → Nat) (hGU : ∀ (A : Nat → Prop) (U : State) (H : Heap), G A U H → vU sk sv A U H) (ad am : Nat → Nat) (ao b L : Nat) (xs : Nat → Int32) {p : Program} {e : Env} {s : State} {mm : MethodId} {args : Array Value} {below : List Frame} {meth : Method} {c : Code} {A : Nat → Prop} {Q : State → Prop} (X : vX p s mm args meth c cL_law 9 (some .boolean) RL (Cond.tt :: Wg) D (tyA c9) G A) (hX : va_X b L xs s s.heap) (hbl : b < s.heap.size) (hbA : ¬ A b) (REL : FX → FM → Prop) (hk : H39 REL) (n : Nat) (hn : n + 6 ≤ L) (hL : L ≤ 3072) (x : FX) (m : FM) (hR : REL x m) (asl apa : Nat → Nat → Nat) (fo : Nat → Int64) (nC nS : Nat) (hC : nC + 14 ≤ 601024) (hS : nS + 481 ≤ 7293034) (K : ∀ (x' : FX) (m' : FM) (asl' apa' : Nat → Nat → Nat) (fo' : Nat → Int64), REL x' m' → vW p l e room_1 s mm args below meth c 9 D A (wLF c9 x'.sl asl' x'.pa apa' ao fo' (wMf am c9 m')) (nC + 14) (nS + 481) Q (wXf ad c9 x' asl' apa') 3452 [(0, .ref b), (1, .ref (ad 0)), (2, .ref (am 0)), (3, .ref ao), (4, .int (nlaw n))] []) : vW p l e room_1 s mm args below meth c 9 D A (wLF c9 x.sl asl x.pa apa ao fo (wMf am c9 m)) nC nS Q (wXf ad c9 x asl apa) 2250 [(0, .ref b), (1, .ref (ad 0)), (2, .ref (am 0)), (3, .ref ao), (4, .int (nlaw n))] [] := by
  obtain ⟨ox, om, hx, hm, hv, hR1⟩ := hk x m hR
  refine v_aload_n X dL_law_2250 1 rfl rfl 2251 rfl ?_
  refine v_callVi X (C := RX11) (ci := 10) (T := TX11) (As := []) (rest := []) (ws' := wX11 ad c9 x.nextPast x.pastCount x.i_count x.i_cells x.o_count x.o_cells x.p_start x.p_end x.p_kind x.p_value x.p_error x.p_errorAt x.p_d_time x.p_d_tolerance x.p_d_seed x.p_d_madeTickets x.p_d_cheesesOfText x.p_d_R_rows x.p_d_R_cells x.p_d_U_rows x.p_d_U_cells x.p_d_S_rows x.p_d_S_cells x.p_d_T_rows x.p_d_T_cells x.p_d_E_rows x.p_d_E_cells x.s_time x.s_tolerance x.s_seed x.s_madeTickets x.s_cheesesOfText x.s_R_rows x.s_R_cells x.s_U_rows x.s_U_cells x.s_S_rows x.s_S_cells x.s_T_rows x.s_T_cells x.s_E_rows x.s_E_cells x.sl asl x.pa apa) (c_X11_validTickets l hG D c9 ad x.nextPast x.pastCount x.i_count x.i_cells x.o_count x.o_cells x.p_start x.p_end x.p_kind x.p_value x.p_error x.p_errorAt x.p_d_time x.p_d_tolerance x.p_d_seed x.p_d_madeTickets x.p_d_cheesesOfText x.p_d_R_rows x.p_d_R_cells x.p_d_U_rows x.p_d_U_cells x.p_d_S_rows x.p_d_S_cells x.p_d_T_rows x.p_d_T_cells x.p_d_E_rows x.p_d_E_cells x.s_time x.s_tolerance x.s_seed x.s_madeTickets x.s_cheesesOfText x.s_R_rows x.s_R_cells x.s_U_rows x.s_U_cells x.s_S_rows x.s_S_cells x.s_T_rows x.s_T_cells x.s_E_rows x.s_E_cells x.sl asl x.pa apa hx) 0 (gV wbd_289 wbd_290 wbd_291 wbd_30 wbd_292) rfl rfl rfl ⟨rfl, pd_X11_validTickets⟩ ⟨Nat.le_of_ble_eq_true rfl, Nat.le_of_ble_eq_true rfl⟩ 0 rfl rfl rfl rfl (Nat.le_of_ble_eq_true rfl) ⟨show nC + 0 ≤ 601024 by omega, show nS + 0 ≤ 7293034 by omega⟩ [0, 1, 2, 3, 4, 5, 6, 7, 8, 9, 10, 11, 12, 13, 14, 15, 16, 17, 18, 19, 20, 21, 22, 23, 24, 25, 26, 27, 28, 29, 30, 31] [] [0, 1, 2, 3, 4, 5, 6, 7, 8, 9, 10, 11, 12, 13, 14, 15, 16, 17, 18, 19, 20, 21, 22, 23, 24, 25, 26, 27, 28, 29, 30, 31] rfl rfl rfl rfl dL_law_2251 2254 rfl ?_
  refine v_toM ?_
  refine v_aload_n X dL_law_2254 2 rfl rfl 2255 rfl ?_
  refine v_callVi X (C := RX12) (ci := 11) (T := TX12) (As := []) (rest := [.int ox]) (ws' := wX12 am c9 m.m_undoable m.m_undoStart om.2 m.m_inputLength m.m_position m.m_start m.m_token m.m_value m.m_letters m.m_code m.m_place m.m_outputLength m.m_s m.m_parsed m.m_tried m.m_remembered m.m_slots m.m_kept m.m_away m.m_input m.m_halfway m.m_output) (c_X12_validTickets l hG D c9 am m.m_undoable m.m_undoStart m.m_thrown m.m_inputLength m.m_position m.m_start m.m_token m.m_value m.m_letters m.m_code m.m_place m.m_outputLength m.m_s m.m_parsed m.m_tried m.m_remembered m.m_slots m.m_kept m.m_away m.m_input m.m_halfway m.m_output  hm) 0 (gV wbd_293 wbd_294 wbd_295 wbd_7 wbd_296) rfl rfl rfl ⟨rfl, pd_X12_validTickets⟩ ⟨Nat.le_of_ble_eq_true rfl, Nat.le_of_ble_eq_true rfl⟩ 0 rfl rfl rfl rfl (Nat.le_of_ble_eq_true rfl) ⟨show nC + 0 + 0 ≤ 601024 by omega, show nS + 0 + 0 ≤ 7293034 by omega⟩ [0, 1, 2, 3, 4, 5, 6, 7, 8, 9, 10] [] [0, 1, 2, 3, 4, 5, 6, 7, 8, 9, 10] rfl rfl rfl rfl dL_law_2255 2258 rfl ?_
  refine v_toX ?_
  refine v_icmp_eq X (tgt := 3452) dL_law_2258 rfl 2261 rfl (a := some ()) (b := none) (o := ()) (if_pos hv) (fun _ => ?_) (fun h => nomatch h)
  exact v_widen (by omega) (by omega) (K _ _ asl apa _ hR1)
set_option maxRecDepth 100000 in
set_option maxHeartbeats 4000000 in
theorem w_40 (l : Launch) {G : (Nat → Prop) → State → Heap → Prop} (hG : vG G) (hl0 : l.stackTraces = false) (hNC : ∀ (A : Nat → Prop) (U : State) (H : Heap), G A U H → ∀ q ∈ ncL, va_Nc q.1 q.2 U) (D : va_G) (c9 : Nat → ClassId) (sk sv : Nat → Nat) (hGU : ∀ (A : Nat → Prop) (U : State) (H : Heap), G A U H → vU sk sv A U H) (ad am : Nat → Nat) (ao b L : Nat) (xs : Nat → Int32) {p : Program} {e : Env} {s : State} {mm : MethodId} {args : Array Value} {below : List Frame} {meth : Method} {c : Code} {A : Nat → Prop} {Q : State → Prop} (X : vX p s mm args meth c cL_law 9 (some .boolean) RL (Cond.tt :: Wg) D (tyA c9) G A) (hX : va_X b L xs s s.heap) (hbl : b < s.heap.size) (hbA : ¬ A b) (REL : FX → FM → Prop) (hk : H40 REL) (n : Nat) (hn : n + 6 ≤ L) (hL : L ≤ 3072) (x : FX) (m : FM) (hR : REL x m) (asl apa : Nat → Nat → Nat) (fo : Nat → Int64) (nC nS : Nat) (hC : nC + 14 ≤ 601024) (hS : nS + 481 ≤ 7293034) (K : ∀ (x' : FX) (m' : FM) (asl' apa' : Nat → Nat → Nat) (fo' : Nat → Int64), REL x' m' → vW p l e room_1 s mm args below meth c 9 D A (wLF c9 x'.sl asl' x'.pa apa' ao fo' (wMf am c9 m')) (nC + 14) (nS + 481) Q (wXf ad c9 x' asl' apa') 3452 [(0, .ref b), (1, .ref (ad 0)), (2, .ref (am 0)), (3, .ref ao), (4, .int (nlaw n))] []) : vW p l e room_1 s mm args below meth c 9 D A (wLF c9 x.sl asl x.pa apa ao fo (wMf am c9 m)) nC nS Q (wXf ad c9 x asl apa) 2263 [(0, .ref b), (1, .ref (ad 0)), (2, .ref (am 0)), (3, .ref ao), (4, .int (nlaw n))] [] := by
  obtain ⟨ox, om, hx, hex, hm, ht, hv, hR1⟩ := hk x m hR (xs (nlaw n + 1).toNatClampNeg)
  refine v_aload_n X dL_law_2263 1 rfl rfl 2264 rfl ?_
  refine v_aload_n X dL_law_2264 0 rfl rfl 2265 rfl ?_
  refine v_iload X dL_law_2265 4 rfl 2267 rfl ?_
  refine v_iconst X dL_law_2267 ic_1 2268 rfl ?_
  refine v_iadd X dL_law_2268 2269 rfl ?_
  refine v_sld X hX hbl hbA (sc_in hn hL 1 (by decide)) dL_law_2269 2270 rfl ?_
  refine v_aload_n X dL_law_2270 3 rfl rfl 2271 rfl ?_
  refine v_hcallS X (S := Unit) (As := [.ref (ad 0), .int (xs (nlaw n + 1).toNatClampNeg), .ref ao]) (rest := []) (ws' := fun u => wX11 ad c9 x.nextPast x.pastCount x.i_count x.i_cells x.o_count x.o_cells x.p_start x.p_end x.p_kind x.p_value x.p_error x.p_errorAt x.p_d_time x.p_d_tolerance x.p_d_seed x.p_d_madeTickets x.p_d_cheesesOfText x.p_d_R_rows x.p_d_R_cells x.p_d_U_rows x.p_d_U_cells x.p_d_S_rows x.p_d_S_cells x.p_d_T_rows x.p_d_T_cells x.p_d_E_rows x.p_d_E_cells x.s_time x.s_tolerance x.s_seed x.s_madeTickets x.s_cheesesOfText x.s_R_rows x.s_R_cells x.s_U_rows x.s_U_cells x.s_S_rows x.s_S_cells x.s_T_rows x.s_T_cells x.s_E_rows x.s_E_cells x.sl asl x.pa apa) (F' := fun u => wLF c9 x.sl asl x.pa apa ao (hout ox.1 fo ox.2.toInt64) (wMf am c9 m)) (c_L_validAfter l hG hl0 hNC D c9 sk sv hGU ad x.nextPast x.pastCount x.i_count x.i_cells x.o_count x.o_cells x.p_start x.p_end x.p_kind x.p_value x.p_error x.p_errorAt x.p_d_time x.p_d_tolerance x.p_d_seed x.p_d_madeTickets x.p_d_cheesesOfText x.p_d_R_rows x.p_d_R_cells x.p_d_U_rows x.p_d_U_cells x.p_d_S_rows x.p_d_S_cells x.p_d_T_rows x.p_d_T_cells x.p_d_E_rows x.p_d_E_cells x.s_time x.s_tolerance x.s_seed x.s_madeTickets x.s_cheesesOfText x.s_R_rows x.s_R_cells x.s_U_rows x.s_U_cells x.s_S_rows x.s_S_cells x.s_T_rows x.s_T_cells x.s_E_rows x.s_E_cells x.sl asl x.pa apa ao fo (xs (nlaw n + 1).toNatClampNeg) hx hex) 3 (gS wbd_297 wbd_298 wbd_2 wbd_299) rfl rfl rfl pd_L_validAfter ⟨Nat.le_of_ble_eq_true rfl, Nat.le_of_ble_eq_true rfl⟩ rfl rfl (Nat.le_of_ble_eq_true rfl) ⟨show nC + 1 ≤ 601024 by omega, show nS + 6 ≤ 7293034 by omega⟩ (fun _ => rfl) dL_law_2271 2274 rfl (fun u _ => ?_)
  refine v_istore X (lv' := [(5, .int (hcd [2] ox.1)), (0, .ref b), (1, .ref (ad 0)), (2, .ref (am 0)), (3, .ref ao), (4, .int (nlaw n))]) dL_law_2274 (by decide) rfl 2276 rfl ?_
  refine v_toM ?_
  refine v_aload_n X dL_law_2276 3 rfl rfl 2277 rfl ?_
  refine v_aload_n X dL_law_2277 1 rfl rfl 2278 rfl ?_
  refine v_iload X dL_law_2278 5 rfl 2280 rfl ?_
  refine v_iconst X dL_law_2280 ic_1 2281 rfl ?_
  refine v_iadd X dL_law_2281 2282 rfl ?_
  refine v_sld X hX hbl hbA (sc_in hn hL 1 (by decide)) dL_law_2282 2283 rfl ?_
  refine v_callVi X (C := RX12) (ci := 11) (T := TX12) (As := [.int (xs (nlaw n + 1).toNatClampNeg)]) (rest := []) (ws' := wX12 am c9 m.m_undoable m.m_undoStart om.2.1 m.m_inputLength m.m_position m.m_start m.m_token m.m_value m.m_letters m.m_code m.m_place m.m_outputLength m.m_s m.m_parsed om.2.2 m.m_remembered m.m_slots m.m_kept m.m_away m.m_input m.m_halfway m.m_output) (c_X12_validAfter l hG D c9 am m.m_undoable m.m_undoStart m.m_thrown m.m_inputLength m.m_position m.m_start m.m_token m.m_value m.m_letters m.m_code m.m_place m.m_outputLength m.m_s m.m_parsed m.m_tried m.m_remembered m.m_slots m.m_kept m.m_away m.m_input m.m_halfway m.m_output (xs (nlaw n + 1).toNatClampNeg) hm) 1 (gV wbd_300 wbd_301 wbd_302 wbd_7 wbd_303) rfl rfl rfl ⟨rfl, pd_X12_validAfter⟩ ⟨Nat.le_of_ble_eq_true rfl, Nat.le_of_ble_eq_true rfl⟩ 0 rfl rfl rfl rfl (Nat.le_of_ble_eq_true rfl) ⟨show nC + 1 + 0 ≤ 601024 by omega, show nS + 6 + 0 ≤ 7293034 by omega⟩ [0, 1, 2, 3, 4, 5, 6, 7, 8, 9, 10] [] [0, 1, 2, 3, 4, 5, 6, 7, 8, 9, 10] rfl rfl rfl rfl dL_law_2283 2286 rfl ?_
  refine v_istore X (lv' := [(6, .int om.1), (5, .int (hcd [2] ox.1)), (0, .ref b), (1, .ref (ad 0)), (2, .ref (am 0)), (3, .ref ao), (4, .int (nlaw n))]) dL_law_2286 (by decide) rfl 2288 rfl ?_
  refine v_aload_n X dL_law_2288 4 rfl rfl 2289 rfl ?_
  refine v_callVi X (C := RX12) (ci := 11) (T := TX12) (As := []) (rest := []) (ws' := wX12 am c9 m.m_undoable m.m_undoStart om.2.1 m.m_inputLength m.m_position m.m_start m.m_token m.m_value m.m_letters m.m_code m.m_place m.m_outputLength m.m_s m.m_parsed om.2.2 m.m_remembered m.m_slots m.m_kept m.m_away m.m_input m.m_halfway m.m_output) (c_X12_thrown l hG D c9 am m.m_undoable m.m_undoStart om.2.1 m.m_inputLength m.m_position m.m_start m.m_token m.m_value m.m_letters m.m_code m.m_place m.m_outputLength m.m_s m.m_parsed om.2.2 m.m_remembered m.m_slots m.m_kept m.m_away m.m_input m.m_halfway m.m_output  rfl) 0 (gV wbd_9 wbd_10 wbd_11 wbd_7 wbd_12) rfl rfl rfl ⟨rfl, pd_X12_thrown⟩ ⟨Nat.le_of_ble_eq_true rfl, Nat.le_of_ble_eq_true rfl⟩ 0 rfl rfl rfl rfl (Nat.le_of_ble_eq_true rfl) ⟨show nC + 1 + 0 ≤ 601024 by omega, show nS + 6 + 0 ≤ 7293034 by omega⟩ [0, 1, 2, 3, 4, 5, 6, 7, 8, 9, 10] [] [0, 1, 2, 3, 4, 5, 6, 7, 8, 9, 10] rfl rfl rfl rfl dL_law_2289 2292 rfl ?_
  refine v_iload X dL_law_2292 1 rfl 2294 rfl ?_
  refine v_icmp_eq X (tgt := 2299) dL_law_2294 rfl 2297 rfl (a := some ()) (b := none) (o := ()) (if_pos ht) (fun _ => ?_) (fun h => nomatch h)
  refine v_toX ?_
  refine v_iload X dL_law_2299 1 rfl 2301 rfl ?_
  by_cases h0 : ox.1 = 0
  · refine v_if_ne X (tgt := 2316) dL_law_2301 rfl 2304 rfl (a := none) (b := some ()) (o := ()) (if_pos (by rw [h0]; rfl)) (fun h => nomatch h) (fun _ => ?_)
    refine v_aload_n X dL_law_2304 5 rfl rfl 2305 rfl ?_
    refine v_iconst X dL_law_2305 ic_0 2306 rfl ?_
    refine v_outld X dL_law_2306 2307 rfl ?_
    refine v_iload X dL_law_2307 0 rfl 2309 rfl ?_
    refine v_i2l X dL_law_2309 2310 rfl ?_
    refine v_lcmp X dL_law_2310 2311 rfl ?_
    refine v_if_eq X (tgt := 2316) dL_law_2311 rfl 2314 rfl (a := some ()) (b := none) (o := ()) (if_pos (by rw [hout, if_pos h0, ← hv h0]; exact lg_cmp_self _)) (fun _ => ?_) (fun h => nomatch h)
    refine v_goto X (tgt := 3452) dL_law_2316 rfl ?_
    refine v_sub (lv' := [(0, .ref b), (1, .ref (ad 0)), (2, .ref (am 0)), (3, .ref ao), (4, .int (nlaw n))]) [2, 3, 4, 5, 6] rfl ?_
    exact v_widen (by omega) (by omega) (K _ _ asl apa _ hR1)
  · refine v_if_ne X (tgt := 2316) dL_law_2301 rfl 2304 rfl (a := some ()) (b := none) (o := ()) (if_neg (hcd_ne h0 (by decide))) (fun _ => ?_) (fun h => nomatch h)
    refine v_goto X (tgt := 3452) dL_law_2316 rfl ?_
    refine v_sub (lv' := [(0, .ref b), (1, .ref (ad 0)), (2, .ref (am 0)), (3, .ref ao), (4, .int (nlaw n))]) [2, 3, 4, 5, 6] rfl ?_
    exact v_widen (by omega) (by omega) (K _ _ asl apa _ hR1)
set_option maxRecDepth 100000 in
set_option maxHeartbeats 4000000 in
theorem w_41 (l : Launch) {G : (Nat → Prop) → State → Heap → Prop} (hG : vG G) (hl0 : l.stackTraces = false) (hNC : ∀ (A : Nat → Prop) (U : State) (H : Heap), G A U H → ∀ q ∈ ncL, va_Nc q.1 q.2 U) (D : va_G) (c9 : Nat → ClassId) (sk sv : Nat → Nat) (hGU : ∀ (A : Nat → Prop) (U : State) (H : Heap), G A U H → vU sk sv A U H) (ad am : Nat → Nat) (ao b L : Nat) (xs : Nat → Int32) {p : Program} {e : Env} {s : State} {mm : MethodId} {args : Array Value} {below : List Frame} {meth : Method} {c : Code} {A : Nat → Prop} {Q : State → Prop} (X : vX p s mm args meth c cL_law 9 (some .boolean) RL (Cond.tt :: Wg) D (tyA c9) G A) (hX : va_X b L xs s s.heap) (hbl : b < s.heap.size) (hbA : ¬ A b) (REL : FX → FM → Prop) (hk : H41 REL) (n : Nat) (hn : n + 6 ≤ L) (hL : L ≤ 3072) (x : FX) (m : FM) (hR : REL x m) (asl apa : Nat → Nat → Nat) (fo : Nat → Int64) (nC nS : Nat) (hC : nC + 14 ≤ 601024) (hS : nS + 481 ≤ 7293034) (K : ∀ (x' : FX) (m' : FM) (asl' apa' : Nat → Nat → Nat) (fo' : Nat → Int64), REL x' m' → vW p l e room_1 s mm args below meth c 9 D A (wLF c9 x'.sl asl' x'.pa apa' ao fo' (wMf am c9 m')) (nC + 14) (nS + 481) Q (wXf ad c9 x' asl' apa') 3452 [(0, .ref b), (1, .ref (ad 0)), (2, .ref (am 0)), (3, .ref ao), (4, .int (nlaw n))] []) : vW p l e room_1 s mm args below meth c 9 D A (wLF c9 x.sl asl x.pa apa ao fo (wMf am c9 m)) nC nS Q (wXf ad c9 x asl apa) 2319 [(0, .ref b), (1, .ref (ad 0)), (2, .ref (am 0)), (3, .ref ao), (4, .int (nlaw n))] [] := by
  obtain ⟨ox, om, hx, hex, hm, ht, hv, hR1⟩ := hk x m hR (xs (nlaw n + 1).toNatClampNeg)
  refine v_aload_n X dL_law_2319 1 rfl rfl 2320 rfl ?_
  refine v_aload_n X dL_law_2320 0 rfl rfl 2321 rfl ?_
  refine v_iload X dL_law_2321 4 rfl 2323 rfl ?_
  refine v_iconst X dL_law_2323 ic_1 2324 rfl ?_
  refine v_iadd X dL_law_2324 2325 rfl ?_
  refine v_sld X hX hbl hbA (sc_in hn hL 1 (by decide)) dL_law_2325 2326 rfl ?_
  refine v_aload_n X dL_law_2326 3 rfl rfl 2327 rfl ?_
  refine v_hcallS X (S := Unit) (As := [.ref (ad 0), .int (xs (nlaw n + 1).toNatClampNeg), .ref ao]) (rest := []) (ws' := fun u => wX11 ad c9 x.nextPast x.pastCount x.i_count x.i_cells x.o_count x.o_cells x.p_start x.p_end x.p_kind x.p_value x.p_error x.p_errorAt x.p_d_time x.p_d_tolerance x.p_d_seed x.p_d_madeTickets x.p_d_cheesesOfText x.p_d_R_rows x.p_d_R_cells x.p_d_U_rows x.p_d_U_cells x.p_d_S_rows x.p_d_S_cells x.p_d_T_rows x.p_d_T_cells x.p_d_E_rows x.p_d_E_cells x.s_time x.s_tolerance x.s_seed x.s_madeTickets x.s_cheesesOfText x.s_R_rows x.s_R_cells x.s_U_rows x.s_U_cells x.s_S_rows x.s_S_cells x.s_T_rows x.s_T_cells x.s_E_rows x.s_E_cells x.sl asl x.pa apa) (F' := fun u => wLF c9 x.sl asl x.pa apa ao (hout ox.1 fo ox.2.toInt64) (wMf am c9 m)) (c_L_minutesUntilCheese l hG hl0 hNC D c9 sk sv hGU ad x.nextPast x.pastCount x.i_count x.i_cells x.o_count x.o_cells x.p_start x.p_end x.p_kind x.p_value x.p_error x.p_errorAt x.p_d_time x.p_d_tolerance x.p_d_seed x.p_d_madeTickets x.p_d_cheesesOfText x.p_d_R_rows x.p_d_R_cells x.p_d_U_rows x.p_d_U_cells x.p_d_S_rows x.p_d_S_cells x.p_d_T_rows x.p_d_T_cells x.p_d_E_rows x.p_d_E_cells x.s_time x.s_tolerance x.s_seed x.s_madeTickets x.s_cheesesOfText x.s_R_rows x.s_R_cells x.s_U_rows x.s_U_cells x.s_S_rows x.s_S_cells x.s_T_rows x.s_T_cells x.s_E_rows x.s_E_cells x.sl asl x.pa apa ao fo (xs (nlaw n + 1).toNatClampNeg) hx hex) 3 (gS wbd_304 wbd_305 wbd_2 wbd_306) rfl rfl rfl pd_L_minutesUntilCheese ⟨Nat.le_of_ble_eq_true rfl, Nat.le_of_ble_eq_true rfl⟩ rfl rfl (Nat.le_of_ble_eq_true rfl) ⟨show nC + 1 ≤ 601024 by omega, show nS + 6 ≤ 7293034 by omega⟩ (fun _ => rfl) dL_law_2327 2330 rfl (fun u _ => ?_)
  refine v_istore X (lv' := [(5, .int (hcd [4] ox.1)), (0, .ref b), (1, .ref (ad 0)), (2, .ref (am 0)), (3, .ref ao), (4, .int (nlaw n))]) dL_law_2330 (by decide) rfl 2332 rfl ?_
  refine v_toM ?_
  refine v_aload_n X dL_law_2332 3 rfl rfl 2333 rfl ?_
  refine v_aload_n X dL_law_2333 1 rfl rfl 2334 rfl ?_
  refine v_iload X dL_law_2334 5 rfl 2336 rfl ?_
  refine v_iconst X dL_law_2336 ic_1 2337 rfl ?_
  refine v_iadd X dL_law_2337 2338 rfl ?_
  refine v_sld X hX hbl hbA (sc_in hn hL 1 (by decide)) dL_law_2338 2339 rfl ?_
  refine v_callVi X (C := RX12) (ci := 11) (T := TX12) (As := [.int (xs (nlaw n + 1).toNatClampNeg)]) (rest := []) (ws' := wX12 am c9 m.m_undoable m.m_undoStart om.2.1 m.m_inputLength m.m_position m.m_start m.m_token m.m_value m.m_letters m.m_code m.m_place m.m_outputLength m.m_s m.m_parsed om.2.2 m.m_remembered m.m_slots m.m_kept m.m_away m.m_input m.m_halfway m.m_output) (c_X12_minutesUntilCheese l hG D c9 am m.m_undoable m.m_undoStart m.m_thrown m.m_inputLength m.m_position m.m_start m.m_token m.m_value m.m_letters m.m_code m.m_place m.m_outputLength m.m_s m.m_parsed m.m_tried m.m_remembered m.m_slots m.m_kept m.m_away m.m_input m.m_halfway m.m_output (xs (nlaw n + 1).toNatClampNeg) hm) 1 (gV wbd_307 wbd_308 wbd_309 wbd_7 wbd_310) rfl rfl rfl ⟨rfl, pd_X12_minutesUntilCheese⟩ ⟨Nat.le_of_ble_eq_true rfl, Nat.le_of_ble_eq_true rfl⟩ 0 rfl rfl rfl rfl (Nat.le_of_ble_eq_true rfl) ⟨show nC + 1 + 0 ≤ 601024 by omega, show nS + 6 + 0 ≤ 7293034 by omega⟩ [0, 1, 2, 3, 4, 5, 6, 7, 8, 9, 10] [] [0, 1, 2, 3, 4, 5, 6, 7, 8, 9, 10] rfl rfl rfl rfl dL_law_2339 2342 rfl ?_
  refine v_istore X (lv' := [(6, .int om.1), (5, .int (hcd [4] ox.1)), (0, .ref b), (1, .ref (ad 0)), (2, .ref (am 0)), (3, .ref ao), (4, .int (nlaw n))]) dL_law_2342 (by decide) rfl 2344 rfl ?_
  refine v_aload_n X dL_law_2344 4 rfl rfl 2345 rfl ?_
  refine v_callVi X (C := RX12) (ci := 11) (T := TX12) (As := []) (rest := []) (ws' := wX12 am c9 m.m_undoable m.m_undoStart om.2.1 m.m_inputLength m.m_position m.m_start m.m_token m.m_value m.m_letters m.m_code m.m_place m.m_outputLength m.m_s m.m_parsed om.2.2 m.m_remembered m.m_slots m.m_kept m.m_away m.m_input m.m_halfway m.m_output) (c_X12_thrown l hG D c9 am m.m_undoable m.m_undoStart om.2.1 m.m_inputLength m.m_position m.m_start m.m_token m.m_value m.m_letters m.m_code m.m_place m.m_outputLength m.m_s m.m_parsed om.2.2 m.m_remembered m.m_slots m.m_kept m.m_away m.m_input m.m_halfway m.m_output  rfl) 0 (gV wbd_9 wbd_10 wbd_11 wbd_7 wbd_12) rfl rfl rfl ⟨rfl, pd_X12_thrown⟩ ⟨Nat.le_of_ble_eq_true rfl, Nat.le_of_ble_eq_true rfl⟩ 0 rfl rfl rfl rfl (Nat.le_of_ble_eq_true rfl) ⟨show nC + 1 + 0 ≤ 601024 by omega, show nS + 6 + 0 ≤ 7293034 by omega⟩ [0, 1, 2, 3, 4, 5, 6, 7, 8, 9, 10] [] [0, 1, 2, 3, 4, 5, 6, 7, 8, 9, 10] rfl rfl rfl rfl dL_law_2345 2348 rfl ?_
  refine v_iload X dL_law_2348 1 rfl 2350 rfl ?_
  refine v_icmp_eq X (tgt := 2355) dL_law_2350 rfl 2353 rfl (a := some ()) (b := none) (o := ()) (if_pos ht) (fun _ => ?_) (fun h => nomatch h)
  refine v_toX ?_
  refine v_iload X dL_law_2355 1 rfl 2357 rfl ?_
  by_cases h0 : ox.1 = 0
  · refine v_if_ne X (tgt := 2372) dL_law_2357 rfl 2360 rfl (a := none) (b := some ()) (o := ()) (if_pos (by rw [h0]; rfl)) (fun h => nomatch h) (fun _ => ?_)
    refine v_aload_n X dL_law_2360 5 rfl rfl 2361 rfl ?_
    refine v_iconst X dL_law_2361 ic_0 2362 rfl ?_
    refine v_outld X dL_law_2362 2363 rfl ?_
    refine v_iload X dL_law_2363 0 rfl 2365 rfl ?_
    refine v_i2l X dL_law_2365 2366 rfl ?_
    refine v_lcmp X dL_law_2366 2367 rfl ?_
    refine v_if_eq X (tgt := 2372) dL_law_2367 rfl 2370 rfl (a := some ()) (b := none) (o := ()) (if_pos (by rw [hout, if_pos h0, ← hv h0]; exact lg_cmp_self _)) (fun _ => ?_) (fun h => nomatch h)
    refine v_goto X (tgt := 3452) dL_law_2372 rfl ?_
    refine v_sub (lv' := [(0, .ref b), (1, .ref (ad 0)), (2, .ref (am 0)), (3, .ref ao), (4, .int (nlaw n))]) [2, 3, 4, 5, 6] rfl ?_
    exact v_widen (by omega) (by omega) (K _ _ asl apa _ hR1)
  · refine v_if_ne X (tgt := 2372) dL_law_2357 rfl 2360 rfl (a := some ()) (b := none) (o := ()) (if_neg (hcd_ne h0 (by decide))) (fun _ => ?_) (fun h => nomatch h)
    refine v_goto X (tgt := 3452) dL_law_2372 rfl ?_
    refine v_sub (lv' := [(0, .ref b), (1, .ref (ad 0)), (2, .ref (am 0)), (3, .ref ao), (4, .int (nlaw n))]) [2, 3, 4, 5, 6] rfl ?_
    exact v_widen (by omega) (by omega) (K _ _ asl apa _ hR1)
set_option maxRecDepth 100000 in
set_option maxHeartbeats 4000000 in
theorem w_42 (l : Launch) {G : (Nat → Prop) → State → Heap → Prop} (hG : vG G) (hl0 : l.stackTraces = false) (hNC : ∀ (A : Nat → Prop) (U : State) (H : Heap), G A U H → ∀ q ∈ ncL, va_Nc q.1 q.2 U) (D : va_G) (c9 : Nat → ClassId) (sk sv : Nat → Nat) (hGU : ∀ (A : Nat → Prop) (U : State) (H : Heap), G A U H → vU sk sv A U H) (ad am : Nat → Nat) (ao b L : Nat) (xs : Nat → Int32) {p : Program} {e : Env} {s : State} {mm : MethodId} {args : Array Value} {below : List Frame} {meth : Method} {c : Code} {A : Nat → Prop} {Q : State → Prop} (X : vX p s mm args meth c cL_law 9 (some .boolean) RL (Cond.tt :: Wg) D (tyA c9) G A) (hX : va_X b L xs s s.heap) (hbl : b < s.heap.size) (hbA : ¬ A b) (REL : FX → FM → Prop) (hk : H42 REL) (n : Nat) (hn : n + 6 ≤ L) (hL : L ≤ 3072) (x : FX) (m : FM) (hR : REL x m) (asl apa : Nat → Nat → Nat) (fo : Nat → Int64) (nC nS : Nat) (hC : nC + 14 ≤ 601024) (hS : nS + 481 ≤ 7293034) (K : ∀ (x' : FX) (m' : FM) (asl' apa' : Nat → Nat → Nat) (fo' : Nat → Int64), REL x' m' → vW p l e room_1 s mm args below meth c 9 D A (wLF c9 x'.sl asl' x'.pa apa' ao fo' (wMf am c9 m')) (nC + 14) (nS + 481) Q (wXf ad c9 x' asl' apa') 3452 [(0, .ref b), (1, .ref (ad 0)), (2, .ref (am 0)), (3, .ref ao), (4, .int (nlaw n))] []) : vW p l e room_1 s mm args below meth c 9 D A (wLF c9 x.sl asl x.pa apa ao fo (wMf am c9 m)) nC nS Q (wXf ad c9 x asl apa) 2375 [(0, .ref b), (1, .ref (ad 0)), (2, .ref (am 0)), (3, .ref ao), (4, .int (nlaw n))] [] := by
  obtain ⟨ox, om, hx, hex, hm, ht, hv, hR1⟩ := hk x m hR (xs (nlaw n + 1).toNatClampNeg) (xs (nlaw n + 2).toNatClampNeg)
  refine v_aload_n X dL_law_2375 1 rfl rfl 2376 rfl ?_
  refine v_aload_n X dL_law_2376 0 rfl rfl 2377 rfl ?_
  refine v_iload X dL_law_2377 4 rfl 2379 rfl ?_
  refine v_iconst X dL_law_2379 ic_1 2380 rfl ?_
  refine v_iadd X dL_law_2380 2381 rfl ?_
  refine v_sld X hX hbl hbA (sc_in hn hL 1 (by decide)) dL_law_2381 2382 rfl ?_
  refine v_aload_n X dL_law_2382 0 rfl rfl 2383 rfl ?_
  refine v_iload X dL_law_2383 4 rfl 2385 rfl ?_
  refine v_iconst X dL_law_2385 ic_2 2386 rfl ?_
  refine v_iadd X dL_law_2386 2387 rfl ?_
  refine v_sld X hX hbl hbA (sc_in hn hL 2 (by decide)) dL_law_2387 2388 rfl ?_
  refine v_aload_n X dL_law_2388 3 rfl rfl 2389 rfl ?_
  refine v_hcallS X (S := Unit) (As := [.ref (ad 0), .int (xs (nlaw n + 1).toNatClampNeg), .int (xs (nlaw n + 2).toNatClampNeg), .ref ao]) (rest := []) (ws' := fun u => wX11 ad c9 x.nextPast x.pastCount x.i_count x.i_cells x.o_count x.o_cells x.p_start x.p_end x.p_kind x.p_value x.p_error x.p_errorAt x.p_d_time x.p_d_tolerance x.p_d_seed x.p_d_madeTickets x.p_d_cheesesOfText x.p_d_R_rows x.p_d_R_cells x.p_d_U_rows x.p_d_U_cells x.p_d_S_rows x.p_d_S_cells x.p_d_T_rows x.p_d_T_cells x.p_d_E_rows x.p_d_E_cells x.s_time x.s_tolerance x.s_seed x.s_madeTickets x.s_cheesesOfText x.s_R_rows x.s_R_cells x.s_U_rows x.s_U_cells x.s_S_rows x.s_S_cells x.s_T_rows x.s_T_cells x.s_E_rows x.s_E_cells x.sl asl x.pa apa) (F' := fun u => wLF c9 x.sl asl x.pa apa ao (hout ox.1 fo ox.2.toInt64) (wMf am c9 m)) (c_L_bestTicket l hG hl0 hNC D c9 sk sv hGU ad x.nextPast x.pastCount x.i_count x.i_cells x.o_count x.o_cells x.p_start x.p_end x.p_kind x.p_value x.p_error x.p_errorAt x.p_d_time x.p_d_tolerance x.p_d_seed x.p_d_madeTickets x.p_d_cheesesOfText x.p_d_R_rows x.p_d_R_cells x.p_d_U_rows x.p_d_U_cells x.p_d_S_rows x.p_d_S_cells x.p_d_T_rows x.p_d_T_cells x.p_d_E_rows x.p_d_E_cells x.s_time x.s_tolerance x.s_seed x.s_madeTickets x.s_cheesesOfText x.s_R_rows x.s_R_cells x.s_U_rows x.s_U_cells x.s_S_rows x.s_S_cells x.s_T_rows x.s_T_cells x.s_E_rows x.s_E_cells x.sl asl x.pa apa ao fo (xs (nlaw n + 1).toNatClampNeg) (xs (nlaw n + 2).toNatClampNeg) hx hex) 4 (gS wbd_311 wbd_312 wbd_2 wbd_313) rfl rfl rfl pd_L_bestTicket ⟨Nat.le_of_ble_eq_true rfl, Nat.le_of_ble_eq_true rfl⟩ rfl rfl (Nat.le_of_ble_eq_true rfl) ⟨show nC + 2 ≤ 601024 by omega, show nS + 12 ≤ 7293034 by omega⟩ (fun _ => rfl) dL_law_2389 2392 rfl (fun u _ => ?_)
  refine v_istore X (lv' := [(5, .int (hcd [1] ox.1)), (0, .ref b), (1, .ref (ad 0)), (2, .ref (am 0)), (3, .ref ao), (4, .int (nlaw n))]) dL_law_2392 (by decide) rfl 2394 rfl ?_
  refine v_toM ?_
  refine v_aload_n X dL_law_2394 3 rfl rfl 2395 rfl ?_
  refine v_aload_n X dL_law_2395 1 rfl rfl 2396 rfl ?_
  refine v_iload X dL_law_2396 5 rfl 2398 rfl ?_
  refine v_iconst X dL_law_2398 ic_1 2399 rfl ?_
  refine v_iadd X dL_law_2399 2400 rfl ?_
  refine v_sld X hX hbl hbA (sc_in hn hL 1 (by decide)) dL_law_2400 2401 rfl ?_
  refine v_aload_n X dL_law_2401 1 rfl rfl 2402 rfl ?_
  refine v_iload X dL_law_2402 5 rfl 2404 rfl ?_
  refine v_iconst X dL_law_2404 ic_2 2405 rfl ?_
  refine v_iadd X dL_law_2405 2406 rfl ?_
  refine v_sld X hX hbl hbA (sc_in hn hL 2 (by decide)) dL_law_2406 2407 rfl ?_
  refine v_callVi X (C := RX12) (ci := 11) (T := TX12) (As := [.int (xs (nlaw n + 1).toNatClampNeg), .int (xs (nlaw n + 2).toNatClampNeg)]) (rest := []) (ws' := wX12 am c9 m.m_undoable m.m_undoStart om.2 m.m_inputLength m.m_position m.m_start m.m_token m.m_value m.m_letters m.m_code m.m_place m.m_outputLength m.m_s m.m_parsed m.m_tried m.m_remembered m.m_slots m.m_kept m.m_away m.m_input m.m_halfway m.m_output) (c_X12_bestTicket l hG D c9 am m.m_undoable m.m_undoStart m.m_thrown m.m_inputLength m.m_position m.m_start m.m_token m.m_value m.m_letters m.m_code m.m_place m.m_outputLength m.m_s m.m_parsed m.m_tried m.m_remembered m.m_slots m.m_kept m.m_away m.m_input m.m_halfway m.m_output (xs (nlaw n + 1).toNatClampNeg) (xs (nlaw n + 2).toNatClampNeg) hm) 2 (gV wbd_314 wbd_315 wbd_316 wbd_7 wbd_317) rfl rfl rfl ⟨rfl, pd_X12_bestTicket⟩ ⟨Nat.le_of_ble_eq_true rfl, Nat.le_of_ble_eq_true rfl⟩ 0 rfl rfl rfl rfl (Nat.le_of_ble_eq_true rfl) ⟨show nC + 2 + 0 ≤ 601024 by omega, show nS + 12 + 0 ≤ 7293034 by omega⟩ [0, 1, 2, 3, 4, 5, 6, 7, 8, 9, 10] [] [0, 1, 2, 3, 4, 5, 6, 7, 8, 9, 10] rfl rfl rfl rfl dL_law_2407 2410 rfl ?_
  refine v_istore X (lv' := [(6, .int om.1), (5, .int (hcd [1] ox.1)), (0, .ref b), (1, .ref (ad 0)), (2, .ref (am 0)), (3, .ref ao), (4, .int (nlaw n))]) dL_law_2410 (by decide) rfl 2412 rfl ?_
  refine v_aload_n X dL_law_2412 4 rfl rfl 2413 rfl ?_
  refine v_callVi X (C := RX12) (ci := 11) (T := TX12) (As := []) (rest := []) (ws' := wX12 am c9 m.m_undoable m.m_undoStart om.2 m.m_inputLength m.m_position m.m_start m.m_token m.m_value m.m_letters m.m_code m.m_place m.m_outputLength m.m_s m.m_parsed m.m_tried m.m_remembered m.m_slots m.m_kept m.m_away m.m_input m.m_halfway m.m_output) (c_X12_thrown l hG D c9 am m.m_undoable m.m_undoStart om.2 m.m_inputLength m.m_position m.m_start m.m_token m.m_value m.m_letters m.m_code m.m_place m.m_outputLength m.m_s m.m_parsed m.m_tried m.m_remembered m.m_slots m.m_kept m.m_away m.m_input m.m_halfway m.m_output  rfl) 0 (gV wbd_9 wbd_10 wbd_11 wbd_7 wbd_12) rfl rfl rfl ⟨rfl, pd_X12_thrown⟩ ⟨Nat.le_of_ble_eq_true rfl, Nat.le_of_ble_eq_true rfl⟩ 0 rfl rfl rfl rfl (Nat.le_of_ble_eq_true rfl) ⟨show nC + 2 + 0 ≤ 601024 by omega, show nS + 12 + 0 ≤ 7293034 by omega⟩ [0, 1, 2, 3, 4, 5, 6, 7, 8, 9, 10] [] [0, 1, 2, 3, 4, 5, 6, 7, 8, 9, 10] rfl rfl rfl rfl dL_law_2413 2416 rfl ?_
  refine v_iload X dL_law_2416 1 rfl 2418 rfl ?_
  refine v_icmp_eq X (tgt := 2423) dL_law_2418 rfl 2421 rfl (a := some ()) (b := none) (o := ()) (if_pos ht) (fun _ => ?_) (fun h => nomatch h)
  refine v_toX ?_
  refine v_iload X dL_law_2423 1 rfl 2425 rfl ?_
  by_cases h0 : ox.1 = 0
  · refine v_if_ne X (tgt := 2440) dL_law_2425 rfl 2428 rfl (a := none) (b := some ()) (o := ()) (if_pos (by rw [h0]; rfl)) (fun h => nomatch h) (fun _ => ?_)
    refine v_aload_n X dL_law_2428 5 rfl rfl 2429 rfl ?_
    refine v_iconst X dL_law_2429 ic_0 2430 rfl ?_
    refine v_outld X dL_law_2430 2431 rfl ?_
    refine v_iload X dL_law_2431 0 rfl 2433 rfl ?_
    refine v_i2l X dL_law_2433 2434 rfl ?_
    refine v_lcmp X dL_law_2434 2435 rfl ?_
    refine v_if_eq X (tgt := 2440) dL_law_2435 rfl 2438 rfl (a := some ()) (b := none) (o := ()) (if_pos (by rw [hout, if_pos h0, ← hv h0]; exact lg_cmp_self _)) (fun _ => ?_) (fun h => nomatch h)
    refine v_goto X (tgt := 3452) dL_law_2440 rfl ?_
    refine v_sub (lv' := [(0, .ref b), (1, .ref (ad 0)), (2, .ref (am 0)), (3, .ref ao), (4, .int (nlaw n))]) [2, 3, 4, 5, 6] rfl ?_
    exact v_widen (by omega) (by omega) (K _ _ asl apa _ hR1)
  · refine v_if_ne X (tgt := 2440) dL_law_2425 rfl 2428 rfl (a := some ()) (b := none) (o := ()) (if_neg (hcd_ne h0 (by decide))) (fun _ => ?_) (fun h => nomatch h)
    refine v_goto X (tgt := 3452) dL_law_2440 rfl ?_
    refine v_sub (lv' := [(0, .ref b), (1, .ref (ad 0)), (2, .ref (am 0)), (3, .ref ao), (4, .int (nlaw n))]) [2, 3, 4, 5, 6] rfl ?_
    exact v_widen (by omega) (by omega) (K _ _ asl apa _ hR1)
set_option maxRecDepth 100000 in
set_option maxHeartbeats 4000000 in
theorem w_43 (l : Launch) {G : (Nat → Prop) → State → Heap → Prop} (hG : vG G) (hl0 : l.stackTraces = false) (hNC : ∀ (A : Nat → Prop) (U : State) (H : Heap), G A U H → ∀ q ∈ ncL, va_Nc q.1 q.2 U) (D : va_G) (c9 : Nat → ClassId) (sk sv : Nat → Nat) (hGU : ∀ (A : Nat → Prop) (U : State) (H : Heap), G A U H → vU sk sv A U H) (ad am : Nat → Nat) (ao b L : Nat) (xs : Nat → Int32) {p : Program} {e : Env} {s : State} {mm : MethodId} {args : Array Value} {below : List Frame} {meth : Method} {c : Code} {A : Nat → Prop} {Q : State → Prop} (X : vX p s mm args meth c cL_law 9 (some .boolean) RL (Cond.tt :: Wg) D (tyA c9) G A) (hX : va_X b L xs s s.heap) (hbl : b < s.heap.size) (hbA : ¬ A b) (REL : FX → FM → Prop) (hk : H43 REL) (n : Nat) (hn : n + 6 ≤ L) (hL : L ≤ 3072) (x : FX) (m : FM) (hR : REL x m) (asl apa : Nat → Nat → Nat) (fo : Nat → Int64) (nC nS : Nat) (hC : nC + 14 ≤ 601024) (hS : nS + 481 ≤ 7293034) (K : ∀ (x' : FX) (m' : FM) (asl' apa' : Nat → Nat → Nat) (fo' : Nat → Int64), REL x' m' → vW p l e room_1 s mm args below meth c 9 D A (wLF c9 x'.sl asl' x'.pa apa' ao fo' (wMf am c9 m')) (nC + 14) (nS + 481) Q (wXf ad c9 x' asl' apa') 3452 [(0, .ref b), (1, .ref (ad 0)), (2, .ref (am 0)), (3, .ref ao), (4, .int (nlaw n))] []) : vW p l e room_1 s mm args below meth c 9 D A (wLF c9 x.sl asl x.pa apa ao fo (wMf am c9 m)) nC nS Q (wXf ad c9 x asl apa) 2443 [(0, .ref b), (1, .ref (ad 0)), (2, .ref (am 0)), (3, .ref ao), (4, .int (nlaw n))] [] := by
  obtain ⟨ox, om, hx, hm, hv, hR1⟩ := hk x m hR
  refine v_aload_n X dL_law_2443 1 rfl rfl 2444 rfl ?_
  refine v_callVi X (C := RX11) (ci := 10) (T := TX11) (As := []) (rest := []) (ws' := wX11 ad c9 x.nextPast x.pastCount x.i_count x.i_cells x.o_count x.o_cells x.p_start x.p_end x.p_kind x.p_value x.p_error x.p_errorAt x.p_d_time x.p_d_tolerance x.p_d_seed x.p_d_madeTickets x.p_d_cheesesOfText x.p_d_R_rows x.p_d_R_cells x.p_d_U_rows x.p_d_U_cells x.p_d_S_rows x.p_d_S_cells x.p_d_T_rows x.p_d_T_cells x.p_d_E_rows x.p_d_E_cells x.s_time x.s_tolerance x.s_seed x.s_madeTickets x.s_cheesesOfText x.s_R_rows x.s_R_cells x.s_U_rows x.s_U_cells x.s_S_rows x.s_S_cells x.s_T_rows x.s_T_cells x.s_E_rows x.s_E_cells x.sl asl x.pa apa) (c_X11_useCount l hG D c9 ad x.nextPast x.pastCount x.i_count x.i_cells x.o_count x.o_cells x.p_start x.p_end x.p_kind x.p_value x.p_error x.p_errorAt x.p_d_time x.p_d_tolerance x.p_d_seed x.p_d_madeTickets x.p_d_cheesesOfText x.p_d_R_rows x.p_d_R_cells x.p_d_U_rows x.p_d_U_cells x.p_d_S_rows x.p_d_S_cells x.p_d_T_rows x.p_d_T_cells x.p_d_E_rows x.p_d_E_cells x.s_time x.s_tolerance x.s_seed x.s_madeTickets x.s_cheesesOfText x.s_R_rows x.s_R_cells x.s_U_rows x.s_U_cells x.s_S_rows x.s_S_cells x.s_T_rows x.s_T_cells x.s_E_rows x.s_E_cells x.sl asl x.pa apa hx) 0 (gV wbd_318 wbd_319 wbd_320 wbd_30 wbd_321) rfl rfl rfl ⟨rfl, pd_X11_useCount⟩ ⟨Nat.le_of_ble_eq_true rfl, Nat.le_of_ble_eq_true rfl⟩ 0 rfl rfl rfl rfl (Nat.le_of_ble_eq_true rfl) ⟨show nC + 0 ≤ 601024 by omega, show nS + 0 ≤ 7293034 by omega⟩ [0, 1, 2, 3, 4, 5, 6, 7, 8, 9, 10, 11, 12, 13, 14, 15, 16, 17, 18, 19, 20, 21, 22, 23, 24, 25, 26, 27, 28, 29, 30, 31] [] [0, 1, 2, 3, 4, 5, 6, 7, 8, 9, 10, 11, 12, 13, 14, 15, 16, 17, 18, 19, 20, 21, 22, 23, 24, 25, 26, 27, 28, 29, 30, 31] rfl rfl rfl rfl dL_law_2444 2447 rfl ?_
  refine v_toM ?_
  refine v_aload_n X dL_law_2447 2 rfl rfl 2448 rfl ?_
  refine v_callVi X (C := RX12) (ci := 11) (T := TX12) (As := []) (rest := [.int ox]) (ws' := wX12 am c9 m.m_undoable m.m_undoStart om.2 m.m_inputLength m.m_position m.m_start m.m_token m.m_value m.m_letters m.m_code m.m_place m.m_outputLength m.m_s m.m_parsed m.m_tried m.m_remembered m.m_slots m.m_kept m.m_away m.m_input m.m_halfway m.m_output) (c_X12_useCount l hG D c9 am m.m_undoable m.m_undoStart m.m_thrown m.m_inputLength m.m_position m.m_start m.m_token m.m_value m.m_letters m.m_code m.m_place m.m_outputLength m.m_s m.m_parsed m.m_tried m.m_remembered m.m_slots m.m_kept m.m_away m.m_input m.m_halfway m.m_output  hm) 0 (gV wbd_322 wbd_323 wbd_324 wbd_7 wbd_325) rfl rfl rfl ⟨rfl, pd_X12_useCount⟩ ⟨Nat.le_of_ble_eq_true rfl, Nat.le_of_ble_eq_true rfl⟩ 0 rfl rfl rfl rfl (Nat.le_of_ble_eq_true rfl) ⟨show nC + 0 + 0 ≤ 601024 by omega, show nS + 0 + 0 ≤ 7293034 by omega⟩ [0, 1, 2, 3, 4, 5, 6, 7, 8, 9, 10] [] [0, 1, 2, 3, 4, 5, 6, 7, 8, 9, 10] rfl rfl rfl rfl dL_law_2448 2451 rfl ?_
  refine v_toX ?_
  refine v_icmp_eq X (tgt := 3452) dL_law_2451 rfl 2454 rfl (a := some ()) (b := none) (o := ()) (if_pos hv) (fun _ => ?_) (fun h => nomatch h)
  exact v_widen (by omega) (by omega) (K _ _ asl apa _ hR1)
set_option maxRecDepth 100000 in
set_option maxHeartbeats 4000000 in
theorem w_44 (l : Launch) {G : (Nat → Prop) → State → Heap → Prop} (hG : vG G) (hl0 : l.stackTraces = false) (hNC : ∀ (A : Nat → Prop) (U : State) (H : Heap), G A U H → ∀ q ∈ ncL, va_Nc q.1 q.2 U) (D : va_G) (c9 : Nat → ClassId) (sk sv : Nat → Nat) (hGU : ∀ (A : Nat → Prop) (U : State) (H : Heap), G A U H → vU sk sv A U H) (ad am : Nat → Nat) (ao b L : Nat) (xs : Nat → Int32) {p : Program} {e : Env} {s : State} {mm : MethodId} {args : Array Value} {below : List Frame} {meth : Method} {c : Code} {A : Nat → Prop} {Q : State → Prop} (X : vX p s mm args meth c cL_law 9 (some .boolean) RL (Cond.tt :: Wg) D (tyA c9) G A) (hX : va_X b L xs s s.heap) (hbl : b < s.heap.size) (hbA : ¬ A b) (REL : FX → FM → Prop) (hk : H44 REL) (n : Nat) (hn : n + 6 ≤ L) (hL : L ≤ 3072) (x : FX) (m : FM) (hR : REL x m) (asl apa : Nat → Nat → Nat) (fo : Nat → Int64) (nC nS : Nat) (hC : nC + 14 ≤ 601024) (hS : nS + 481 ≤ 7293034) (K : ∀ (x' : FX) (m' : FM) (asl' apa' : Nat → Nat → Nat) (fo' : Nat → Int64), REL x' m' → vW p l e room_1 s mm args below meth c 9 D A (wLF c9 x'.sl asl' x'.pa apa' ao fo' (wMf am c9 m')) (nC + 14) (nS + 481) Q (wXf ad c9 x' asl' apa') 3452 [(0, .ref b), (1, .ref (ad 0)), (2, .ref (am 0)), (3, .ref ao), (4, .int (nlaw n))] []) : vW p l e room_1 s mm args below meth c 9 D A (wLF c9 x.sl asl x.pa apa ao fo (wMf am c9 m)) nC nS Q (wXf ad c9 x asl apa) 2456 [(0, .ref b), (1, .ref (ad 0)), (2, .ref (am 0)), (3, .ref ao), (4, .int (nlaw n))] [] := by
  obtain ⟨ox, om, hx, hm, hv, hR1⟩ := hk x m hR
  refine v_aload_n X dL_law_2456 1 rfl rfl 2457 rfl ?_
  refine v_callVi X (C := RX11) (ci := 10) (T := TX11) (As := []) (rest := []) (ws' := wX11 ad c9 x.nextPast x.pastCount x.i_count x.i_cells x.o_count x.o_cells x.p_start x.p_end x.p_kind x.p_value x.p_error x.p_errorAt x.p_d_time x.p_d_tolerance x.p_d_seed x.p_d_madeTickets x.p_d_cheesesOfText x.p_d_R_rows x.p_d_R_cells x.p_d_U_rows x.p_d_U_cells x.p_d_S_rows x.p_d_S_cells x.p_d_T_rows x.p_d_T_cells x.p_d_E_rows x.p_d_E_cells x.s_time x.s_tolerance x.s_seed x.s_madeTickets x.s_cheesesOfText x.s_R_rows x.s_R_cells x.s_U_rows x.s_U_cells x.s_S_rows x.s_S_cells x.s_T_rows x.s_T_cells x.s_E_rows x.s_E_cells x.sl asl x.pa apa) (c_X11_cheeseDifference l hG D c9 ad x.nextPast x.pastCount x.i_count x.i_cells x.o_count x.o_cells x.p_start x.p_end x.p_kind x.p_value x.p_error x.p_errorAt x.p_d_time x.p_d_tolerance x.p_d_seed x.p_d_madeTickets x.p_d_cheesesOfText x.p_d_R_rows x.p_d_R_cells x.p_d_U_rows x.p_d_U_cells x.p_d_S_rows x.p_d_S_cells x.p_d_T_rows x.p_d_T_cells x.p_d_E_rows x.p_d_E_cells x.s_time x.s_tolerance x.s_seed x.s_madeTickets x.s_cheesesOfText x.s_R_rows x.s_R_cells x.s_U_rows x.s_U_cells x.s_S_rows x.s_S_cells x.s_T_rows x.s_T_cells x.s_E_rows x.s_E_cells x.sl asl x.pa apa hx) 0 (gV wbd_326 wbd_327 wbd_328 wbd_30 wbd_329) rfl rfl rfl ⟨rfl, pd_X11_cheeseDifference⟩ ⟨Nat.le_of_ble_eq_true rfl, Nat.le_of_ble_eq_true rfl⟩ 0 rfl rfl rfl rfl (Nat.le_of_ble_eq_true rfl) ⟨show nC + 0 ≤ 601024 by omega, show nS + 0 ≤ 7293034 by omega⟩ [0, 1, 2, 3, 4, 5, 6, 7, 8, 9, 10, 11, 12, 13, 14, 15, 16, 17, 18, 19, 20, 21, 22, 23, 24, 25, 26, 27, 28, 29, 30, 31] [] [0, 1, 2, 3, 4, 5, 6, 7, 8, 9, 10, 11, 12, 13, 14, 15, 16, 17, 18, 19, 20, 21, 22, 23, 24, 25, 26, 27, 28, 29, 30, 31] rfl rfl rfl rfl dL_law_2457 2460 rfl ?_
  refine v_toM ?_
  refine v_aload_n X dL_law_2460 2 rfl rfl 2461 rfl ?_
  refine v_callVi X (C := RX12) (ci := 11) (T := TX12) (As := []) (rest := [.int ox]) (ws' := wX12 am c9 m.m_undoable m.m_undoStart om.2 m.m_inputLength m.m_position m.m_start m.m_token m.m_value m.m_letters m.m_code m.m_place m.m_outputLength m.m_s m.m_parsed m.m_tried m.m_remembered m.m_slots m.m_kept m.m_away m.m_input m.m_halfway m.m_output) (c_X12_cheeseDifference l hG D c9 am m.m_undoable m.m_undoStart m.m_thrown m.m_inputLength m.m_position m.m_start m.m_token m.m_value m.m_letters m.m_code m.m_place m.m_outputLength m.m_s m.m_parsed m.m_tried m.m_remembered m.m_slots m.m_kept m.m_away m.m_input m.m_halfway m.m_output  hm) 0 (gV wbd_330 wbd_331 wbd_332 wbd_7 wbd_333) rfl rfl rfl ⟨rfl, pd_X12_cheeseDifference⟩ ⟨Nat.le_of_ble_eq_true rfl, Nat.le_of_ble_eq_true rfl⟩ 0 rfl rfl rfl rfl (Nat.le_of_ble_eq_true rfl) ⟨show nC + 0 + 0 ≤ 601024 by omega, show nS + 0 + 0 ≤ 7293034 by omega⟩ [0, 1, 2, 3, 4, 5, 6, 7, 8, 9, 10] [] [0, 1, 2, 3, 4, 5, 6, 7, 8, 9, 10] rfl rfl rfl rfl dL_law_2461 2464 rfl ?_
  refine v_toX ?_
  refine v_icmp_eq X (tgt := 3452) dL_law_2464 rfl 2467 rfl (a := some ()) (b := none) (o := ()) (if_pos hv) (fun _ => ?_) (fun h => nomatch h)
  exact v_widen (by omega) (by omega) (K _ _ asl apa _ hR1)
set_option maxRecDepth 100000 in
set_option maxHeartbeats 4000000 in
theorem w_45 (l : Launch) {G : (Nat → Prop) → State → Heap → Prop} (hG : vG G) (hl0 : l.stackTraces = false) (hNC : ∀ (A : Nat → Prop) (U : State) (H : Heap), G A U H → ∀ q ∈ ncL, va_Nc q.1 q.2 U) (D : va_G) (c9 : Nat → ClassId) (sk sv : Nat → Nat) (hGU : ∀ (A : Nat → Prop) (U : State) (H : Heap), G A U H → vU sk sv A U H) (ad am : Nat → Nat) (ao b L : Nat) (xs : Nat → Int32) {p : Program} {e : Env} {s : State} {mm : MethodId} {args : Array Value} {below : List Frame} {meth : Method} {c : Code} {A : Nat → Prop} {Q : State → Prop} (X : vX p s mm args meth c cL_law 9 (some .boolean) RL (Cond.tt :: Wg) D (tyA c9) G A) (hX : va_X b L xs s s.heap) (hbl : b < s.heap.size) (hbA : ¬ A b) (REL : FX → FM → Prop) (hk : H45 REL) (n : Nat) (hn : n + 6 ≤ L) (hL : L ≤ 3072) (x : FX) (m : FM) (hR : REL x m) (asl apa : Nat → Nat → Nat) (fo : Nat → Int64) (nC nS : Nat) (hC : nC + 14 ≤ 601024) (hS : nS + 481 ≤ 7293034) (K : ∀ (x' : FX) (m' : FM) (asl' apa' : Nat → Nat → Nat) (fo' : Nat → Int64), REL x' m' → vW p l e room_1 s mm args below meth c 9 D A (wLF c9 x'.sl asl' x'.pa apa' ao fo' (wMf am c9 m')) (nC + 14) (nS + 481) Q (wXf ad c9 x' asl' apa') 3452 [(0, .ref b), (1, .ref (ad 0)), (2, .ref (am 0)), (3, .ref ao), (4, .int (nlaw n))] []) : vW p l e room_1 s mm args below meth c 9 D A (wLF c9 x.sl asl x.pa apa ao fo (wMf am c9 m)) nC nS Q (wXf ad c9 x asl apa) 2469 [(0, .ref b), (1, .ref (ad 0)), (2, .ref (am 0)), (3, .ref ao), (4, .int (nlaw n))] [] := by
  obtain ⟨ox, om, hx, hm, hv, hR1⟩ := hk x m hR
  refine v_aload_n X dL_law_2469 1 rfl rfl 2470 rfl ?_
  refine v_callVi X (C := RX11) (ci := 10) (T := TX11) (As := []) (rest := []) (ws' := wX11 ad c9 x.nextPast x.pastCount x.i_count x.i_cells x.o_count x.o_cells x.p_start x.p_end x.p_kind x.p_value x.p_error x.p_errorAt x.p_d_time x.p_d_tolerance x.p_d_seed x.p_d_madeTickets x.p_d_cheesesOfText x.p_d_R_rows x.p_d_R_cells x.p_d_U_rows x.p_d_U_cells x.p_d_S_rows x.p_d_S_cells x.p_d_T_rows x.p_d_T_cells x.p_d_E_rows x.p_d_E_cells x.s_time x.s_tolerance x.s_seed x.s_madeTickets x.s_cheesesOfText x.s_R_rows x.s_R_cells x.s_U_rows x.s_U_cells x.s_S_rows x.s_S_cells x.s_T_rows x.s_T_cells x.s_E_rows x.s_E_cells x.sl asl x.pa apa) (c_X11_lifeErrors l hG D c9 ad x.nextPast x.pastCount x.i_count x.i_cells x.o_count x.o_cells x.p_start x.p_end x.p_kind x.p_value x.p_error x.p_errorAt x.p_d_time x.p_d_tolerance x.p_d_seed x.p_d_madeTickets x.p_d_cheesesOfText x.p_d_R_rows x.p_d_R_cells x.p_d_U_rows x.p_d_U_cells x.p_d_S_rows x.p_d_S_cells x.p_d_T_rows x.p_d_T_cells x.p_d_E_rows x.p_d_E_cells x.s_time x.s_tolerance x.s_seed x.s_madeTickets x.s_cheesesOfText x.s_R_rows x.s_R_cells x.s_U_rows x.s_U_cells x.s_S_rows x.s_S_cells x.s_T_rows x.s_T_cells x.s_E_rows x.s_E_cells x.sl asl x.pa apa hx) 0 (gV wbd_334 wbd_335 wbd_336 wbd_30 wbd_337) rfl rfl rfl ⟨rfl, pd_X11_lifeErrors⟩ ⟨Nat.le_of_ble_eq_true rfl, Nat.le_of_ble_eq_true rfl⟩ 0 rfl rfl rfl rfl (Nat.le_of_ble_eq_true rfl) ⟨show nC + 0 ≤ 601024 by omega, show nS + 0 ≤ 7293034 by omega⟩ [0, 1, 2, 3, 4, 5, 6, 7, 8, 9, 10, 11, 12, 13, 14, 15, 16, 17, 18, 19, 20, 21, 22, 23, 24, 25, 26, 27, 28, 29, 30, 31] [] [0, 1, 2, 3, 4, 5, 6, 7, 8, 9, 10, 11, 12, 13, 14, 15, 16, 17, 18, 19, 20, 21, 22, 23, 24, 25, 26, 27, 28, 29, 30, 31] rfl rfl rfl rfl dL_law_2470 2473 rfl ?_
  refine v_toM ?_
  refine v_aload_n X dL_law_2473 2 rfl rfl 2474 rfl ?_
  refine v_callVi X (C := RX12) (ci := 11) (T := TX12) (As := []) (rest := [.int ox]) (ws' := wX12 am c9 m.m_undoable m.m_undoStart om.2 m.m_inputLength m.m_position m.m_start m.m_token m.m_value m.m_letters m.m_code m.m_place m.m_outputLength m.m_s m.m_parsed m.m_tried m.m_remembered m.m_slots m.m_kept m.m_away m.m_input m.m_halfway m.m_output) (c_X12_lifeErrors l hG D c9 am m.m_undoable m.m_undoStart m.m_thrown m.m_inputLength m.m_position m.m_start m.m_token m.m_value m.m_letters m.m_code m.m_place m.m_outputLength m.m_s m.m_parsed m.m_tried m.m_remembered m.m_slots m.m_kept m.m_away m.m_input m.m_halfway m.m_output  hm) 0 (gV wbd_338 wbd_339 wbd_340 wbd_7 wbd_341) rfl rfl rfl ⟨rfl, pd_X12_lifeErrors⟩ ⟨Nat.le_of_ble_eq_true rfl, Nat.le_of_ble_eq_true rfl⟩ 0 rfl rfl rfl rfl (Nat.le_of_ble_eq_true rfl) ⟨show nC + 0 + 0 ≤ 601024 by omega, show nS + 0 + 0 ≤ 7293034 by omega⟩ [0, 1, 2, 3, 4, 5, 6, 7, 8, 9, 10] [] [0, 1, 2, 3, 4, 5, 6, 7, 8, 9, 10] rfl rfl rfl rfl dL_law_2474 2477 rfl ?_
  refine v_toX ?_
  refine v_icmp_eq X (tgt := 3452) dL_law_2477 rfl 2480 rfl (a := some ()) (b := none) (o := ()) (if_pos hv) (fun _ => ?_) (fun h => nomatch h)
  exact v_widen (by omega) (by omega) (K _ _ asl apa _ hR1)
set_option maxRecDepth 100000 in
set_option maxHeartbeats 4000000 in
theorem w_46 (l : Launch) {G : (Nat → Prop) → State → Heap → Prop} (hG : vG G) (hl0 : l.stackTraces = false) (hNC : ∀ (A : Nat → Prop) (U : State) (H : Heap), G A U H → ∀ q ∈ ncL, va_Nc q.1 q.2 U) (D : va_G) (c9 : Nat → ClassId) (sk sv : Nat → Nat) (hGU : ∀ (A : Nat → Prop) (U : State) (H : Heap), G A U H → vU sk sv A U H) (ad am : Nat → Nat) (ao b L : Nat) (xs : Nat → Int32) {p : Program} {e : Env} {s : State} {mm : MethodId} {args : Array Value} {below : List Frame} {meth : Method} {c : Code} {A : Nat → Prop} {Q : State → Prop} (X : vX p s mm args meth c cL_law 9 (some .boolean) RL (Cond.tt :: Wg) D (tyA c9) G A) (hX : va_X b L xs s s.heap) (hbl : b < s.heap.size) (hbA : ¬ A b) (REL : FX → FM → Prop) (hk : H46 REL) (n : Nat) (hn : n + 6 ≤ L) (hL : L ≤ 3072) (x : FX) (m : FM) (hR : REL x m) (asl apa : Nat → Nat → Nat) (fo : Nat → Int64) (nC nS : Nat) (hC : nC + 14 ≤ 601024) (hS : nS + 481 ≤ 7293034) (K : ∀ (x' : FX) (m' : FM) (asl' apa' : Nat → Nat → Nat) (fo' : Nat → Int64), REL x' m' → vW p l e room_1 s mm args below meth c 9 D A (wLF c9 x'.sl asl' x'.pa apa' ao fo' (wMf am c9 m')) (nC + 14) (nS + 481) Q (wXf ad c9 x' asl' apa') 3452 [(0, .ref b), (1, .ref (ad 0)), (2, .ref (am 0)), (3, .ref ao), (4, .int (nlaw n))] []) : vW p l e room_1 s mm args below meth c 9 D A (wLF c9 x.sl asl x.pa apa ao fo (wMf am c9 m)) nC nS Q (wXf ad c9 x asl apa) 2482 [(0, .ref b), (1, .ref (ad 0)), (2, .ref (am 0)), (3, .ref ao), (4, .int (nlaw n))] [] := by
  obtain ⟨ox, om, hx, hm, hv, hR1⟩ := hk x m hR
  refine v_aload_n X dL_law_2482 1 rfl rfl 2483 rfl ?_
  refine v_callVi X (C := RX11) (ci := 10) (T := TX11) (As := []) (rest := []) (ws' := wX11 ad c9 x.nextPast x.pastCount x.i_count x.i_cells x.o_count x.o_cells x.p_start x.p_end x.p_kind x.p_value x.p_error x.p_errorAt x.p_d_time x.p_d_tolerance x.p_d_seed x.p_d_madeTickets x.p_d_cheesesOfText x.p_d_R_rows x.p_d_R_cells x.p_d_U_rows x.p_d_U_cells x.p_d_S_rows x.p_d_S_cells x.p_d_T_rows x.p_d_T_cells x.p_d_E_rows x.p_d_E_cells x.s_time x.s_tolerance x.s_seed x.s_madeTickets x.s_cheesesOfText x.s_R_rows x.s_R_cells x.s_U_rows x.s_U_cells x.s_S_rows x.s_S_cells x.s_T_rows x.s_T_cells x.s_E_rows x.s_E_cells x.sl asl x.pa apa) (c_X11_distanceErrors l hG D c9 ad x.nextPast x.pastCount x.i_count x.i_cells x.o_count x.o_cells x.p_start x.p_end x.p_kind x.p_value x.p_error x.p_errorAt x.p_d_time x.p_d_tolerance x.p_d_seed x.p_d_madeTickets x.p_d_cheesesOfText x.p_d_R_rows x.p_d_R_cells x.p_d_U_rows x.p_d_U_cells x.p_d_S_rows x.p_d_S_cells x.p_d_T_rows x.p_d_T_cells x.p_d_E_rows x.p_d_E_cells x.s_time x.s_tolerance x.s_seed x.s_madeTickets x.s_cheesesOfText x.s_R_rows x.s_R_cells x.s_U_rows x.s_U_cells x.s_S_rows x.s_S_cells x.s_T_rows x.s_T_cells x.s_E_rows x.s_E_cells x.sl asl x.pa apa hx) 0 (gV wbd_342 wbd_343 wbd_344 wbd_30 wbd_345) rfl rfl rfl ⟨rfl, pd_X11_distanceErrors⟩ ⟨Nat.le_of_ble_eq_true rfl, Nat.le_of_ble_eq_true rfl⟩ 0 rfl rfl rfl rfl (Nat.le_of_ble_eq_true rfl) ⟨show nC + 2 ≤ 601024 by omega, show nS + 29 ≤ 7293034 by omega⟩ [0, 1, 2, 3, 4, 5, 6, 7, 8, 9, 10, 11, 12, 13, 14, 15, 16, 17, 18, 19, 20, 21, 22, 23, 24, 25, 26, 27, 28, 29, 30, 31] [] [0, 1, 2, 3, 4, 5, 6, 7, 8, 9, 10, 11, 12, 13, 14, 15, 16, 17, 18, 19, 20, 21, 22, 23, 24, 25, 26, 27, 28, 29, 30, 31] rfl rfl rfl rfl dL_law_2483 2486 rfl ?_
  refine v_toM ?_
  refine v_aload_n X dL_law_2486 2 rfl rfl 2487 rfl ?_
  refine v_callVi X (C := RX12) (ci := 11) (T := TX12) (As := []) (rest := [.int ox]) (ws' := wX12 am c9 m.m_undoable m.m_undoStart om.2.1 m.m_inputLength m.m_position m.m_start m.m_token m.m_value m.m_letters m.m_code m.m_place m.m_outputLength m.m_s m.m_parsed m.m_tried m.m_remembered m.m_slots m.m_kept om.2.2.1 m.m_input om.2.2.2 m.m_output) (c_X12_distanceErrors l hG D c9 am m.m_undoable m.m_undoStart m.m_thrown m.m_inputLength m.m_position m.m_start m.m_token m.m_value m.m_letters m.m_code m.m_place m.m_outputLength m.m_s m.m_parsed m.m_tried m.m_remembered m.m_slots m.m_kept m.m_away m.m_input m.m_halfway m.m_output  hm) 0 (gV wbd_346 wbd_347 wbd_348 wbd_7 wbd_349) rfl rfl rfl ⟨rfl, pd_X12_distanceErrors⟩ ⟨Nat.le_of_ble_eq_true rfl, Nat.le_of_ble_eq_true rfl⟩ 0 rfl rfl rfl rfl (Nat.le_of_ble_eq_true rfl) ⟨show nC + 2 + 0 ≤ 601024 by omega, show nS + 29 + 0 ≤ 7293034 by omega⟩ [0, 1, 2, 3, 4, 5, 6, 7, 8, 9, 10] [] [0, 1, 2, 3, 4, 5, 6, 7, 8, 9, 10] rfl rfl rfl rfl dL_law_2487 2490 rfl ?_
  refine v_toX ?_
  refine v_icmp_eq X (tgt := 3452) dL_law_2490 rfl 2493 rfl (a := some ()) (b := none) (o := ()) (if_pos hv) (fun _ => ?_) (fun h => nomatch h)
  exact v_widen (by omega) (by omega) (K _ _ asl apa _ hR1)
set_option maxRecDepth 100000 in
set_option maxHeartbeats 4000000 in
theorem w_47 (l : Launch) {G : (Nat → Prop) → State → Heap → Prop} (hG : vG G) (hl0 : l.stackTraces = false) (hNC : ∀ (A : Nat → Prop) (U : State) (H : Heap), G A U H → ∀ q ∈ ncL, va_Nc q.1 q.2 U) (D : va_G) (c9 : Nat → ClassId) (sk sv : Nat → Nat) (hGU : ∀ (A : Nat → Prop) (U : State) (H : Heap), G A U H → vU sk sv A U H) (ad am : Nat → Nat) (ao b L : Nat) (xs : Nat → Int32) {p : Program} {e : Env} {s : State} {mm : MethodId} {args : Array Value} {below : List Frame} {meth : Method} {c : Code} {A : Nat → Prop} {Q : State → Prop} (X : vX p s mm args meth c cL_law 9 (some .boolean) RL (Cond.tt :: Wg) D (tyA c9) G A) (hX : va_X b L xs s s.heap) (hbl : b < s.heap.size) (hbA : ¬ A b) (REL : FX → FM → Prop) (hk : H47 REL) (n : Nat) (hn : n + 6 ≤ L) (hL : L ≤ 3072) (x : FX) (m : FM) (hR : REL x m) (asl apa : Nat → Nat → Nat) (fo : Nat → Int64) (nC nS : Nat) (hC : nC + 14 ≤ 601024) (hS : nS + 481 ≤ 7293034) (K : ∀ (x' : FX) (m' : FM) (asl' apa' : Nat → Nat → Nat) (fo' : Nat → Int64), REL x' m' → vW p l e room_1 s mm args below meth c 9 D A (wLF c9 x'.sl asl' x'.pa apa' ao fo' (wMf am c9 m')) (nC + 14) (nS + 481) Q (wXf ad c9 x' asl' apa') 3452 [(0, .ref b), (1, .ref (ad 0)), (2, .ref (am 0)), (3, .ref ao), (4, .int (nlaw n))] []) : vW p l e room_1 s mm args below meth c 9 D A (wLF c9 x.sl asl x.pa apa ao fo (wMf am c9 m)) nC nS Q (wXf ad c9 x asl apa) 2495 [(0, .ref b), (1, .ref (ad 0)), (2, .ref (am 0)), (3, .ref ao), (4, .int (nlaw n))] [] := by
  obtain ⟨ox, om, hx, hm, hv, hne, hcm, hR1⟩ := hk x m hR
  refine v_aload_n X dL_law_2495 1 rfl rfl 2496 rfl ?_
  refine v_callVf X (C := RX11) (ci := 10) (T := TX11) (As := []) (rest := []) (ws' := wX11 ad c9 x.nextPast x.pastCount x.i_count x.i_cells x.o_count x.o_cells x.p_start x.p_end x.p_kind x.p_value x.p_error x.p_errorAt x.p_d_time x.p_d_tolerance x.p_d_seed x.p_d_madeTickets x.p_d_cheesesOfText x.p_d_R_rows x.p_d_R_cells x.p_d_U_rows x.p_d_U_cells x.p_d_S_rows x.p_d_S_cells x.p_d_T_rows x.p_d_T_cells x.p_d_E_rows x.p_d_E_cells x.s_time x.s_tolerance x.s_seed x.s_madeTickets x.s_cheesesOfText x.s_R_rows x.s_R_cells x.s_U_rows x.s_U_cells x.s_S_rows x.s_S_cells x.s_T_rows x.s_T_cells x.s_E_rows x.s_E_cells x.sl asl x.pa apa) (c_X11_validShare l hG D c9 ad x.nextPast x.pastCount x.i_count x.i_cells x.o_count x.o_cells x.p_start x.p_end x.p_kind x.p_value x.p_error x.p_errorAt x.p_d_time x.p_d_tolerance x.p_d_seed x.p_d_madeTickets x.p_d_cheesesOfText x.p_d_R_rows x.p_d_R_cells x.p_d_U_rows x.p_d_U_cells x.p_d_S_rows x.p_d_S_cells x.p_d_T_rows x.p_d_T_cells x.p_d_E_rows x.p_d_E_cells x.s_time x.s_tolerance x.s_seed x.s_madeTickets x.s_cheesesOfText x.s_R_rows x.s_R_cells x.s_U_rows x.s_U_cells x.s_S_rows x.s_S_cells x.s_T_rows x.s_T_cells x.s_E_rows x.s_E_cells x.sl asl x.pa apa hx) 0 (gV wbd_350 wbd_351 wbd_352 wbd_30 wbd_353) rfl rfl rfl ⟨rfl, pd_X11_validShare⟩ ⟨Nat.le_of_ble_eq_true rfl, Nat.le_of_ble_eq_true rfl⟩ 0 rfl rfl rfl rfl (Nat.le_of_ble_eq_true rfl) ⟨show nC + 0 ≤ 601024 by omega, show nS + 0 ≤ 7293034 by omega⟩ [0, 1, 2, 3, 4, 5, 6, 7, 8, 9, 10, 11, 12, 13, 14, 15, 16, 17, 18, 19, 20, 21, 22, 23, 24, 25, 26, 27, 28, 29, 30, 31] [] [0, 1, 2, 3, 4, 5, 6, 7, 8, 9, 10, 11, 12, 13, 14, 15, 16, 17, 18, 19, 20, 21, 22, 23, 24, 25, 26, 27, 28, 29, 30, 31] rfl rfl rfl rfl dL_law_2496 2499 rfl ?_
  refine v_f2d X hne dL_law_2499 2500 rfl ?_
  refine v_dst X (lv' := [(5, .double (FP.f2d ox)), (0, .ref b), (1, .ref (ad 0)), (2, .ref (am 0)), (3, .ref ao), (4, .int (nlaw n))]) dL_law_2500 (by decide) rfl 2502 rfl ?_
  refine v_toM ?_
  refine v_aload_n X dL_law_2502 3 rfl rfl 2503 rfl ?_
  refine v_callVf X (C := RX12) (ci := 11) (T := TX12) (As := []) (rest := []) (ws' := wX12 am c9 m.m_undoable m.m_undoStart om.2 m.m_inputLength m.m_position m.m_start m.m_token m.m_value m.m_letters m.m_code m.m_place m.m_outputLength m.m_s m.m_parsed m.m_tried m.m_remembered m.m_slots m.m_kept m.m_away m.m_input m.m_halfway m.m_output) (c_X12_validShare l hG D c9 am m.m_undoable m.m_undoStart m.m_thrown m.m_inputLength m.m_position m.m_start m.m_token m.m_value m.m_letters m.m_code m.m_place m.m_outputLength m.m_s m.m_parsed m.m_tried m.m_remembered m.m_slots m.m_kept m.m_away m.m_input m.m_halfway m.m_output  hm) 0 (gV wbd_354 wbd_355 wbd_356 wbd_7 wbd_357) rfl rfl rfl ⟨rfl, pd_X12_validShare⟩ ⟨Nat.le_of_ble_eq_true rfl, Nat.le_of_ble_eq_true rfl⟩ 0 rfl rfl rfl rfl (Nat.le_of_ble_eq_true rfl) ⟨show nC + 0 + 0 ≤ 601024 by omega, show nS + 0 + 0 ≤ 7293034 by omega⟩ [0, 1, 2, 3, 4, 5, 6, 7, 8, 9, 10] [] [0, 1, 2, 3, 4, 5, 6, 7, 8, 9, 10] rfl rfl rfl rfl dL_law_2503 2506 rfl ?_
  refine v_toX ?_
  rw [← hv]
  refine v_f2d X hne dL_law_2506 2507 rfl ?_
  refine v_dst X (lv' := [(7, .double (FP.f2d ox)), (5, .double (FP.f2d ox)), (0, .ref b), (1, .ref (ad 0)), (2, .ref (am 0)), (3, .ref ao), (4, .int (nlaw n))]) dL_law_2507 (by decide) rfl 2509 rfl ?_
  refine v_dld X dL_law_2509 1 rfl 2511 rfl ?_
  refine v_dld X dL_law_2511 0 rfl 2513 rfl ?_
  refine v_dcmp X dL_law_2513 2514 rfl ?_
  refine v_if_eq X (tgt := 2535) dL_law_2514 rfl 2517 rfl (a := some ()) (b := none) (o := ()) (if_pos hcm) (fun _ => ?_) (fun h => nomatch h)
  refine v_goto X (tgt := 3452) dL_law_2535 rfl ?_
  refine v_sub (lv' := [(0, .ref b), (1, .ref (ad 0)), (2, .ref (am 0)), (3, .ref ao), (4, .int (nlaw n))]) [2, 3, 4, 5, 6] rfl ?_
  exact v_widen (by omega) (by omega) (K _ _ asl apa _ hR1)
set_option maxRecDepth 100000 in
set_option maxHeartbeats 4000000 in
theorem w_48 (l : Launch) {G : (Nat → Prop) → State → Heap → Prop} (hG : vG G) (hl0 : l.stackTraces = false) (hNC : ∀ (A : Nat → Prop) (U : State) (H : Heap), G A U H → ∀ q ∈ ncL, va_Nc q.1 q.2 U) (D : va_G) (c9 : Nat → ClassId) (sk sv : Nat → Nat) (hGU : ∀ (A : Nat → Prop) (U : State) (H : Heap), G A U H → vU sk sv A U H) (ad am : Nat → Nat) (ao b L : Nat) (xs : Nat → Int32) {p : Program} {e : Env} {s : State} {mm : MethodId} {args : Array Value} {below : List Frame} {meth : Method} {c : Code} {A : Nat → Prop} {Q : State → Prop} (X : vX p s mm args meth c cL_law 9 (some .boolean) RL (Cond.tt :: Wg) D (tyA c9) G A) (hX : va_X b L xs s s.heap) (hbl : b < s.heap.size) (hbA : ¬ A b) (REL : FX → FM → Prop) (hk : H48 REL) (n : Nat) (hn : n + 6 ≤ L) (hL : L ≤ 3072) (x : FX) (m : FM) (hR : REL x m) (asl apa : Nat → Nat → Nat) (fo : Nat → Int64) (nC nS : Nat) (hC : nC + 14 ≤ 601024) (hS : nS + 481 ≤ 7293034) (K : ∀ (x' : FX) (m' : FM) (asl' apa' : Nat → Nat → Nat) (fo' : Nat → Int64), REL x' m' → vW p l e room_1 s mm args below meth c 9 D A (wLF c9 x'.sl asl' x'.pa apa' ao fo' (wMf am c9 m')) (nC + 14) (nS + 481) Q (wXf ad c9 x' asl' apa') 3452 [(0, .ref b), (1, .ref (ad 0)), (2, .ref (am 0)), (3, .ref ao), (4, .int (nlaw n))] []) : vW p l e room_1 s mm args below meth c 9 D A (wLF c9 x.sl asl x.pa apa ao fo (wMf am c9 m)) nC nS Q (wXf ad c9 x asl apa) 2538 [(0, .ref b), (1, .ref (ad 0)), (2, .ref (am 0)), (3, .ref ao), (4, .int (nlaw n))] [] := by
  obtain ⟨ox, om, hx, hm, hv, hcm, hR1⟩ := hk x m hR
  refine v_aload_n X dL_law_2538 1 rfl rfl 2539 rfl ?_
  refine v_callVd X (C := RX11) (ci := 10) (T := TX11) (As := []) (rest := []) (ws' := wX11 ad c9 x.nextPast x.pastCount x.i_count x.i_cells x.o_count x.o_cells x.p_start x.p_end x.p_kind x.p_value x.p_error x.p_errorAt x.p_d_time x.p_d_tolerance x.p_d_seed x.p_d_madeTickets x.p_d_cheesesOfText x.p_d_R_rows x.p_d_R_cells x.p_d_U_rows x.p_d_U_cells x.p_d_S_rows x.p_d_S_cells x.p_d_T_rows x.p_d_T_cells x.p_d_E_rows x.p_d_E_cells x.s_time x.s_tolerance x.s_seed x.s_madeTickets x.s_cheesesOfText x.s_R_rows x.s_R_cells x.s_U_rows x.s_U_cells x.s_S_rows x.s_S_cells x.s_T_rows x.s_T_cells x.s_E_rows x.s_E_cells x.sl asl x.pa apa) (c_X11_averageLife l hG D c9 ad x.nextPast x.pastCount x.i_count x.i_cells x.o_count x.o_cells x.p_start x.p_end x.p_kind x.p_value x.p_error x.p_errorAt x.p_d_time x.p_d_tolerance x.p_d_seed x.p_d_madeTickets x.p_d_cheesesOfText x.p_d_R_rows x.p_d_R_cells x.p_d_U_rows x.p_d_U_cells x.p_d_S_rows x.p_d_S_cells x.p_d_T_rows x.p_d_T_cells x.p_d_E_rows x.p_d_E_cells x.s_time x.s_tolerance x.s_seed x.s_madeTickets x.s_cheesesOfText x.s_R_rows x.s_R_cells x.s_U_rows x.s_U_cells x.s_S_rows x.s_S_cells x.s_T_rows x.s_T_cells x.s_E_rows x.s_E_cells x.sl asl x.pa apa hx) 0 (gV wbd_358 wbd_359 wbd_360 wbd_30 wbd_361) rfl rfl rfl ⟨rfl, pd_X11_averageLife⟩ ⟨Nat.le_of_ble_eq_true rfl, Nat.le_of_ble_eq_true rfl⟩ 0 rfl rfl rfl rfl (Nat.le_of_ble_eq_true rfl) ⟨show nC + 0 ≤ 601024 by omega, show nS + 0 ≤ 7293034 by omega⟩ [0, 1, 2, 3, 4, 5, 6, 7, 8, 9, 10, 11, 12, 13, 14, 15, 16, 17, 18, 19, 20, 21, 22, 23, 24, 25, 26, 27, 28, 29, 30, 31] [] [0, 1, 2, 3, 4, 5, 6, 7, 8, 9, 10, 11, 12, 13, 14, 15, 16, 17, 18, 19, 20, 21, 22, 23, 24, 25, 26, 27, 28, 29, 30, 31] rfl rfl rfl rfl dL_law_2539 2542 rfl ?_
  refine v_dst X (lv' := [(5, .double ox), (0, .ref b), (1, .ref (ad 0)), (2, .ref (am 0)), (3, .ref ao), (4, .int (nlaw n))]) dL_law_2542 (by decide) rfl 2544 rfl ?_
  refine v_toM ?_
  refine v_aload_n X dL_law_2544 3 rfl rfl 2545 rfl ?_
  refine v_callVd X (C := RX12) (ci := 11) (T := TX12) (As := []) (rest := []) (ws' := wX12 am c9 m.m_undoable m.m_undoStart om.2 m.m_inputLength m.m_position m.m_start m.m_token m.m_value m.m_letters m.m_code m.m_place m.m_outputLength m.m_s m.m_parsed m.m_tried m.m_remembered m.m_slots m.m_kept m.m_away m.m_input m.m_halfway m.m_output) (c_X12_averageLife l hG D c9 am m.m_undoable m.m_undoStart m.m_thrown m.m_inputLength m.m_position m.m_start m.m_token m.m_value m.m_letters m.m_code m.m_place m.m_outputLength m.m_s m.m_parsed m.m_tried m.m_remembered m.m_slots m.m_kept m.m_away m.m_input m.m_halfway m.m_output  hm) 0 (gV wbd_362 wbd_363 wbd_364 wbd_7 wbd_365) rfl rfl rfl ⟨rfl, pd_X12_averageLife⟩ ⟨Nat.le_of_ble_eq_true rfl, Nat.le_of_ble_eq_true rfl⟩ 0 rfl rfl rfl rfl (Nat.le_of_ble_eq_true rfl) ⟨show nC + 0 + 0 ≤ 601024 by omega, show nS + 0 + 0 ≤ 7293034 by omega⟩ [0, 1, 2, 3, 4, 5, 6, 7, 8, 9, 10] [] [0, 1, 2, 3, 4, 5, 6, 7, 8, 9, 10] rfl rfl rfl rfl dL_law_2545 2548 rfl ?_
  refine v_toX ?_
  rw [← hv]
  refine v_dst X (lv' := [(7, .double ox), (5, .double ox), (0, .ref b), (1, .ref (ad 0)), (2, .ref (am 0)), (3, .ref ao), (4, .int (nlaw n))]) dL_law_2548 (by decide) rfl 2550 rfl ?_
  refine v_dld X dL_law_2550 1 rfl 2552 rfl ?_
  refine v_dld X dL_law_2552 0 rfl 2554 rfl ?_
  refine v_dcmp X dL_law_2554 2555 rfl ?_
  refine v_if_eq X (tgt := 2576) dL_law_2555 rfl 2558 rfl (a := some ()) (b := none) (o := ()) (if_pos hcm) (fun _ => ?_) (fun h => nomatch h)
  refine v_goto X (tgt := 3452) dL_law_2576 rfl ?_
  refine v_sub (lv' := [(0, .ref b), (1, .ref (ad 0)), (2, .ref (am 0)), (3, .ref ao), (4, .int (nlaw n))]) [2, 3, 4, 5, 6] rfl ?_
  exact v_widen (by omega) (by omega) (K _ _ asl apa _ hR1)
set_option maxRecDepth 100000 in
set_option maxHeartbeats 4000000 in
theorem w_49 (l : Launch) {G : (Nat → Prop) → State → Heap → Prop} (hG : vG G) (hl0 : l.stackTraces = false) (hNC : ∀ (A : Nat → Prop) (U : State) (H : Heap), G A U H → ∀ q ∈ ncL, va_Nc q.1 q.2 U) (D : va_G) (c9 : Nat → ClassId) (sk sv : Nat → Nat) (hGU : ∀ (A : Nat → Prop) (U : State) (H : Heap), G A U H → vU sk sv A U H) (ad am : Nat → Nat) (ao b L : Nat) (xs : Nat → Int32) {p : Program} {e : Env} {s : State} {mm : MethodId} {args : Array Value} {below : List Frame} {meth : Method} {c : Code} {A : Nat → Prop} {Q : State → Prop} (X : vX p s mm args meth c cL_law 9 (some .boolean) RL (Cond.tt :: Wg) D (tyA c9) G A) (hX : va_X b L xs s s.heap) (hbl : b < s.heap.size) (hbA : ¬ A b) (REL : FX → FM → Prop) (hk : H49 REL) (n : Nat) (hn : n + 6 ≤ L) (hL : L ≤ 3072) (x : FX) (m : FM) (hR : REL x m) (asl apa : Nat → Nat → Nat) (fo : Nat → Int64) (nC nS : Nat) (hC : nC + 14 ≤ 601024) (hS : nS + 481 ≤ 7293034) (K : ∀ (x' : FX) (m' : FM) (asl' apa' : Nat → Nat → Nat) (fo' : Nat → Int64), REL x' m' → vW p l e room_1 s mm args below meth c 9 D A (wLF c9 x'.sl asl' x'.pa apa' ao fo' (wMf am c9 m')) (nC + 14) (nS + 481) Q (wXf ad c9 x' asl' apa') 3452 [(0, .ref b), (1, .ref (ad 0)), (2, .ref (am 0)), (3, .ref ao), (4, .int (nlaw n))] []) : vW p l e room_1 s mm args below meth c 9 D A (wLF c9 x.sl asl x.pa apa ao fo (wMf am c9 m)) nC nS Q (wXf ad c9 x asl apa) 2579 [(0, .ref b), (1, .ref (ad 0)), (2, .ref (am 0)), (3, .ref ao), (4, .int (nlaw n))] [] := by
  by_cases hq : (xs (nlaw n + 3).toNatClampNeg) = 0
  · obtain ⟨ox, om, hx, hex, hm, ht, hv, hR1⟩ := hk x m hR (xs (nlaw n + 1).toNatClampNeg) (xs (nlaw n + 2).toNatClampNeg) 0 (Or.inl rfl)
    refine v_aload_n X dL_law_2579 1 rfl rfl 2580 rfl ?_
    refine v_aload_n X dL_law_2580 0 rfl rfl 2581 rfl ?_
    refine v_iload X dL_law_2581 4 rfl 2583 rfl ?_
    refine v_iconst X dL_law_2583 ic_1 2584 rfl ?_
    refine v_iadd X dL_law_2584 2585 rfl ?_
    refine v_sld X hX hbl hbA (sc_in hn hL 1 (by decide)) dL_law_2585 2586 rfl ?_
    refine v_aload_n X dL_law_2586 0 rfl rfl 2587 rfl ?_
    refine v_iload X dL_law_2587 4 rfl 2589 rfl ?_
    refine v_iconst X dL_law_2589 ic_2 2590 rfl ?_
    refine v_iadd X dL_law_2590 2591 rfl ?_
    refine v_sld X hX hbl hbA (sc_in hn hL 2 (by decide)) dL_law_2591 2592 rfl ?_
    refine v_aload_n X dL_law_2592 0 rfl rfl 2593 rfl ?_
    refine v_iload X dL_law_2593 4 rfl 2595 rfl ?_
    refine v_iconst X dL_law_2595 ic_3 2596 rfl ?_
    refine v_iadd X dL_law_2596 2597 rfl ?_
    refine v_sld X hX hbl hbA (sc_in hn hL 3 (by decide)) dL_law_2597 2598 rfl ?_
    refine v_if_eq X (tgt := 2605) dL_law_2598 rfl 2601 rfl (a := some ()) (b := none) (o := ()) (if_pos hq) (fun _ => ?_) (fun h => nomatch h)
    refine v_iconst X dL_law_2605 ic_0 2606 rfl ?_
    refine v_aload_n X dL_law_2606 3 rfl rfl 2607 rfl ?_
    refine v_hcallS X (S := Nat → Nat → Nat) (As := [.ref (ad 0), .int (xs (nlaw n + 1).toNatClampNeg), .int (xs (nlaw n + 2).toNatClampNeg), .int 0, .ref ao]) (rest := []) (ws' := fun u => wX11 ad c9 ox.2.2.1 ox.2.2.2.1 x.i_count x.i_cells x.o_count x.o_cells x.p_start x.p_end x.p_kind x.p_value x.p_error x.p_errorAt x.p_d_time x.p_d_tolerance x.p_d_seed x.p_d_madeTickets x.p_d_cheesesOfText x.p_d_R_rows x.p_d_R_cells x.p_d_U_rows x.p_d_U_cells x.p_d_S_rows x.p_d_S_cells x.p_d_T_rows x.p_d_T_cells x.p_d_E_rows x.p_d_E_cells x.s_time x.s_tolerance ox.2.2.2.2.1 ox.2.2.2.2.2.1 x.s_cheesesOfText x.s_R_rows x.s_R_cells x.s_U_rows x.s_U_cells x.s_S_rows x.s_S_cells ox.2.2.2.2.2.2.1 ox.2.2.2.2.2.2.2.1 x.s_E_rows x.s_E_cells x.sl asl ox.2.2.2.2.2.2.2.2 u) (F' := fun u => wLF c9 x.sl asl ox.2.2.2.2.2.2.2.2 u ao (hout ox.1 fo ox.2.1.toInt64) (wMf am c9 m)) (c_L_login l hG hl0 hNC D c9 sk sv hGU ad x.nextPast x.pastCount x.i_count x.i_cells x.o_count x.o_cells x.p_start x.p_end x.p_kind x.p_value x.p_error x.p_errorAt x.p_d_time x.p_d_tolerance x.p_d_seed x.p_d_madeTickets x.p_d_cheesesOfText x.p_d_R_rows x.p_d_R_cells x.p_d_U_rows x.p_d_U_cells x.p_d_S_rows x.p_d_S_cells x.p_d_T_rows x.p_d_T_cells x.p_d_E_rows x.p_d_E_cells x.s_time x.s_tolerance x.s_seed x.s_madeTickets x.s_cheesesOfText x.s_R_rows x.s_R_cells x.s_U_rows x.s_U_cells x.s_S_rows x.s_S_cells x.s_T_rows x.s_T_cells x.s_E_rows x.s_E_cells x.sl asl x.pa apa ao fo (xs (nlaw n + 1).toNatClampNeg) (xs (nlaw n + 2).toNatClampNeg) 0 hx hex) 5 (gS wbd_366 wbd_367 wbd_2 wbd_368) rfl rfl rfl pd_L_login ⟨Nat.le_of_ble_eq_true rfl, Nat.le_of_ble_eq_true rfl⟩ rfl rfl (Nat.le_of_ble_eq_true rfl) ⟨show nC + 14 ≤ 601024 by omega, show nS + 481 ≤ 7293034 by omega⟩ (fun _ => rfl) dL_law_2607 2610 rfl (fun u _ => ?_)
    refine v_istore X (lv' := [(5, .int (hcd [1, 2, 3] ox.1)), (0, .ref b), (1, .ref (ad 0)), (2, .ref (am 0)), (3, .ref ao), (4, .int (nlaw n))]) dL_law_2610 (by decide) rfl 2612 rfl ?_
    refine v_toM ?_
    refine v_aload_n X dL_law_2612 3 rfl rfl 2613 rfl ?_
    refine v_aload_n X dL_law_2613 1 rfl rfl 2614 rfl ?_
    refine v_iload X dL_law_2614 5 rfl 2616 rfl ?_
    refine v_iconst X dL_law_2616 ic_1 2617 rfl ?_
    refine v_iadd X dL_law_2617 2618 rfl ?_
    refine v_sld X hX hbl hbA (sc_in hn hL 1 (by decide)) dL_law_2618 2619 rfl ?_
    refine v_aload_n X dL_law_2619 1 rfl rfl 2620 rfl ?_
    refine v_iload X dL_law_2620 5 rfl 2622 rfl ?_
    refine v_iconst X dL_law_2622 ic_2 2623 rfl ?_
    refine v_iadd X dL_law_2623 2624 rfl ?_
    refine v_sld X hX hbl hbA (sc_in hn hL 2 (by decide)) dL_law_2624 2625 rfl ?_
    refine v_aload_n X dL_law_2625 1 rfl rfl 2626 rfl ?_
    refine v_iload X dL_law_2626 5 rfl 2628 rfl ?_
    refine v_iconst X dL_law_2628 ic_3 2629 rfl ?_
    refine v_iadd X dL_law_2629 2630 rfl ?_
    refine v_sld X hX hbl hbA (sc_in hn hL 3 (by decide)) dL_law_2630 2631 rfl ?_
    refine v_if_eq X (tgt := 2638) dL_law_2631 rfl 2634 rfl (a := some ()) (b := none) (o := ()) (if_pos hq) (fun _ => ?_) (fun h => nomatch h)
    refine v_iconst X dL_law_2638 ic_0 2639 rfl ?_
    refine v_callVi X (C := RX12) (ci := 11) (T := TX12) (As := [.int (xs (nlaw n + 1).toNatClampNeg), .int (xs (nlaw n + 2).toNatClampNeg), .int 0]) (rest := []) (ws' := wX12 am c9 om.2.1 om.2.2.1 om.2.2.2.1 m.m_inputLength m.m_position m.m_start m.m_token m.m_value m.m_letters m.m_code m.m_place m.m_outputLength om.2.2.2.2.1 m.m_parsed m.m_tried om.2.2.2.2.2 m.m_slots m.m_kept m.m_away m.m_input m.m_halfway m.m_output) (c_X12_login l hG D c9 am m.m_undoable m.m_undoStart m.m_thrown m.m_inputLength m.m_position m.m_start m.m_token m.m_value m.m_letters m.m_code m.m_place m.m_outputLength m.m_s m.m_parsed m.m_tried m.m_remembered m.m_slots m.m_kept m.m_away m.m_input m.m_halfway m.m_output (xs (nlaw n + 1).toNatClampNeg) (xs (nlaw n + 2).toNatClampNeg) 0 hm) 3 (gV wbd_369 wbd_370 wbd_371 wbd_7 wbd_372) rfl rfl rfl ⟨rfl, pd_X12_login⟩ ⟨Nat.le_of_ble_eq_true rfl, Nat.le_of_ble_eq_true rfl⟩ 0 rfl rfl rfl rfl (Nat.le_of_ble_eq_true rfl) ⟨show nC + 14 + 0 ≤ 601024 by omega, show nS + 481 + 0 ≤ 7293034 by omega⟩ [0, 1, 2, 3, 4, 5, 6, 7, 8, 9, 10] [] [0, 1, 2, 3, 4, 5, 6, 7, 8, 9, 10] rfl rfl rfl rfl dL_law_2639 2642 rfl ?_
    refine v_istore X (lv' := [(6, .int om.1), (5, .int (hcd [1, 2, 3] ox.1)), (0, .ref b), (1, .ref (ad 0)), (2, .ref (am 0)), (3, .ref ao), (4, .int (nlaw n))]) dL_law_2642 (by decide) rfl 2644 rfl ?_
    refine v_aload_n X dL_law_2644 4 rfl rfl 2645 rfl ?_
    refine v_callVi X (C := RX12) (ci := 11) (T := TX12) (As := []) (rest := []) (ws' := wX12 am c9 om.2.1 om.2.2.1 om.2.2.2.1 m.m_inputLength m.m_position m.m_start m.m_token m.m_value m.m_letters m.m_code m.m_place m.m_outputLength om.2.2.2.2.1 m.m_parsed m.m_tried om.2.2.2.2.2 m.m_slots m.m_kept m.m_away m.m_input m.m_halfway m.m_output) (c_X12_thrown l hG D c9 am om.2.1 om.2.2.1 om.2.2.2.1 m.m_inputLength m.m_position m.m_start m.m_token m.m_value m.m_letters m.m_code m.m_place m.m_outputLength om.2.2.2.2.1 m.m_parsed m.m_tried om.2.2.2.2.2 m.m_slots m.m_kept m.m_away m.m_input m.m_halfway m.m_output  rfl) 0 (gV wbd_9 wbd_10 wbd_11 wbd_7 wbd_12) rfl rfl rfl ⟨rfl, pd_X12_thrown⟩ ⟨Nat.le_of_ble_eq_true rfl, Nat.le_of_ble_eq_true rfl⟩ 0 rfl rfl rfl rfl (Nat.le_of_ble_eq_true rfl) ⟨show nC + 14 + 0 ≤ 601024 by omega, show nS + 481 + 0 ≤ 7293034 by omega⟩ [0, 1, 2, 3, 4, 5, 6, 7, 8, 9, 10] [] [0, 1, 2, 3, 4, 5, 6, 7, 8, 9, 10] rfl rfl rfl rfl dL_law_2645 2648 rfl ?_
    refine v_iload X dL_law_2648 1 rfl 2650 rfl ?_
    refine v_icmp_eq X (tgt := 2655) dL_law_2650 rfl 2653 rfl (a := some ()) (b := none) (o := ()) (if_pos ht) (fun _ => ?_) (fun h => nomatch h)
    refine v_toX ?_
    refine v_iload X dL_law_2655 1 rfl 2657 rfl ?_
    by_cases h0 : ox.1 = 0
    · refine v_if_ne X (tgt := 2672) dL_law_2657 rfl 2660 rfl (a := none) (b := some ()) (o := ()) (if_pos (by rw [h0]; rfl)) (fun h => nomatch h) (fun _ => ?_)
      refine v_aload_n X dL_law_2660 5 rfl rfl 2661 rfl ?_
      refine v_iconst X dL_law_2661 ic_0 2662 rfl ?_
      refine v_outld X dL_law_2662 2663 rfl ?_
      refine v_iload X dL_law_2663 0 rfl 2665 rfl ?_
      refine v_i2l X dL_law_2665 2666 rfl ?_
      refine v_lcmp X dL_law_2666 2667 rfl ?_
      refine v_if_eq X (tgt := 2672) dL_law_2667 rfl 2670 rfl (a := some ()) (b := none) (o := ()) (if_pos (by rw [hout, if_pos h0, ← hv h0]; exact lg_cmp_self _)) (fun _ => ?_) (fun h => nomatch h)
      refine v_goto X (tgt := 3452) dL_law_2672 rfl ?_
      refine v_sub (lv' := [(0, .ref b), (1, .ref (ad 0)), (2, .ref (am 0)), (3, .ref ao), (4, .int (nlaw n))]) [2, 3, 4, 5, 6] rfl ?_
      exact v_widen (by omega) (by omega) (K _ _ asl u _ hR1)
    · refine v_if_ne X (tgt := 2672) dL_law_2657 rfl 2660 rfl (a := some ()) (b := none) (o := ()) (if_neg (hcd_ne h0 (by decide))) (fun _ => ?_) (fun h => nomatch h)
      refine v_goto X (tgt := 3452) dL_law_2672 rfl ?_
      refine v_sub (lv' := [(0, .ref b), (1, .ref (ad 0)), (2, .ref (am 0)), (3, .ref ao), (4, .int (nlaw n))]) [2, 3, 4, 5, 6] rfl ?_
      exact v_widen (by omega) (by omega) (K _ _ asl u _ hR1)
  · obtain ⟨ox, om, hx, hex, hm, ht, hv, hR1⟩ := hk x m hR (xs (nlaw n + 1).toNatClampNeg) (xs (nlaw n + 2).toNatClampNeg) 1 (Or.inr rfl)
    refine v_aload_n X dL_law_2579 1 rfl rfl 2580 rfl ?_
    refine v_aload_n X dL_law_2580 0 rfl rfl 2581 rfl ?_
    refine v_iload X dL_law_2581 4 rfl 2583 rfl ?_
    refine v_iconst X dL_law_2583 ic_1 2584 rfl ?_
    refine v_iadd X dL_law_2584 2585 rfl ?_
    refine v_sld X hX hbl hbA (sc_in hn hL 1 (by decide)) dL_law_2585 2586 rfl ?_
    refine v_aload_n X dL_law_2586 0 rfl rfl 2587 rfl ?_
    refine v_iload X dL_law_2587 4 rfl 2589 rfl ?_
    refine v_iconst X dL_law_2589 ic_2 2590 rfl ?_
    refine v_iadd X dL_law_2590 2591 rfl ?_
    refine v_sld X hX hbl hbA (sc_in hn hL 2 (by decide)) dL_law_2591 2592 rfl ?_
    refine v_aload_n X dL_law_2592 0 rfl rfl 2593 rfl ?_
    refine v_iload X dL_law_2593 4 rfl 2595 rfl ?_
    refine v_iconst X dL_law_2595 ic_3 2596 rfl ?_
    refine v_iadd X dL_law_2596 2597 rfl ?_
    refine v_sld X hX hbl hbA (sc_in hn hL 3 (by decide)) dL_law_2597 2598 rfl ?_
    refine v_if_eq X (tgt := 2605) dL_law_2598 rfl 2601 rfl (a := none) (b := some ()) (o := ()) (if_neg hq) (fun h => nomatch h) (fun _ => ?_)
    refine v_iconst X dL_law_2601 ic_1 2602 rfl ?_
    refine v_goto X (tgt := 2606) dL_law_2602 rfl ?_
    refine v_aload_n X dL_law_2606 3 rfl rfl 2607 rfl ?_
    refine v_hcallS X (S := Nat → Nat → Nat) (As := [.ref (ad 0), .int (xs (nlaw n + 1).toNatClampNeg), .int (xs (nlaw n + 2).toNatClampNeg), .int 1, .ref ao]) (rest := []) (ws' := fun u => wX11 ad c9 ox.2.2.1 ox.2.2.2.1 x.i_count x.i_cells x.o_count x.o_cells x.p_start x.p_end x.p_kind x.p_value x.p_error x.p_errorAt x.p_d_time x.p_d_tolerance x.p_d_seed x.p_d_madeTickets x.p_d_cheesesOfText x.p_d_R_rows x.p_d_R_cells x.p_d_U_rows x.p_d_U_cells x.p_d_S_rows x.p_d_S_cells x.p_d_T_rows x.p_d_T_cells x.p_d_E_rows x.p_d_E_cells x.s_time x.s_tolerance ox.2.2.2.2.1 ox.2.2.2.2.2.1 x.s_cheesesOfText x.s_R_rows x.s_R_cells x.s_U_rows x.s_U_cells x.s_S_rows x.s_S_cells ox.2.2.2.2.2.2.1 ox.2.2.2.2.2.2.2.1 x.s_E_rows x.s_E_cells x.sl asl ox.2.2.2.2.2.2.2.2 u) (F' := fun u => wLF c9 x.sl asl ox.2.2.2.2.2.2.2.2 u ao (hout ox.1 fo ox.2.1.toInt64) (wMf am c9 m)) (c_L_login l hG hl0 hNC D c9 sk sv hGU ad x.nextPast x.pastCount x.i_count x.i_cells x.o_count x.o_cells x.p_start x.p_end x.p_kind x.p_value x.p_error x.p_errorAt x.p_d_time x.p_d_tolerance x.p_d_seed x.p_d_madeTickets x.p_d_cheesesOfText x.p_d_R_rows x.p_d_R_cells x.p_d_U_rows x.p_d_U_cells x.p_d_S_rows x.p_d_S_cells x.p_d_T_rows x.p_d_T_cells x.p_d_E_rows x.p_d_E_cells x.s_time x.s_tolerance x.s_seed x.s_madeTickets x.s_cheesesOfText x.s_R_rows x.s_R_cells x.s_U_rows x.s_U_cells x.s_S_rows x.s_S_cells x.s_T_rows x.s_T_cells x.s_E_rows x.s_E_cells x.sl asl x.pa apa ao fo (xs (nlaw n + 1).toNatClampNeg) (xs (nlaw n + 2).toNatClampNeg) 1 hx hex) 5 (gS wbd_366 wbd_367 wbd_2 wbd_368) rfl rfl rfl pd_L_login ⟨Nat.le_of_ble_eq_true rfl, Nat.le_of_ble_eq_true rfl⟩ rfl rfl (Nat.le_of_ble_eq_true rfl) ⟨show nC + 14 ≤ 601024 by omega, show nS + 481 ≤ 7293034 by omega⟩ (fun _ => rfl) dL_law_2607 2610 rfl (fun u _ => ?_)
    refine v_istore X (lv' := [(5, .int (hcd [1, 2, 3] ox.1)), (0, .ref b), (1, .ref (ad 0)), (2, .ref (am 0)), (3, .ref ao), (4, .int (nlaw n))]) dL_law_2610 (by decide) rfl 2612 rfl ?_
    refine v_toM ?_
    refine v_aload_n X dL_law_2612 3 rfl rfl 2613 rfl ?_
    refine v_aload_n X dL_law_2613 1 rfl rfl 2614 rfl ?_
    refine v_iload X dL_law_2614 5 rfl 2616 rfl ?_
    refine v_iconst X dL_law_2616 ic_1 2617 rfl ?_
    refine v_iadd X dL_law_2617 2618 rfl ?_
    refine v_sld X hX hbl hbA (sc_in hn hL 1 (by decide)) dL_law_2618 2619 rfl ?_
    refine v_aload_n X dL_law_2619 1 rfl rfl 2620 rfl ?_
    refine v_iload X dL_law_2620 5 rfl 2622 rfl ?_
    refine v_iconst X dL_law_2622 ic_2 2623 rfl ?_
    refine v_iadd X dL_law_2623 2624 rfl ?_
    refine v_sld X hX hbl hbA (sc_in hn hL 2 (by decide)) dL_law_2624 2625 rfl ?_
    refine v_aload_n X dL_law_2625 1 rfl rfl 2626 rfl ?_
    refine v_iload X dL_law_2626 5 rfl 2628 rfl ?_
    refine v_iconst X dL_law_2628 ic_3 2629 rfl ?_
    refine v_iadd X dL_law_2629 2630 rfl ?_
    refine v_sld X hX hbl hbA (sc_in hn hL 3 (by decide)) dL_law_2630 2631 rfl ?_
    refine v_if_eq X (tgt := 2638) dL_law_2631 rfl 2634 rfl (a := none) (b := some ()) (o := ()) (if_neg hq) (fun h => nomatch h) (fun _ => ?_)
    refine v_iconst X dL_law_2634 ic_1 2635 rfl ?_
    refine v_goto X (tgt := 2639) dL_law_2635 rfl ?_
    refine v_callVi X (C := RX12) (ci := 11) (T := TX12) (As := [.int (xs (nlaw n + 1).toNatClampNeg), .int (xs (nlaw n + 2).toNatClampNeg), .int 1]) (rest := []) (ws' := wX12 am c9 om.2.1 om.2.2.1 om.2.2.2.1 m.m_inputLength m.m_position m.m_start m.m_token m.m_value m.m_letters m.m_code m.m_place m.m_outputLength om.2.2.2.2.1 m.m_parsed m.m_tried om.2.2.2.2.2 m.m_slots m.m_kept m.m_away m.m_input m.m_halfway m.m_output) (c_X12_login l hG D c9 am m.m_undoable m.m_undoStart m.m_thrown m.m_inputLength m.m_position m.m_start m.m_token m.m_value m.m_letters m.m_code m.m_place m.m_outputLength m.m_s m.m_parsed m.m_tried m.m_remembered m.m_slots m.m_kept m.m_away m.m_input m.m_halfway m.m_output (xs (nlaw n + 1).toNatClampNeg) (xs (nlaw n + 2).toNatClampNeg) 1 hm) 3 (gV wbd_369 wbd_370 wbd_371 wbd_7 wbd_372) rfl rfl rfl ⟨rfl, pd_X12_login⟩ ⟨Nat.le_of_ble_eq_true rfl, Nat.le_of_ble_eq_true rfl⟩ 0 rfl rfl rfl rfl (Nat.le_of_ble_eq_true rfl) ⟨show nC + 14 + 0 ≤ 601024 by omega, show nS + 481 + 0 ≤ 7293034 by omega⟩ [0, 1, 2, 3, 4, 5, 6, 7, 8, 9, 10] [] [0, 1, 2, 3, 4, 5, 6, 7, 8, 9, 10] rfl rfl rfl rfl dL_law_2639 2642 rfl ?_
    refine v_istore X (lv' := [(6, .int om.1), (5, .int (hcd [1, 2, 3] ox.1)), (0, .ref b), (1, .ref (ad 0)), (2, .ref (am 0)), (3, .ref ao), (4, .int (nlaw n))]) dL_law_2642 (by decide) rfl 2644 rfl ?_
    refine v_aload_n X dL_law_2644 4 rfl rfl 2645 rfl ?_
    refine v_callVi X (C := RX12) (ci := 11) (T := TX12) (As := []) (rest := []) (ws' := wX12 am c9 om.2.1 om.2.2.1 om.2.2.2.1 m.m_inputLength m.m_position m.m_start m.m_token m.m_value m.m_letters m.m_code m.m_place m.m_outputLength om.2.2.2.2.1 m.m_parsed m.m_tried om.2.2.2.2.2 m.m_slots m.m_kept m.m_away m.m_input m.m_halfway m.m_output) (c_X12_thrown l hG D c9 am om.2.1 om.2.2.1 om.2.2.2.1 m.m_inputLength m.m_position m.m_start m.m_token m.m_value m.m_letters m.m_code m.m_place m.m_outputLength om.2.2.2.2.1 m.m_parsed m.m_tried om.2.2.2.2.2 m.m_slots m.m_kept m.m_away m.m_input m.m_halfway m.m_output  rfl) 0 (gV wbd_9 wbd_10 wbd_11 wbd_7 wbd_12) rfl rfl rfl ⟨rfl, pd_X12_thrown⟩ ⟨Nat.le_of_ble_eq_true rfl, Nat.le_of_ble_eq_true rfl⟩ 0 rfl rfl rfl rfl (Nat.le_of_ble_eq_true rfl) ⟨show nC + 14 + 0 ≤ 601024 by omega, show nS + 481 + 0 ≤ 7293034 by omega⟩ [0, 1, 2, 3, 4, 5, 6, 7, 8, 9, 10] [] [0, 1, 2, 3, 4, 5, 6, 7, 8, 9, 10] rfl rfl rfl rfl dL_law_2645 2648 rfl ?_
    refine v_iload X dL_law_2648 1 rfl 2650 rfl ?_
    refine v_icmp_eq X (tgt := 2655) dL_law_2650 rfl 2653 rfl (a := some ()) (b := none) (o := ()) (if_pos ht) (fun _ => ?_) (fun h => nomatch h)
    refine v_toX ?_
    refine v_iload X dL_law_2655 1 rfl 2657 rfl ?_
    by_cases h0 : ox.1 = 0
    · refine v_if_ne X (tgt := 2672) dL_law_2657 rfl 2660 rfl (a := none) (b := some ()) (o := ()) (if_pos (by rw [h0]; rfl)) (fun h => nomatch h) (fun _ => ?_)
      refine v_aload_n X dL_law_2660 5 rfl rfl 2661 rfl ?_
      refine v_iconst X dL_law_2661 ic_0 2662 rfl ?_
      refine v_outld X dL_law_2662 2663 rfl ?_
      refine v_iload X dL_law_2663 0 rfl 2665 rfl ?_
      refine v_i2l X dL_law_2665 2666 rfl ?_
      refine v_lcmp X dL_law_2666 2667 rfl ?_
      refine v_if_eq X (tgt := 2672) dL_law_2667 rfl 2670 rfl (a := some ()) (b := none) (o := ()) (if_pos (by rw [hout, if_pos h0, ← hv h0]; exact lg_cmp_self _)) (fun _ => ?_) (fun h => nomatch h)
      refine v_goto X (tgt := 3452) dL_law_2672 rfl ?_
      refine v_sub (lv' := [(0, .ref b), (1, .ref (ad 0)), (2, .ref (am 0)), (3, .ref ao), (4, .int (nlaw n))]) [2, 3, 4, 5, 6] rfl ?_
      exact v_widen (by omega) (by omega) (K _ _ asl u _ hR1)
    · refine v_if_ne X (tgt := 2672) dL_law_2657 rfl 2660 rfl (a := some ()) (b := none) (o := ()) (if_neg (hcd_ne h0 (by decide))) (fun _ => ?_) (fun h => nomatch h)
      refine v_goto X (tgt := 3452) dL_law_2672 rfl ?_
      refine v_sub (lv' := [(0, .ref b), (1, .ref (ad 0)), (2, .ref (am 0)), (3, .ref ao), (4, .int (nlaw n))]) [2, 3, 4, 5, 6] rfl ?_
      exact v_widen (by omega) (by omega) (K _ _ asl u _ hR1)
set_option maxRecDepth 100000 in
set_option maxHeartbeats 4000000 in
theorem w_50 (l : Launch) {G : (Nat → Prop) → State → Heap → Prop} (hG : vG G) (hl0 : l.stackTraces = false) (hNC : ∀ (A : Nat → Prop) (U : State) (H : Heap), G A U H → ∀ q ∈ ncL, va_Nc q.1 q.2 U) (D : va_G) (c9 : Nat → ClassId) (sk sv : Nat → Nat) (hGU : ∀ (A : Nat → Prop) (U : State) (H : Heap), G A U H → vU sk sv A U H) (ad am : Nat → Nat) (ao b L : Nat) (xs : Nat → Int32) {p : Program} {e : Env} {s : State} {mm : MethodId} {args : Array Value} {below : List Frame} {meth : Method} {c : Code} {A : Nat → Prop} {Q : State → Prop} (X : vX p s mm args meth c cL_law 9 (some .boolean) RL (Cond.tt :: Wg) D (tyA c9) G A) (hX : va_X b L xs s s.heap) (hbl : b < s.heap.size) (hbA : ¬ A b) (REL : FX → FM → Prop) (hk : H50 REL) (n : Nat) (hn : n + 6 ≤ L) (hL : L ≤ 3072) (x : FX) (m : FM) (hR : REL x m) (asl apa : Nat → Nat → Nat) (fo : Nat → Int64) (nC nS : Nat) (hC : nC + 14 ≤ 601024) (hS : nS + 481 ≤ 7293034) (K : ∀ (x' : FX) (m' : FM) (asl' apa' : Nat → Nat → Nat) (fo' : Nat → Int64), REL x' m' → vW p l e room_1 s mm args below meth c 9 D A (wLF c9 x'.sl asl' x'.pa apa' ao fo' (wMf am c9 m')) (nC + 14) (nS + 481) Q (wXf ad c9 x' asl' apa') 3452 [(0, .ref b), (1, .ref (ad 0)), (2, .ref (am 0)), (3, .ref ao), (4, .int (nlaw n))] []) : vW p l e room_1 s mm args below meth c 9 D A (wLF c9 x.sl asl x.pa apa ao fo (wMf am c9 m)) nC nS Q (wXf ad c9 x asl apa) 2675 [(0, .ref b), (1, .ref (ad 0)), (2, .ref (am 0)), (3, .ref ao), (4, .int (nlaw n))] [] := by
  obtain ⟨ox, om, hx, hex, hm, ht, hv, hR1⟩ := hk x m hR (xs (nlaw n + 1).toNatClampNeg) (xs (nlaw n + 2).toNatClampNeg)
  refine v_aload_n X dL_law_2675 1 rfl rfl 2676 rfl ?_
  refine v_aload_n X dL_law_2676 0 rfl rfl 2677 rfl ?_
  refine v_iload X dL_law_2677 4 rfl 2679 rfl ?_
  refine v_iconst X dL_law_2679 ic_1 2680 rfl ?_
  refine v_iadd X dL_law_2680 2681 rfl ?_
  refine v_sld X hX hbl hbA (sc_in hn hL 1 (by decide)) dL_law_2681 2682 rfl ?_
  refine v_aload_n X dL_law_2682 0 rfl rfl 2683 rfl ?_
  refine v_iload X dL_law_2683 4 rfl 2685 rfl ?_
  refine v_iconst X dL_law_2685 ic_2 2686 rfl ?_
  refine v_iadd X dL_law_2686 2687 rfl ?_
  refine v_sld X hX hbl hbA (sc_in hn hL 2 (by decide)) dL_law_2687 2688 rfl ?_
  refine v_aload_n X dL_law_2688 3 rfl rfl 2689 rfl ?_
  refine v_hcallS X (S := Nat → Nat → Nat) (As := [.ref (ad 0), .int (xs (nlaw n + 1).toNatClampNeg), .int (xs (nlaw n + 2).toNatClampNeg), .ref ao]) (rest := []) (ws' := fun u => wX11 ad c9 ox.2.2.1 ox.2.2.2.1 x.i_count x.i_cells x.o_count x.o_cells x.p_start x.p_end x.p_kind x.p_value x.p_error x.p_errorAt x.p_d_time x.p_d_tolerance x.p_d_seed x.p_d_madeTickets x.p_d_cheesesOfText x.p_d_R_rows x.p_d_R_cells x.p_d_U_rows x.p_d_U_cells x.p_d_S_rows x.p_d_S_cells x.p_d_T_rows x.p_d_T_cells x.p_d_E_rows x.p_d_E_cells x.s_time x.s_tolerance ox.2.2.2.2.1 ox.2.2.2.2.2.1 x.s_cheesesOfText x.s_R_rows x.s_R_cells x.s_U_rows x.s_U_cells x.s_S_rows x.s_S_cells ox.2.2.2.2.2.2.1 ox.2.2.2.2.2.2.2.1 x.s_E_rows x.s_E_cells x.sl asl ox.2.2.2.2.2.2.2.2 u) (F' := fun u => wLF c9 x.sl asl ox.2.2.2.2.2.2.2.2 u ao (hout ox.1 fo ox.2.1.toInt64) (wMf am c9 m)) (c_L_refer l hG hl0 hNC D c9 sk sv hGU ad x.nextPast x.pastCount x.i_count x.i_cells x.o_count x.o_cells x.p_start x.p_end x.p_kind x.p_value x.p_error x.p_errorAt x.p_d_time x.p_d_tolerance x.p_d_seed x.p_d_madeTickets x.p_d_cheesesOfText x.p_d_R_rows x.p_d_R_cells x.p_d_U_rows x.p_d_U_cells x.p_d_S_rows x.p_d_S_cells x.p_d_T_rows x.p_d_T_cells x.p_d_E_rows x.p_d_E_cells x.s_time x.s_tolerance x.s_seed x.s_madeTickets x.s_cheesesOfText x.s_R_rows x.s_R_cells x.s_U_rows x.s_U_cells x.s_S_rows x.s_S_cells x.s_T_rows x.s_T_cells x.s_E_rows x.s_E_cells x.sl asl x.pa apa ao fo (xs (nlaw n + 1).toNatClampNeg) (xs (nlaw n + 2).toNatClampNeg) hx hex) 4 (gS wbd_373 wbd_374 wbd_2 wbd_375) rfl rfl rfl pd_L_refer ⟨Nat.le_of_ble_eq_true rfl, Nat.le_of_ble_eq_true rfl⟩ rfl rfl (Nat.le_of_ble_eq_true rfl) ⟨show nC + 14 ≤ 601024 by omega, show nS + 481 ≤ 7293034 by omega⟩ (fun _ => rfl) dL_law_2689 2692 rfl (fun u _ => ?_)
  refine v_istore X (lv' := [(5, .int (hcd [4, 1, 3] ox.1)), (0, .ref b), (1, .ref (ad 0)), (2, .ref (am 0)), (3, .ref ao), (4, .int (nlaw n))]) dL_law_2692 (by decide) rfl 2694 rfl ?_
  refine v_toM ?_
  refine v_aload_n X dL_law_2694 3 rfl rfl 2695 rfl ?_
  refine v_aload_n X dL_law_2695 1 rfl rfl 2696 rfl ?_
  refine v_iload X dL_law_2696 5 rfl 2698 rfl ?_
  refine v_iconst X dL_law_2698 ic_1 2699 rfl ?_
  refine v_iadd X dL_law_2699 2700 rfl ?_
  refine v_sld X hX hbl hbA (sc_in hn hL 1 (by decide)) dL_law_2700 2701 rfl ?_
  refine v_aload_n X dL_law_2701 1 rfl rfl 2702 rfl ?_
  refine v_iload X dL_law_2702 5 rfl 2704 rfl ?_
  refine v_iconst X dL_law_2704 ic_2 2705 rfl ?_
  refine v_iadd X dL_law_2705 2706 rfl ?_
  refine v_sld X hX hbl hbA (sc_in hn hL 2 (by decide)) dL_law_2706 2707 rfl ?_
  refine v_callVi X (C := RX12) (ci := 11) (T := TX12) (As := [.int (xs (nlaw n + 1).toNatClampNeg), .int (xs (nlaw n + 2).toNatClampNeg)]) (rest := []) (ws' := wX12 am c9 om.2.1 om.2.2.1 om.2.2.2.1 m.m_inputLength m.m_position m.m_start m.m_token m.m_value m.m_letters m.m_code m.m_place m.m_outputLength om.2.2.2.2.1 m.m_parsed m.m_tried om.2.2.2.2.2 m.m_slots m.m_kept m.m_away m.m_input m.m_halfway m.m_output) (c_X12_refer l hG D c9 am m.m_undoable m.m_undoStart m.m_thrown m.m_inputLength m.m_position m.m_start m.m_token m.m_value m.m_letters m.m_code m.m_place m.m_outputLength m.m_s m.m_parsed m.m_tried m.m_remembered m.m_slots m.m_kept m.m_away m.m_input m.m_halfway m.m_output (xs (nlaw n + 1).toNatClampNeg) (xs (nlaw n + 2).toNatClampNeg) hm) 2 (gV wbd_376 wbd_377 wbd_378 wbd_7 wbd_379) rfl rfl rfl ⟨rfl, pd_X12_refer⟩ ⟨Nat.le_of_ble_eq_true rfl, Nat.le_of_ble_eq_true rfl⟩ 0 rfl rfl rfl rfl (Nat.le_of_ble_eq_true rfl) ⟨show nC + 14 + 0 ≤ 601024 by omega, show nS + 481 + 0 ≤ 7293034 by omega⟩ [0, 1, 2, 3, 4, 5, 6, 7, 8, 9, 10] [] [0, 1, 2, 3, 4, 5, 6, 7, 8, 9, 10] rfl rfl rfl rfl dL_law_2707 2710 rfl ?_
  refine v_istore X (lv' := [(6, .int om.1), (5, .int (hcd [4, 1, 3] ox.1)), (0, .ref b), (1, .ref (ad 0)), (2, .ref (am 0)), (3, .ref ao), (4, .int (nlaw n))]) dL_law_2710 (by decide) rfl 2712 rfl ?_
  refine v_aload_n X dL_law_2712 4 rfl rfl 2713 rfl ?_
  refine v_callVi X (C := RX12) (ci := 11) (T := TX12) (As := []) (rest := []) (ws' := wX12 am c9 om.2.1 om.2.2.1 om.2.2.2.1 m.m_inputLength m.m_position m.m_start m.m_token m.m_value m.m_letters m.m_code m.m_place m.m_outputLength om.2.2.2.2.1 m.m_parsed m.m_tried om.2.2.2.2.2 m.m_slots m.m_kept m.m_away m.m_input m.m_halfway m.m_output) (c_X12_thrown l hG D c9 am om.2.1 om.2.2.1 om.2.2.2.1 m.m_inputLength m.m_position m.m_start m.m_token m.m_value m.m_letters m.m_code m.m_place m.m_outputLength om.2.2.2.2.1 m.m_parsed m.m_tried om.2.2.2.2.2 m.m_slots m.m_kept m.m_away m.m_input m.m_halfway m.m_output  rfl) 0 (gV wbd_9 wbd_10 wbd_11 wbd_7 wbd_12) rfl rfl rfl ⟨rfl, pd_X12_thrown⟩ ⟨Nat.le_of_ble_eq_true rfl, Nat.le_of_ble_eq_true rfl⟩ 0 rfl rfl rfl rfl (Nat.le_of_ble_eq_true rfl) ⟨show nC + 14 + 0 ≤ 601024 by omega, show nS + 481 + 0 ≤ 7293034 by omega⟩ [0, 1, 2, 3, 4, 5, 6, 7, 8, 9, 10] [] [0, 1, 2, 3, 4, 5, 6, 7, 8, 9, 10] rfl rfl rfl rfl dL_law_2713 2716 rfl ?_
  refine v_iload X dL_law_2716 1 rfl 2718 rfl ?_
  refine v_icmp_eq X (tgt := 2723) dL_law_2718 rfl 2721 rfl (a := some ()) (b := none) (o := ()) (if_pos ht) (fun _ => ?_) (fun h => nomatch h)
  refine v_toX ?_
  refine v_iload X dL_law_2723 1 rfl 2725 rfl ?_
  by_cases h0 : ox.1 = 0
  · refine v_if_ne X (tgt := 2740) dL_law_2725 rfl 2728 rfl (a := none) (b := some ()) (o := ()) (if_pos (by rw [h0]; rfl)) (fun h => nomatch h) (fun _ => ?_)
    refine v_aload_n X dL_law_2728 5 rfl rfl 2729 rfl ?_
    refine v_iconst X dL_law_2729 ic_0 2730 rfl ?_
    refine v_outld X dL_law_2730 2731 rfl ?_
    refine v_iload X dL_law_2731 0 rfl 2733 rfl ?_
    refine v_i2l X dL_law_2733 2734 rfl ?_
    refine v_lcmp X dL_law_2734 2735 rfl ?_
    refine v_if_eq X (tgt := 2740) dL_law_2735 rfl 2738 rfl (a := some ()) (b := none) (o := ()) (if_pos (by rw [hout, if_pos h0, ← hv h0]; exact lg_cmp_self _)) (fun _ => ?_) (fun h => nomatch h)
    refine v_goto X (tgt := 3452) dL_law_2740 rfl ?_
    refine v_sub (lv' := [(0, .ref b), (1, .ref (ad 0)), (2, .ref (am 0)), (3, .ref ao), (4, .int (nlaw n))]) [2, 3, 4, 5, 6] rfl ?_
    exact v_widen (by omega) (by omega) (K _ _ asl u _ hR1)
  · refine v_if_ne X (tgt := 2740) dL_law_2725 rfl 2728 rfl (a := some ()) (b := none) (o := ()) (if_neg (hcd_ne h0 (by decide))) (fun _ => ?_) (fun h => nomatch h)
    refine v_goto X (tgt := 3452) dL_law_2740 rfl ?_
    refine v_sub (lv' := [(0, .ref b), (1, .ref (ad 0)), (2, .ref (am 0)), (3, .ref ao), (4, .int (nlaw n))]) [2, 3, 4, 5, 6] rfl ?_
    exact v_widen (by omega) (by omega) (K _ _ asl u _ hR1)
set_option maxRecDepth 100000 in
set_option maxHeartbeats 4000000 in
theorem w_51 (l : Launch) {G : (Nat → Prop) → State → Heap → Prop} (hG : vG G) (hl0 : l.stackTraces = false) (hNC : ∀ (A : Nat → Prop) (U : State) (H : Heap), G A U H → ∀ q ∈ ncL, va_Nc q.1 q.2 U) (D : va_G) (c9 : Nat → ClassId) (sk sv : Nat → Nat) (hGU : ∀ (A : Nat → Prop) (U : State) (H : Heap), G A U H → vU sk sv A U H) (ad am : Nat → Nat) (ao b L : Nat) (xs : Nat → Int32) {p : Program} {e : Env} {s : State} {mm : MethodId} {args : Array Value} {below : List Frame} {meth : Method} {c : Code} {A : Nat → Prop} {Q : State → Prop} (X : vX p s mm args meth c cL_law 9 (some .boolean) RL (Cond.tt :: Wg) D (tyA c9) G A) (hX : va_X b L xs s s.heap) (hbl : b < s.heap.size) (hbA : ¬ A b) (REL : FX → FM → Prop) (hk : H51 REL) (n : Nat) (hn : n + 6 ≤ L) (hL : L ≤ 3072) (x : FX) (m : FM) (hR : REL x m) (asl apa : Nat → Nat → Nat) (fo : Nat → Int64) (nC nS : Nat) (hC : nC + 14 ≤ 601024) (hS : nS + 481 ≤ 7293034) (K : ∀ (x' : FX) (m' : FM) (asl' apa' : Nat → Nat → Nat) (fo' : Nat → Int64), REL x' m' → vW p l e room_1 s mm args below meth c 9 D A (wLF c9 x'.sl asl' x'.pa apa' ao fo' (wMf am c9 m')) (nC + 14) (nS + 481) Q (wXf ad c9 x' asl' apa') 3452 [(0, .ref b), (1, .ref (ad 0)), (2, .ref (am 0)), (3, .ref ao), (4, .int (nlaw n))] []) : vW p l e room_1 s mm args below meth c 9 D A (wLF c9 x.sl asl x.pa apa ao fo (wMf am c9 m)) nC nS Q (wXf ad c9 x asl apa) 2743 [(0, .ref b), (1, .ref (ad 0)), (2, .ref (am 0)), (3, .ref ao), (4, .int (nlaw n))] [] := by
  obtain ⟨ox, om, hx, hex, hm, ht, hv, hR1⟩ := hk x m hR (xs (nlaw n + 1).toNatClampNeg) (xs (nlaw n + 2).toNatClampNeg)
  refine v_aload_n X dL_law_2743 1 rfl rfl 2744 rfl ?_
  refine v_aload_n X dL_law_2744 0 rfl rfl 2745 rfl ?_
  refine v_iload X dL_law_2745 4 rfl 2747 rfl ?_
  refine v_iconst X dL_law_2747 ic_1 2748 rfl ?_
  refine v_iadd X dL_law_2748 2749 rfl ?_
  refine v_sld X hX hbl hbA (sc_in hn hL 1 (by decide)) dL_law_2749 2750 rfl ?_
  refine v_aload_n X dL_law_2750 0 rfl rfl 2751 rfl ?_
  refine v_iload X dL_law_2751 4 rfl 2753 rfl ?_
  refine v_iconst X dL_law_2753 ic_2 2754 rfl ?_
  refine v_iadd X dL_law_2754 2755 rfl ?_
  refine v_sld X hX hbl hbA (sc_in hn hL 2 (by decide)) dL_law_2755 2756 rfl ?_
  refine v_aload_n X dL_law_2756 3 rfl rfl 2757 rfl ?_
  refine v_hcallS X (S := Nat → Nat → Nat) (As := [.ref (ad 0), .int (xs (nlaw n + 1).toNatClampNeg), .int (xs (nlaw n + 2).toNatClampNeg), .ref ao]) (rest := []) (ws' := fun u => wX11 ad c9 ox.2.2.1 ox.2.2.2.1 x.i_count x.i_cells x.o_count x.o_cells x.p_start x.p_end x.p_kind x.p_value x.p_error x.p_errorAt x.p_d_time x.p_d_tolerance x.p_d_seed x.p_d_madeTickets x.p_d_cheesesOfText x.p_d_R_rows x.p_d_R_cells x.p_d_U_rows x.p_d_U_cells x.p_d_S_rows x.p_d_S_cells x.p_d_T_rows x.p_d_T_cells x.p_d_E_rows x.p_d_E_cells x.s_time x.s_tolerance ox.2.2.2.2.1 ox.2.2.2.2.2.1 x.s_cheesesOfText x.s_R_rows x.s_R_cells x.s_U_rows x.s_U_cells x.s_S_rows x.s_S_cells ox.2.2.2.2.2.2.1 ox.2.2.2.2.2.2.2.1 x.s_E_rows x.s_E_cells x.sl asl ox.2.2.2.2.2.2.2.2 u) (F' := fun u => wLF c9 x.sl asl ox.2.2.2.2.2.2.2.2 u ao (hout ox.1 fo ox.2.1.toInt64) (wMf am c9 m)) (c_L_request l hG hl0 hNC D c9 sk sv hGU ad x.nextPast x.pastCount x.i_count x.i_cells x.o_count x.o_cells x.p_start x.p_end x.p_kind x.p_value x.p_error x.p_errorAt x.p_d_time x.p_d_tolerance x.p_d_seed x.p_d_madeTickets x.p_d_cheesesOfText x.p_d_R_rows x.p_d_R_cells x.p_d_U_rows x.p_d_U_cells x.p_d_S_rows x.p_d_S_cells x.p_d_T_rows x.p_d_T_cells x.p_d_E_rows x.p_d_E_cells x.s_time x.s_tolerance x.s_seed x.s_madeTickets x.s_cheesesOfText x.s_R_rows x.s_R_cells x.s_U_rows x.s_U_cells x.s_S_rows x.s_S_cells x.s_T_rows x.s_T_cells x.s_E_rows x.s_E_cells x.sl asl x.pa apa ao fo (xs (nlaw n + 1).toNatClampNeg) (xs (nlaw n + 2).toNatClampNeg) hx hex) 4 (gS wbd_380 wbd_381 wbd_2 wbd_382) rfl rfl rfl pd_L_request ⟨Nat.le_of_ble_eq_true rfl, Nat.le_of_ble_eq_true rfl⟩ rfl rfl (Nat.le_of_ble_eq_true rfl) ⟨show nC + 14 ≤ 601024 by omega, show nS + 481 ≤ 7293034 by omega⟩ (fun _ => rfl) dL_law_2757 2760 rfl (fun u _ => ?_)
  refine v_istore X (lv' := [(5, .int (hcd [4, 1, 3] ox.1)), (0, .ref b), (1, .ref (ad 0)), (2, .ref (am 0)), (3, .ref ao), (4, .int (nlaw n))]) dL_law_2760 (by decide) rfl 2762 rfl ?_
  refine v_toM ?_
  refine v_aload_n X dL_law_2762 3 rfl rfl 2763 rfl ?_
  refine v_aload_n X dL_law_2763 1 rfl rfl 2764 rfl ?_
  refine v_iload X dL_law_2764 5 rfl 2766 rfl ?_
  refine v_iconst X dL_law_2766 ic_1 2767 rfl ?_
  refine v_iadd X dL_law_2767 2768 rfl ?_
  refine v_sld X hX hbl hbA (sc_in hn hL 1 (by decide)) dL_law_2768 2769 rfl ?_
  refine v_aload_n X dL_law_2769 1 rfl rfl 2770 rfl ?_
  refine v_iload X dL_law_2770 5 rfl 2772 rfl ?_
  refine v_iconst X dL_law_2772 ic_2 2773 rfl ?_
  refine v_iadd X dL_law_2773 2774 rfl ?_
  refine v_sld X hX hbl hbA (sc_in hn hL 2 (by decide)) dL_law_2774 2775 rfl ?_
  refine v_callVi X (C := RX12) (ci := 11) (T := TX12) (As := [.int (xs (nlaw n + 1).toNatClampNeg), .int (xs (nlaw n + 2).toNatClampNeg)]) (rest := []) (ws' := wX12 am c9 om.2.1 om.2.2.1 om.2.2.2.1 m.m_inputLength m.m_position m.m_start m.m_token m.m_value m.m_letters m.m_code m.m_place m.m_outputLength om.2.2.2.2.1 m.m_parsed m.m_tried om.2.2.2.2.2 m.m_slots m.m_kept m.m_away m.m_input m.m_halfway m.m_output) (c_X12_request l hG D c9 am m.m_undoable m.m_undoStart m.m_thrown m.m_inputLength m.m_position m.m_start m.m_token m.m_value m.m_letters m.m_code m.m_place m.m_outputLength m.m_s m.m_parsed m.m_tried m.m_remembered m.m_slots m.m_kept m.m_away m.m_input m.m_halfway m.m_output (xs (nlaw n + 1).toNatClampNeg) (xs (nlaw n + 2).toNatClampNeg) hm) 2 (gV wbd_383 wbd_384 wbd_385 wbd_7 wbd_386) rfl rfl rfl ⟨rfl, pd_X12_request⟩ ⟨Nat.le_of_ble_eq_true rfl, Nat.le_of_ble_eq_true rfl⟩ 0 rfl rfl rfl rfl (Nat.le_of_ble_eq_true rfl) ⟨show nC + 14 + 0 ≤ 601024 by omega, show nS + 481 + 0 ≤ 7293034 by omega⟩ [0, 1, 2, 3, 4, 5, 6, 7, 8, 9, 10] [] [0, 1, 2, 3, 4, 5, 6, 7, 8, 9, 10] rfl rfl rfl rfl dL_law_2775 2778 rfl ?_
  refine v_istore X (lv' := [(6, .int om.1), (5, .int (hcd [4, 1, 3] ox.1)), (0, .ref b), (1, .ref (ad 0)), (2, .ref (am 0)), (3, .ref ao), (4, .int (nlaw n))]) dL_law_2778 (by decide) rfl 2780 rfl ?_
  refine v_aload_n X dL_law_2780 4 rfl rfl 2781 rfl ?_
  refine v_callVi X (C := RX12) (ci := 11) (T := TX12) (As := []) (rest := []) (ws' := wX12 am c9 om.2.1 om.2.2.1 om.2.2.2.1 m.m_inputLength m.m_position m.m_start m.m_token m.m_value m.m_letters m.m_code m.m_place m.m_outputLength om.2.2.2.2.1 m.m_parsed m.m_tried om.2.2.2.2.2 m.m_slots m.m_kept m.m_away m.m_input m.m_halfway m.m_output) (c_X12_thrown l hG D c9 am om.2.1 om.2.2.1 om.2.2.2.1 m.m_inputLength m.m_position m.m_start m.m_token m.m_value m.m_letters m.m_code m.m_place m.m_outputLength om.2.2.2.2.1 m.m_parsed m.m_tried om.2.2.2.2.2 m.m_slots m.m_kept m.m_away m.m_input m.m_halfway m.m_output  rfl) 0 (gV wbd_9 wbd_10 wbd_11 wbd_7 wbd_12) rfl rfl rfl ⟨rfl, pd_X12_thrown⟩ ⟨Nat.le_of_ble_eq_true rfl, Nat.le_of_ble_eq_true rfl⟩ 0 rfl rfl rfl rfl (Nat.le_of_ble_eq_true rfl) ⟨show nC + 14 + 0 ≤ 601024 by omega, show nS + 481 + 0 ≤ 7293034 by omega⟩ [0, 1, 2, 3, 4, 5, 6, 7, 8, 9, 10] [] [0, 1, 2, 3, 4, 5, 6, 7, 8, 9, 10] rfl rfl rfl rfl dL_law_2781 2784 rfl ?_
  refine v_iload X dL_law_2784 1 rfl 2786 rfl ?_
  refine v_icmp_eq X (tgt := 2791) dL_law_2786 rfl 2789 rfl (a := some ()) (b := none) (o := ()) (if_pos ht) (fun _ => ?_) (fun h => nomatch h)
  refine v_toX ?_
  refine v_iload X dL_law_2791 1 rfl 2793 rfl ?_
  by_cases h0 : ox.1 = 0
  · refine v_if_ne X (tgt := 2808) dL_law_2793 rfl 2796 rfl (a := none) (b := some ()) (o := ()) (if_pos (by rw [h0]; rfl)) (fun h => nomatch h) (fun _ => ?_)
    refine v_aload_n X dL_law_2796 5 rfl rfl 2797 rfl ?_
    refine v_iconst X dL_law_2797 ic_0 2798 rfl ?_
    refine v_outld X dL_law_2798 2799 rfl ?_
    refine v_iload X dL_law_2799 0 rfl 2801 rfl ?_
    refine v_i2l X dL_law_2801 2802 rfl ?_
    refine v_lcmp X dL_law_2802 2803 rfl ?_
    refine v_if_eq X (tgt := 2808) dL_law_2803 rfl 2806 rfl (a := some ()) (b := none) (o := ()) (if_pos (by rw [hout, if_pos h0, ← hv h0]; exact lg_cmp_self _)) (fun _ => ?_) (fun h => nomatch h)
    refine v_goto X (tgt := 3452) dL_law_2808 rfl ?_
    refine v_sub (lv' := [(0, .ref b), (1, .ref (ad 0)), (2, .ref (am 0)), (3, .ref ao), (4, .int (nlaw n))]) [2, 3, 4, 5, 6] rfl ?_
    exact v_widen (by omega) (by omega) (K _ _ asl u _ hR1)
  · refine v_if_ne X (tgt := 2808) dL_law_2793 rfl 2796 rfl (a := some ()) (b := none) (o := ()) (if_neg (hcd_ne h0 (by decide))) (fun _ => ?_) (fun h => nomatch h)
    refine v_goto X (tgt := 3452) dL_law_2808 rfl ?_
    refine v_sub (lv' := [(0, .ref b), (1, .ref (ad 0)), (2, .ref (am 0)), (3, .ref ao), (4, .int (nlaw n))]) [2, 3, 4, 5, 6] rfl ?_
    exact v_widen (by omega) (by omega) (K _ _ asl u _ hR1)
set_option maxRecDepth 100000 in
set_option maxHeartbeats 4000000 in
theorem w_52 (l : Launch) {G : (Nat → Prop) → State → Heap → Prop} (hG : vG G) (hl0 : l.stackTraces = false) (hNC : ∀ (A : Nat → Prop) (U : State) (H : Heap), G A U H → ∀ q ∈ ncL, va_Nc q.1 q.2 U) (D : va_G) (c9 : Nat → ClassId) (sk sv : Nat → Nat) (hGU : ∀ (A : Nat → Prop) (U : State) (H : Heap), G A U H → vU sk sv A U H) (ad am : Nat → Nat) (ao b L : Nat) (xs : Nat → Int32) {p : Program} {e : Env} {s : State} {mm : MethodId} {args : Array Value} {below : List Frame} {meth : Method} {c : Code} {A : Nat → Prop} {Q : State → Prop} (X : vX p s mm args meth c cL_law 9 (some .boolean) RL (Cond.tt :: Wg) D (tyA c9) G A) (hX : va_X b L xs s s.heap) (hbl : b < s.heap.size) (hbA : ¬ A b) (REL : FX → FM → Prop) (hk : H52 REL) (n : Nat) (hn : n + 6 ≤ L) (hL : L ≤ 3072) (x : FX) (m : FM) (hR : REL x m) (asl apa : Nat → Nat → Nat) (fo : Nat → Int64) (nC nS : Nat) (hC : nC + 14 ≤ 601024) (hS : nS + 481 ≤ 7293034) (K : ∀ (x' : FX) (m' : FM) (asl' apa' : Nat → Nat → Nat) (fo' : Nat → Int64), REL x' m' → vW p l e room_1 s mm args below meth c 9 D A (wLF c9 x'.sl asl' x'.pa apa' ao fo' (wMf am c9 m')) (nC + 14) (nS + 481) Q (wXf ad c9 x' asl' apa') 3452 [(0, .ref b), (1, .ref (ad 0)), (2, .ref (am 0)), (3, .ref ao), (4, .int (nlaw n))] []) : vW p l e room_1 s mm args below meth c 9 D A (wLF c9 x.sl asl x.pa apa ao fo (wMf am c9 m)) nC nS Q (wXf ad c9 x asl apa) 2811 [(0, .ref b), (1, .ref (ad 0)), (2, .ref (am 0)), (3, .ref ao), (4, .int (nlaw n))] [] := by
  obtain ⟨ox, om, hx, hex, hm, ht, hv, hR1⟩ := hk x m hR (xs (nlaw n + 1).toNatClampNeg)
  refine v_aload_n X dL_law_2811 1 rfl rfl 2812 rfl ?_
  refine v_aload_n X dL_law_2812 0 rfl rfl 2813 rfl ?_
  refine v_iload X dL_law_2813 4 rfl 2815 rfl ?_
  refine v_iconst X dL_law_2815 ic_1 2816 rfl ?_
  refine v_iadd X dL_law_2816 2817 rfl ?_
  refine v_sld X hX hbl hbA (sc_in hn hL 1 (by decide)) dL_law_2817 2818 rfl ?_
  refine v_aload_n X dL_law_2818 3 rfl rfl 2819 rfl ?_
  refine v_hcallS X (S := Nat → Nat → Nat) (As := [.ref (ad 0), .int (xs (nlaw n + 1).toNatClampNeg), .ref ao]) (rest := []) (ws' := fun u => wX11 ad c9 ox.2.2.1 ox.2.2.2.1 x.i_count x.i_cells x.o_count x.o_cells x.p_start x.p_end x.p_kind x.p_value x.p_error x.p_errorAt x.p_d_time x.p_d_tolerance x.p_d_seed x.p_d_madeTickets x.p_d_cheesesOfText x.p_d_R_rows x.p_d_R_cells x.p_d_U_rows x.p_d_U_cells x.p_d_S_rows x.p_d_S_cells x.p_d_T_rows x.p_d_T_cells x.p_d_E_rows x.p_d_E_cells x.s_time x.s_tolerance ox.2.2.2.2.1 x.s_madeTickets x.s_cheesesOfText x.s_R_rows x.s_R_cells x.s_U_rows x.s_U_cells x.s_S_rows x.s_S_cells x.s_T_rows ox.2.2.2.2.2.1 x.s_E_rows x.s_E_cells x.sl asl ox.2.2.2.2.2.2 u) (F' := fun u => wLF c9 x.sl asl ox.2.2.2.2.2.2 u ao (hout ox.1 fo ox.2.1.toInt64) (wMf am c9 m)) (c_L_renew l hG hl0 hNC D c9 sk sv hGU ad x.nextPast x.pastCount x.i_count x.i_cells x.o_count x.o_cells x.p_start x.p_end x.p_kind x.p_value x.p_error x.p_errorAt x.p_d_time x.p_d_tolerance x.p_d_seed x.p_d_madeTickets x.p_d_cheesesOfText x.p_d_R_rows x.p_d_R_cells x.p_d_U_rows x.p_d_U_cells x.p_d_S_rows x.p_d_S_cells x.p_d_T_rows x.p_d_T_cells x.p_d_E_rows x.p_d_E_cells x.s_time x.s_tolerance x.s_seed x.s_madeTickets x.s_cheesesOfText x.s_R_rows x.s_R_cells x.s_U_rows x.s_U_cells x.s_S_rows x.s_S_cells x.s_T_rows x.s_T_cells x.s_E_rows x.s_E_cells x.sl asl x.pa apa ao fo (xs (nlaw n + 1).toNatClampNeg) hx hex) 3 (gS wbd_387 wbd_388 wbd_2 wbd_389) rfl rfl rfl pd_L_renew ⟨Nat.le_of_ble_eq_true rfl, Nat.le_of_ble_eq_true rfl⟩ rfl rfl (Nat.le_of_ble_eq_true rfl) ⟨show nC + 13 ≤ 601024 by omega, show nS + 475 ≤ 7293034 by omega⟩ (fun _ => rfl) dL_law_2819 2822 rfl (fun u _ => ?_)
  refine v_istore X (lv' := [(5, .int (hcd [4, 3] ox.1)), (0, .ref b), (1, .ref (ad 0)), (2, .ref (am 0)), (3, .ref ao), (4, .int (nlaw n))]) dL_law_2822 (by decide) rfl 2824 rfl ?_
  refine v_toM ?_
  refine v_aload_n X dL_law_2824 3 rfl rfl 2825 rfl ?_
  refine v_aload_n X dL_law_2825 1 rfl rfl 2826 rfl ?_
  refine v_iload X dL_law_2826 5 rfl 2828 rfl ?_
  refine v_iconst X dL_law_2828 ic_1 2829 rfl ?_
  refine v_iadd X dL_law_2829 2830 rfl ?_
  refine v_sld X hX hbl hbA (sc_in hn hL 1 (by decide)) dL_law_2830 2831 rfl ?_
  refine v_callVi X (C := RX12) (ci := 11) (T := TX12) (As := [.int (xs (nlaw n + 1).toNatClampNeg)]) (rest := []) (ws' := wX12 am c9 om.2.1 om.2.2.1 om.2.2.2.1 m.m_inputLength m.m_position m.m_start m.m_token m.m_value m.m_letters m.m_code m.m_place m.m_outputLength om.2.2.2.2.1 m.m_parsed m.m_tried om.2.2.2.2.2 m.m_slots m.m_kept m.m_away m.m_input m.m_halfway m.m_output) (c_X12_renew l hG D c9 am m.m_undoable m.m_undoStart m.m_thrown m.m_inputLength m.m_position m.m_start m.m_token m.m_value m.m_letters m.m_code m.m_place m.m_outputLength m.m_s m.m_parsed m.m_tried m.m_remembered m.m_slots m.m_kept m.m_away m.m_input m.m_halfway m.m_output (xs (nlaw n + 1).toNatClampNeg) hm) 1 (gV wbd_390 wbd_391 wbd_392 wbd_7 wbd_393) rfl rfl rfl ⟨rfl, pd_X12_renew⟩ ⟨Nat.le_of_ble_eq_true rfl, Nat.le_of_ble_eq_true rfl⟩ 0 rfl rfl rfl rfl (Nat.le_of_ble_eq_true rfl) ⟨show nC + 13 + 0 ≤ 601024 by omega, show nS + 475 + 0 ≤ 7293034 by omega⟩ [0, 1, 2, 3, 4, 5, 6, 7, 8, 9, 10] [] [0, 1, 2, 3, 4, 5, 6, 7, 8, 9, 10] rfl rfl rfl rfl dL_law_2831 2834 rfl ?_
  refine v_istore X (lv' := [(6, .int om.1), (5, .int (hcd [4, 3] ox.1)), (0, .ref b), (1, .ref (ad 0)), (2, .ref (am 0)), (3, .ref ao), (4, .int (nlaw n))]) dL_law_2834 (by decide) rfl 2836 rfl ?_
  refine v_aload_n X dL_law_2836 4 rfl rfl 2837 rfl ?_
  refine v_callVi X (C := RX12) (ci := 11) (T := TX12) (As := []) (rest := []) (ws' := wX12 am c9 om.2.1 om.2.2.1 om.2.2.2.1 m.m_inputLength m.m_position m.m_start m.m_token m.m_value m.m_letters m.m_code m.m_place m.m_outputLength om.2.2.2.2.1 m.m_parsed m.m_tried om.2.2.2.2.2 m.m_slots m.m_kept m.m_away m.m_input m.m_halfway m.m_output) (c_X12_thrown l hG D c9 am om.2.1 om.2.2.1 om.2.2.2.1 m.m_inputLength m.m_position m.m_start m.m_token m.m_value m.m_letters m.m_code m.m_place m.m_outputLength om.2.2.2.2.1 m.m_parsed m.m_tried om.2.2.2.2.2 m.m_slots m.m_kept m.m_away m.m_input m.m_halfway m.m_output  rfl) 0 (gV wbd_9 wbd_10 wbd_11 wbd_7 wbd_12) rfl rfl rfl ⟨rfl, pd_X12_thrown⟩ ⟨Nat.le_of_ble_eq_true rfl, Nat.le_of_ble_eq_true rfl⟩ 0 rfl rfl rfl rfl (Nat.le_of_ble_eq_true rfl) ⟨show nC + 13 + 0 ≤ 601024 by omega, show nS + 475 + 0 ≤ 7293034 by omega⟩ [0, 1, 2, 3, 4, 5, 6, 7, 8, 9, 10] [] [0, 1, 2, 3, 4, 5, 6, 7, 8, 9, 10] rfl rfl rfl rfl dL_law_2837 2840 rfl ?_
  refine v_iload X dL_law_2840 1 rfl 2842 rfl ?_
  refine v_icmp_eq X (tgt := 2847) dL_law_2842 rfl 2845 rfl (a := some ()) (b := none) (o := ()) (if_pos ht) (fun _ => ?_) (fun h => nomatch h)
  refine v_toX ?_
  refine v_iload X dL_law_2847 1 rfl 2849 rfl ?_
  by_cases h0 : ox.1 = 0
  · refine v_if_ne X (tgt := 2864) dL_law_2849 rfl 2852 rfl (a := none) (b := some ()) (o := ()) (if_pos (by rw [h0]; rfl)) (fun h => nomatch h) (fun _ => ?_)
    refine v_aload_n X dL_law_2852 5 rfl rfl 2853 rfl ?_
    refine v_iconst X dL_law_2853 ic_0 2854 rfl ?_
    refine v_outld X dL_law_2854 2855 rfl ?_
    refine v_iload X dL_law_2855 0 rfl 2857 rfl ?_
    refine v_i2l X dL_law_2857 2858 rfl ?_
    refine v_lcmp X dL_law_2858 2859 rfl ?_
    refine v_if_eq X (tgt := 2864) dL_law_2859 rfl 2862 rfl (a := some ()) (b := none) (o := ()) (if_pos (by rw [hout, if_pos h0, ← hv h0]; exact lg_cmp_self _)) (fun _ => ?_) (fun h => nomatch h)
    refine v_goto X (tgt := 3452) dL_law_2864 rfl ?_
    refine v_sub (lv' := [(0, .ref b), (1, .ref (ad 0)), (2, .ref (am 0)), (3, .ref ao), (4, .int (nlaw n))]) [2, 3, 4, 5, 6] rfl ?_
    exact v_widen (by omega) (by omega) (K _ _ asl u _ hR1)
  · refine v_if_ne X (tgt := 2864) dL_law_2849 rfl 2852 rfl (a := some ()) (b := none) (o := ()) (if_neg (hcd_ne h0 (by decide))) (fun _ => ?_) (fun h => nomatch h)
    refine v_goto X (tgt := 3452) dL_law_2864 rfl ?_
    refine v_sub (lv' := [(0, .ref b), (1, .ref (ad 0)), (2, .ref (am 0)), (3, .ref ao), (4, .int (nlaw n))]) [2, 3, 4, 5, 6] rfl ?_
    exact v_widen (by omega) (by omega) (K _ _ asl u _ hR1)
set_option maxRecDepth 100000 in
set_option maxHeartbeats 4000000 in
theorem w_53 (l : Launch) {G : (Nat → Prop) → State → Heap → Prop} (hG : vG G) (hl0 : l.stackTraces = false) (hNC : ∀ (A : Nat → Prop) (U : State) (H : Heap), G A U H → ∀ q ∈ ncL, va_Nc q.1 q.2 U) (D : va_G) (c9 : Nat → ClassId) (sk sv : Nat → Nat) (hGU : ∀ (A : Nat → Prop) (U : State) (H : Heap), G A U H → vU sk sv A U H) (ad am : Nat → Nat) (ao b L : Nat) (xs : Nat → Int32) {p : Program} {e : Env} {s : State} {mm : MethodId} {args : Array Value} {below : List Frame} {meth : Method} {c : Code} {A : Nat → Prop} {Q : State → Prop} (X : vX p s mm args meth c cL_law 9 (some .boolean) RL (Cond.tt :: Wg) D (tyA c9) G A) (hX : va_X b L xs s s.heap) (hbl : b < s.heap.size) (hbA : ¬ A b) (REL : FX → FM → Prop) (hk : H53 REL) (n : Nat) (hn : n + 6 ≤ L) (hL : L ≤ 3072) (x : FX) (m : FM) (hR : REL x m) (asl apa : Nat → Nat → Nat) (fo : Nat → Int64) (nC nS : Nat) (hC : nC + 14 ≤ 601024) (hS : nS + 481 ≤ 7293034) (K : ∀ (x' : FX) (m' : FM) (asl' apa' : Nat → Nat → Nat) (fo' : Nat → Int64), REL x' m' → vW p l e room_1 s mm args below meth c 9 D A (wLF c9 x'.sl asl' x'.pa apa' ao fo' (wMf am c9 m')) (nC + 14) (nS + 481) Q (wXf ad c9 x' asl' apa') 3452 [(0, .ref b), (1, .ref (ad 0)), (2, .ref (am 0)), (3, .ref ao), (4, .int (nlaw n))] []) : vW p l e room_1 s mm args below meth c 9 D A (wLF c9 x.sl asl x.pa apa ao fo (wMf am c9 m)) nC nS Q (wXf ad c9 x asl apa) 2867 [(0, .ref b), (1, .ref (ad 0)), (2, .ref (am 0)), (3, .ref ao), (4, .int (nlaw n))] [] := by
  obtain ⟨ox, om, hx, hex, hm, ht, hv, hR1⟩ := hk x m hR (xs (nlaw n + 1).toNatClampNeg)
  refine v_aload_n X dL_law_2867 1 rfl rfl 2868 rfl ?_
  refine v_aload_n X dL_law_2868 0 rfl rfl 2869 rfl ?_
  refine v_iload X dL_law_2869 4 rfl 2871 rfl ?_
  refine v_iconst X dL_law_2871 ic_1 2872 rfl ?_
  refine v_iadd X dL_law_2872 2873 rfl ?_
  refine v_sld X hX hbl hbA (sc_in hn hL 1 (by decide)) dL_law_2873 2874 rfl ?_
  refine v_aload_n X dL_law_2874 3 rfl rfl 2875 rfl ?_
  refine v_hcallS X (S := Nat → Nat → Nat) (As := [.ref (ad 0), .int (xs (nlaw n + 1).toNatClampNeg), .ref ao]) (rest := []) (ws' := fun u => wX11 ad c9 ox.2.2.1 ox.2.2.2.1 x.i_count x.i_cells x.o_count x.o_cells x.p_start x.p_end x.p_kind x.p_value x.p_error x.p_errorAt x.p_d_time x.p_d_tolerance x.p_d_seed x.p_d_madeTickets x.p_d_cheesesOfText x.p_d_R_rows x.p_d_R_cells x.p_d_U_rows x.p_d_U_cells x.p_d_S_rows x.p_d_S_cells x.p_d_T_rows x.p_d_T_cells x.p_d_E_rows x.p_d_E_cells x.s_time x.s_tolerance x.s_seed x.s_madeTickets x.s_cheesesOfText x.s_R_rows x.s_R_cells x.s_U_rows ox.2.2.2.2.1 x.s_S_rows ox.2.2.2.2.2.1 x.s_T_rows x.s_T_cells ox.2.2.2.2.2.2.1 ox.2.2.2.2.2.2.2.1 x.sl asl ox.2.2.2.2.2.2.2.2 u) (F' := fun u => wLF c9 x.sl asl ox.2.2.2.2.2.2.2.2 u ao (hout ox.1 fo ox.2.1.toInt64) (wMf am c9 m)) (c_L_cheese l hG hl0 hNC D c9 sk sv hGU ad x.nextPast x.pastCount x.i_count x.i_cells x.o_count x.o_cells x.p_start x.p_end x.p_kind x.p_value x.p_error x.p_errorAt x.p_d_time x.p_d_tolerance x.p_d_seed x.p_d_madeTickets x.p_d_cheesesOfText x.p_d_R_rows x.p_d_R_cells x.p_d_U_rows x.p_d_U_cells x.p_d_S_rows x.p_d_S_cells x.p_d_T_rows x.p_d_T_cells x.p_d_E_rows x.p_d_E_cells x.s_time x.s_tolerance x.s_seed x.s_madeTickets x.s_cheesesOfText x.s_R_rows x.s_R_cells x.s_U_rows x.s_U_cells x.s_S_rows x.s_S_cells x.s_T_rows x.s_T_cells x.s_E_rows x.s_E_cells x.sl asl x.pa apa ao fo (xs (nlaw n + 1).toNatClampNeg) hx hex) 3 (gS wbd_394 wbd_395 wbd_2 wbd_396) rfl rfl rfl pd_L_cheese ⟨Nat.le_of_ble_eq_true rfl, Nat.le_of_ble_eq_true rfl⟩ rfl rfl (Nat.le_of_ble_eq_true rfl) ⟨show nC + 13 ≤ 601024 by omega, show nS + 475 ≤ 7293034 by omega⟩ (fun _ => rfl) dL_law_2875 2878 rfl (fun u _ => ?_)
  refine v_istore X (lv' := [(5, .int (hcd [4, 3] ox.1)), (0, .ref b), (1, .ref (ad 0)), (2, .ref (am 0)), (3, .ref ao), (4, .int (nlaw n))]) dL_law_2878 (by decide) rfl 2880 rfl ?_
  refine v_toM ?_
  refine v_aload_n X dL_law_2880 3 rfl rfl 2881 rfl ?_
  refine v_aload_n X dL_law_2881 1 rfl rfl 2882 rfl ?_
  refine v_iload X dL_law_2882 5 rfl 2884 rfl ?_
  refine v_iconst X dL_law_2884 ic_1 2885 rfl ?_
  refine v_iadd X dL_law_2885 2886 rfl ?_
  refine v_sld X hX hbl hbA (sc_in hn hL 1 (by decide)) dL_law_2886 2887 rfl ?_
  refine v_callVi X (C := RX12) (ci := 11) (T := TX12) (As := [.int (xs (nlaw n + 1).toNatClampNeg)]) (rest := []) (ws' := wX12 am c9 om.2.1 om.2.2.1 om.2.2.2.1 m.m_inputLength m.m_position m.m_start m.m_token m.m_value m.m_letters m.m_code m.m_place m.m_outputLength om.2.2.2.2.1 m.m_parsed m.m_tried om.2.2.2.2.2 m.m_slots m.m_kept m.m_away m.m_input m.m_halfway m.m_output) (c_X12_cheese l hG D c9 am m.m_undoable m.m_undoStart m.m_thrown m.m_inputLength m.m_position m.m_start m.m_token m.m_value m.m_letters m.m_code m.m_place m.m_outputLength m.m_s m.m_parsed m.m_tried m.m_remembered m.m_slots m.m_kept m.m_away m.m_input m.m_halfway m.m_output (xs (nlaw n + 1).toNatClampNeg) hm) 1 (gV wbd_397 wbd_398 wbd_399 wbd_7 wbd_400) rfl rfl rfl ⟨rfl, pd_X12_cheese⟩ ⟨Nat.le_of_ble_eq_true rfl, Nat.le_of_ble_eq_true rfl⟩ 0 rfl rfl rfl rfl (Nat.le_of_ble_eq_true rfl) ⟨show nC + 13 + 0 ≤ 601024 by omega, show nS + 475 + 0 ≤ 7293034 by omega⟩ [0, 1, 2, 3, 4, 5, 6, 7, 8, 9, 10] [] [0, 1, 2, 3, 4, 5, 6, 7, 8, 9, 10] rfl rfl rfl rfl dL_law_2887 2890 rfl ?_
  refine v_istore X (lv' := [(6, .int om.1), (5, .int (hcd [4, 3] ox.1)), (0, .ref b), (1, .ref (ad 0)), (2, .ref (am 0)), (3, .ref ao), (4, .int (nlaw n))]) dL_law_2890 (by decide) rfl 2892 rfl ?_
  refine v_aload_n X dL_law_2892 4 rfl rfl 2893 rfl ?_
  refine v_callVi X (C := RX12) (ci := 11) (T := TX12) (As := []) (rest := []) (ws' := wX12 am c9 om.2.1 om.2.2.1 om.2.2.2.1 m.m_inputLength m.m_position m.m_start m.m_token m.m_value m.m_letters m.m_code m.m_place m.m_outputLength om.2.2.2.2.1 m.m_parsed m.m_tried om.2.2.2.2.2 m.m_slots m.m_kept m.m_away m.m_input m.m_halfway m.m_output) (c_X12_thrown l hG D c9 am om.2.1 om.2.2.1 om.2.2.2.1 m.m_inputLength m.m_position m.m_start m.m_token m.m_value m.m_letters m.m_code m.m_place m.m_outputLength om.2.2.2.2.1 m.m_parsed m.m_tried om.2.2.2.2.2 m.m_slots m.m_kept m.m_away m.m_input m.m_halfway m.m_output  rfl) 0 (gV wbd_9 wbd_10 wbd_11 wbd_7 wbd_12) rfl rfl rfl ⟨rfl, pd_X12_thrown⟩ ⟨Nat.le_of_ble_eq_true rfl, Nat.le_of_ble_eq_true rfl⟩ 0 rfl rfl rfl rfl (Nat.le_of_ble_eq_true rfl) ⟨show nC + 13 + 0 ≤ 601024 by omega, show nS + 475 + 0 ≤ 7293034 by omega⟩ [0, 1, 2, 3, 4, 5, 6, 7, 8, 9, 10] [] [0, 1, 2, 3, 4, 5, 6, 7, 8, 9, 10] rfl rfl rfl rfl dL_law_2893 2896 rfl ?_
  refine v_iload X dL_law_2896 1 rfl 2898 rfl ?_
  refine v_icmp_eq X (tgt := 2903) dL_law_2898 rfl 2901 rfl (a := some ()) (b := none) (o := ()) (if_pos ht) (fun _ => ?_) (fun h => nomatch h)
  refine v_toX ?_
  refine v_iload X dL_law_2903 1 rfl 2905 rfl ?_
  by_cases h0 : ox.1 = 0
  · refine v_if_ne X (tgt := 2920) dL_law_2905 rfl 2908 rfl (a := none) (b := some ()) (o := ()) (if_pos (by rw [h0]; rfl)) (fun h => nomatch h) (fun _ => ?_)
    refine v_aload_n X dL_law_2908 5 rfl rfl 2909 rfl ?_
    refine v_iconst X dL_law_2909 ic_0 2910 rfl ?_
    refine v_outld X dL_law_2910 2911 rfl ?_
    refine v_iload X dL_law_2911 0 rfl 2913 rfl ?_
    refine v_i2l X dL_law_2913 2914 rfl ?_
    refine v_lcmp X dL_law_2914 2915 rfl ?_
    refine v_if_eq X (tgt := 2920) dL_law_2915 rfl 2918 rfl (a := some ()) (b := none) (o := ()) (if_pos (by rw [hout, if_pos h0, ← hv h0]; exact lg_cmp_self _)) (fun _ => ?_) (fun h => nomatch h)
    refine v_goto X (tgt := 3452) dL_law_2920 rfl ?_
    refine v_sub (lv' := [(0, .ref b), (1, .ref (ad 0)), (2, .ref (am 0)), (3, .ref ao), (4, .int (nlaw n))]) [2, 3, 4, 5, 6] rfl ?_
    exact v_widen (by omega) (by omega) (K _ _ asl u _ hR1)
  · refine v_if_ne X (tgt := 2920) dL_law_2905 rfl 2908 rfl (a := some ()) (b := none) (o := ()) (if_neg (hcd_ne h0 (by decide))) (fun _ => ?_) (fun h => nomatch h)
    refine v_goto X (tgt := 3452) dL_law_2920 rfl ?_
    refine v_sub (lv' := [(0, .ref b), (1, .ref (ad 0)), (2, .ref (am 0)), (3, .ref ao), (4, .int (nlaw n))]) [2, 3, 4, 5, 6] rfl ?_
    exact v_widen (by omega) (by omega) (K _ _ asl u _ hR1)
set_option maxRecDepth 100000 in
set_option maxHeartbeats 4000000 in
theorem w_54 (l : Launch) {G : (Nat → Prop) → State → Heap → Prop} (hG : vG G) (hl0 : l.stackTraces = false) (hNC : ∀ (A : Nat → Prop) (U : State) (H : Heap), G A U H → ∀ q ∈ ncL, va_Nc q.1 q.2 U) (D : va_G) (c9 : Nat → ClassId) (sk sv : Nat → Nat) (hGU : ∀ (A : Nat → Prop) (U : State) (H : Heap), G A U H → vU sk sv A U H) (ad am : Nat → Nat) (ao b L : Nat) (xs : Nat → Int32) {p : Program} {e : Env} {s : State} {mm : MethodId} {args : Array Value} {below : List Frame} {meth : Method} {c : Code} {A : Nat → Prop} {Q : State → Prop} (X : vX p s mm args meth c cL_law 9 (some .boolean) RL (Cond.tt :: Wg) D (tyA c9) G A) (hX : va_X b L xs s s.heap) (hbl : b < s.heap.size) (hbA : ¬ A b) (REL : FX → FM → Prop) (hk : H54 REL) (n : Nat) (hn : n + 6 ≤ L) (hL : L ≤ 3072) (x : FX) (m : FM) (hR : REL x m) (asl apa : Nat → Nat → Nat) (fo : Nat → Int64) (nC nS : Nat) (hC : nC + 14 ≤ 601024) (hS : nS + 481 ≤ 7293034) (K : ∀ (x' : FX) (m' : FM) (asl' apa' : Nat → Nat → Nat) (fo' : Nat → Int64), REL x' m' → vW p l e room_1 s mm args below meth c 9 D A (wLF c9 x'.sl asl' x'.pa apa' ao fo' (wMf am c9 m')) (nC + 14) (nS + 481) Q (wXf ad c9 x' asl' apa') 3452 [(0, .ref b), (1, .ref (ad 0)), (2, .ref (am 0)), (3, .ref ao), (4, .int (nlaw n))] []) : vW p l e room_1 s mm args below meth c 9 D A (wLF c9 x.sl asl x.pa apa ao fo (wMf am c9 m)) nC nS Q (wXf ad c9 x asl apa) 2923 [(0, .ref b), (1, .ref (ad 0)), (2, .ref (am 0)), (3, .ref ao), (4, .int (nlaw n))] [] := by
  obtain ⟨ox, om, hx, hex, hm, ht, hv, hR1⟩ := hk x m hR (xs (nlaw n + 1).toNatClampNeg)
  refine v_aload_n X dL_law_2923 1 rfl rfl 2924 rfl ?_
  refine v_aload_n X dL_law_2924 0 rfl rfl 2925 rfl ?_
  refine v_iload X dL_law_2925 4 rfl 2927 rfl ?_
  refine v_iconst X dL_law_2927 ic_1 2928 rfl ?_
  refine v_iadd X dL_law_2928 2929 rfl ?_
  refine v_sld X hX hbl hbA (sc_in hn hL 1 (by decide)) dL_law_2929 2930 rfl ?_
  refine v_aload_n X dL_law_2930 3 rfl rfl 2931 rfl ?_
  refine v_hcallS X (S := Nat → Nat → Nat) (As := [.ref (ad 0), .int (xs (nlaw n + 1).toNatClampNeg), .ref ao]) (rest := []) (ws' := fun u => wX11 ad c9 ox.2.2.1 ox.2.2.2.1 x.i_count x.i_cells x.o_count x.o_cells x.p_start x.p_end x.p_kind x.p_value x.p_error x.p_errorAt x.p_d_time x.p_d_tolerance x.p_d_seed x.p_d_madeTickets x.p_d_cheesesOfText x.p_d_R_rows x.p_d_R_cells x.p_d_U_rows x.p_d_U_cells x.p_d_S_rows x.p_d_S_cells x.p_d_T_rows x.p_d_T_cells x.p_d_E_rows x.p_d_E_cells x.s_time x.s_tolerance x.s_seed x.s_madeTickets x.s_cheesesOfText x.s_R_rows x.s_R_cells x.s_U_rows x.s_U_cells x.s_S_rows x.s_S_cells ox.2.2.2.2.1 ox.2.2.2.2.2.1 x.s_E_rows x.s_E_cells x.sl asl ox.2.2.2.2.2.2 u) (F' := fun u => wLF c9 x.sl asl ox.2.2.2.2.2.2 u ao (hout ox.1 fo ox.2.1.toInt64) (wMf am c9 m)) (c_L_drop l hG hl0 hNC D c9 sk sv hGU ad x.nextPast x.pastCount x.i_count x.i_cells x.o_count x.o_cells x.p_start x.p_end x.p_kind x.p_value x.p_error x.p_errorAt x.p_d_time x.p_d_tolerance x.p_d_seed x.p_d_madeTickets x.p_d_cheesesOfText x.p_d_R_rows x.p_d_R_cells x.p_d_U_rows x.p_d_U_cells x.p_d_S_rows x.p_d_S_cells x.p_d_T_rows x.p_d_T_cells x.p_d_E_rows x.p_d_E_cells x.s_time x.s_tolerance x.s_seed x.s_madeTickets x.s_cheesesOfText x.s_R_rows x.s_R_cells x.s_U_rows x.s_U_cells x.s_S_rows x.s_S_cells x.s_T_rows x.s_T_cells x.s_E_rows x.s_E_cells x.sl asl x.pa apa ao fo (xs (nlaw n + 1).toNatClampNeg) hx hex) 3 (gS wbd_401 wbd_402 wbd_2 wbd_403) rfl rfl rfl pd_L_drop ⟨Nat.le_of_ble_eq_true rfl, Nat.le_of_ble_eq_true rfl⟩ rfl rfl (Nat.le_of_ble_eq_true rfl) ⟨show nC + 12 ≤ 601024 by omega, show nS + 469 ≤ 7293034 by omega⟩ (fun _ => rfl) dL_law_2931 2934 rfl (fun u _ => ?_)
  refine v_istore X (lv' := [(5, .int (hcd [4] ox.1)), (0, .ref b), (1, .ref (ad 0)), (2, .ref (am 0)), (3, .ref ao), (4, .int (nlaw n))]) dL_law_2934 (by decide) rfl 2936 rfl ?_
  refine v_toM ?_
  refine v_aload_n X dL_law_2936 3 rfl rfl 2937 rfl ?_
  refine v_aload_n X dL_law_2937 1 rfl rfl 2938 rfl ?_
  refine v_iload X dL_law_2938 5 rfl 2940 rfl ?_
  refine v_iconst X dL_law_2940 ic_1 2941 rfl ?_
  refine v_iadd X dL_law_2941 2942 rfl ?_
  refine v_sld X hX hbl hbA (sc_in hn hL 1 (by decide)) dL_law_2942 2943 rfl ?_
  refine v_callVi X (C := RX12) (ci := 11) (T := TX12) (As := [.int (xs (nlaw n + 1).toNatClampNeg)]) (rest := []) (ws' := wX12 am c9 om.2.1 om.2.2.1 om.2.2.2.1 m.m_inputLength m.m_position m.m_start m.m_token m.m_value m.m_letters m.m_code m.m_place m.m_outputLength om.2.2.2.2.1 m.m_parsed m.m_tried om.2.2.2.2.2 m.m_slots m.m_kept m.m_away m.m_input m.m_halfway m.m_output) (c_X12_drop l hG D c9 am m.m_undoable m.m_undoStart m.m_thrown m.m_inputLength m.m_position m.m_start m.m_token m.m_value m.m_letters m.m_code m.m_place m.m_outputLength m.m_s m.m_parsed m.m_tried m.m_remembered m.m_slots m.m_kept m.m_away m.m_input m.m_halfway m.m_output (xs (nlaw n + 1).toNatClampNeg) hm) 1 (gV wbd_404 wbd_405 wbd_406 wbd_7 wbd_407) rfl rfl rfl ⟨rfl, pd_X12_drop⟩ ⟨Nat.le_of_ble_eq_true rfl, Nat.le_of_ble_eq_true rfl⟩ 0 rfl rfl rfl rfl (Nat.le_of_ble_eq_true rfl) ⟨show nC + 12 + 0 ≤ 601024 by omega, show nS + 469 + 0 ≤ 7293034 by omega⟩ [0, 1, 2, 3, 4, 5, 6, 7, 8, 9, 10] [] [0, 1, 2, 3, 4, 5, 6, 7, 8, 9, 10] rfl rfl rfl rfl dL_law_2943 2946 rfl ?_
  refine v_istore X (lv' := [(6, .int om.1), (5, .int (hcd [4] ox.1)), (0, .ref b), (1, .ref (ad 0)), (2, .ref (am 0)), (3, .ref ao), (4, .int (nlaw n))]) dL_law_2946 (by decide) rfl 2948 rfl ?_
  refine v_aload_n X dL_law_2948 4 rfl rfl 2949 rfl ?_
  refine v_callVi X (C := RX12) (ci := 11) (T := TX12) (As := []) (rest := []) (ws' := wX12 am c9 om.2.1 om.2.2.1 om.2.2.2.1 m.m_inputLength m.m_position m.m_start m.m_token m.m_value m.m_letters m.m_code m.m_place m.m_outputLength om.2.2.2.2.1 m.m_parsed m.m_tried om.2.2.2.2.2 m.m_slots m.m_kept m.m_away m.m_input m.m_halfway m.m_output) (c_X12_thrown l hG D c9 am om.2.1 om.2.2.1 om.2.2.2.1 m.m_inputLength m.m_position m.m_start m.m_token m.m_value m.m_letters m.m_code m.m_place m.m_outputLength om.2.2.2.2.1 m.m_parsed m.m_tried om.2.2.2.2.2 m.m_slots m.m_kept m.m_away m.m_input m.m_halfway m.m_output  rfl) 0 (gV wbd_9 wbd_10 wbd_11 wbd_7 wbd_12) rfl rfl rfl ⟨rfl, pd_X12_thrown⟩ ⟨Nat.le_of_ble_eq_true rfl, Nat.le_of_ble_eq_true rfl⟩ 0 rfl rfl rfl rfl (Nat.le_of_ble_eq_true rfl) ⟨show nC + 12 + 0 ≤ 601024 by omega, show nS + 469 + 0 ≤ 7293034 by omega⟩ [0, 1, 2, 3, 4, 5, 6, 7, 8, 9, 10] [] [0, 1, 2, 3, 4, 5, 6, 7, 8, 9, 10] rfl rfl rfl rfl dL_law_2949 2952 rfl ?_
  refine v_iload X dL_law_2952 1 rfl 2954 rfl ?_
  refine v_icmp_eq X (tgt := 2959) dL_law_2954 rfl 2957 rfl (a := some ()) (b := none) (o := ()) (if_pos ht) (fun _ => ?_) (fun h => nomatch h)
  refine v_toX ?_
  refine v_iload X dL_law_2959 1 rfl 2961 rfl ?_
  by_cases h0 : ox.1 = 0
  · refine v_if_ne X (tgt := 2976) dL_law_2961 rfl 2964 rfl (a := none) (b := some ()) (o := ()) (if_pos (by rw [h0]; rfl)) (fun h => nomatch h) (fun _ => ?_)
    refine v_aload_n X dL_law_2964 5 rfl rfl 2965 rfl ?_
    refine v_iconst X dL_law_2965 ic_0 2966 rfl ?_
    refine v_outld X dL_law_2966 2967 rfl ?_
    refine v_iload X dL_law_2967 0 rfl 2969 rfl ?_
    refine v_i2l X dL_law_2969 2970 rfl ?_
    refine v_lcmp X dL_law_2970 2971 rfl ?_
    refine v_if_eq X (tgt := 2976) dL_law_2971 rfl 2974 rfl (a := some ()) (b := none) (o := ()) (if_pos (by rw [hout, if_pos h0, ← hv h0]; exact lg_cmp_self _)) (fun _ => ?_) (fun h => nomatch h)
    refine v_goto X (tgt := 3452) dL_law_2976 rfl ?_
    refine v_sub (lv' := [(0, .ref b), (1, .ref (ad 0)), (2, .ref (am 0)), (3, .ref ao), (4, .int (nlaw n))]) [2, 3, 4, 5, 6] rfl ?_
    exact v_widen (by omega) (by omega) (K _ _ asl u _ hR1)
  · refine v_if_ne X (tgt := 2976) dL_law_2961 rfl 2964 rfl (a := some ()) (b := none) (o := ()) (if_neg (hcd_ne h0 (by decide))) (fun _ => ?_) (fun h => nomatch h)
    refine v_goto X (tgt := 3452) dL_law_2976 rfl ?_
    refine v_sub (lv' := [(0, .ref b), (1, .ref (ad 0)), (2, .ref (am 0)), (3, .ref ao), (4, .int (nlaw n))]) [2, 3, 4, 5, 6] rfl ?_
    exact v_widen (by omega) (by omega) (K _ _ asl u _ hR1)
set_option maxRecDepth 100000 in
set_option maxHeartbeats 4000000 in
theorem w_55 (l : Launch) {G : (Nat → Prop) → State → Heap → Prop} (hG : vG G) (hl0 : l.stackTraces = false) (hNC : ∀ (A : Nat → Prop) (U : State) (H : Heap), G A U H → ∀ q ∈ ncL, va_Nc q.1 q.2 U) (D : va_G) (c9 : Nat → ClassId) (sk sv : Nat → Nat) (hGU : ∀ (A : Nat → Prop) (U : State) (H : Heap), G A U H → vU sk sv A U H) (ad am : Nat → Nat) (ao b L : Nat) (xs : Nat → Int32) {p : Program} {e : Env} {s : State} {mm : MethodId} {args : Array Value} {below : List Frame} {meth : Method} {c : Code} {A : Nat → Prop} {Q : State → Prop} (X : vX p s mm args meth c cL_law 9 (some .boolean) RL (Cond.tt :: Wg) D (tyA c9) G A) (hX : va_X b L xs s s.heap) (hbl : b < s.heap.size) (hbA : ¬ A b) (REL : FX → FM → Prop) (hk : H55 REL) (n : Nat) (hn : n + 6 ≤ L) (hL : L ≤ 3072) (x : FX) (m : FM) (hR : REL x m) (asl apa : Nat → Nat → Nat) (fo : Nat → Int64) (nC nS : Nat) (hC : nC + 14 ≤ 601024) (hS : nS + 481 ≤ 7293034) (K : ∀ (x' : FX) (m' : FM) (asl' apa' : Nat → Nat → Nat) (fo' : Nat → Int64), REL x' m' → vW p l e room_1 s mm args below meth c 9 D A (wLF c9 x'.sl asl' x'.pa apa' ao fo' (wMf am c9 m')) (nC + 14) (nS + 481) Q (wXf ad c9 x' asl' apa') 3452 [(0, .ref b), (1, .ref (ad 0)), (2, .ref (am 0)), (3, .ref ao), (4, .int (nlaw n))] []) : vW p l e room_1 s mm args below meth c 9 D A (wLF c9 x.sl asl x.pa apa ao fo (wMf am c9 m)) nC nS Q (wXf ad c9 x asl apa) 2979 [(0, .ref b), (1, .ref (ad 0)), (2, .ref (am 0)), (3, .ref ao), (4, .int (nlaw n))] [] := by
  obtain ⟨ox, om, hx, h0, hm, hv, hR1⟩ := hk x m hR
  refine v_aload_n X dL_law_2979 1 rfl rfl 2980 rfl ?_
  refine v_tcallVi X (S := Nat → Nat → Nat) (C := RX11) (ci := 10) (T := TX11) (As := []) (rest := []) (ws' := fun u => wX11 ad c9 ox.2.2.1 ox.2.2.2.1 x.i_count x.i_cells x.o_count x.o_cells x.p_start x.p_end x.p_kind x.p_value x.p_error x.p_errorAt x.p_d_time x.p_d_tolerance x.p_d_seed x.p_d_madeTickets x.p_d_cheesesOfText x.p_d_R_rows x.p_d_R_cells x.p_d_U_rows x.p_d_U_cells x.p_d_S_rows x.p_d_S_cells x.p_d_T_rows x.p_d_T_cells x.p_d_E_rows x.p_d_E_cells x.s_time x.s_tolerance x.s_seed x.s_madeTickets x.s_cheesesOfText x.s_R_rows x.s_R_cells x.s_U_rows x.s_U_cells x.s_S_rows x.s_S_cells ox.2.2.2.2.1 ox.2.2.2.2.2.1 x.s_E_rows x.s_E_cells x.sl asl ox.2.2.2.2.2.2 u) (F' := fun u => wLF c9 x.sl asl ox.2.2.2.2.2.2 u ao fo (wMf am c9 m)) (c_X11_sweep l hG hl0 D c9 sk sv hGU ad x.nextPast x.pastCount x.i_count x.i_cells x.o_count x.o_cells x.p_start x.p_end x.p_kind x.p_value x.p_error x.p_errorAt x.p_d_time x.p_d_tolerance x.p_d_seed x.p_d_madeTickets x.p_d_cheesesOfText x.p_d_R_rows x.p_d_R_cells x.p_d_U_rows x.p_d_U_cells x.p_d_S_rows x.p_d_S_cells x.p_d_T_rows x.p_d_T_cells x.p_d_E_rows x.p_d_E_cells x.s_time x.s_tolerance x.s_seed x.s_madeTickets x.s_cheesesOfText x.s_R_rows x.s_R_cells x.s_U_rows x.s_U_cells x.s_S_rows x.s_S_cells x.s_T_rows x.s_T_cells x.s_E_rows x.s_E_cells x.sl asl x.pa apa (F0 := wout c9 ao fo :: wMf am c9 m) hx) 0 (gV wbd_408 wbd_409 wbd_410 wbd_30 wbd_411) rfl rfl rfl ⟨rfl, pd_X11_sweep⟩ ⟨Nat.le_of_ble_eq_true rfl, Nat.le_of_ble_eq_true rfl⟩ 0 rfl rfl rfl rfl (Nat.le_of_ble_eq_true rfl) ⟨show nC + 11 ≤ 601024 by omega, show nS + 463 ≤ 7293034 by omega⟩ (fun _ => rfl) dL_law_2980 2983 rfl (fun _ u _ => ?_) (fun h => absurd h0 h)
  refine v_toM ?_
  refine v_aload_n X dL_law_2983 2 rfl rfl 2984 rfl ?_
  refine v_callVi X (C := RX12) (ci := 11) (T := TX12) (As := []) (rest := [.int ox.2.1]) (ws' := wX12 am c9 om.2.1 om.2.2.1 om.2.2.2.1 m.m_inputLength m.m_position m.m_start m.m_token m.m_value m.m_letters m.m_code m.m_place m.m_outputLength om.2.2.2.2.1 m.m_parsed m.m_tried om.2.2.2.2.2 m.m_slots m.m_kept m.m_away m.m_input m.m_halfway m.m_output) (c_X12_sweep l hG D c9 am m.m_undoable m.m_undoStart m.m_thrown m.m_inputLength m.m_position m.m_start m.m_token m.m_value m.m_letters m.m_code m.m_place m.m_outputLength m.m_s m.m_parsed m.m_tried m.m_remembered m.m_slots m.m_kept m.m_away m.m_input m.m_halfway m.m_output  hm) 0 (gV wbd_412 wbd_413 wbd_414 wbd_7 wbd_415) rfl rfl rfl ⟨rfl, pd_X12_sweep⟩ ⟨Nat.le_of_ble_eq_true rfl, Nat.le_of_ble_eq_true rfl⟩ 0 rfl rfl rfl rfl (Nat.le_of_ble_eq_true rfl) ⟨show nC + 11 + 0 ≤ 601024 by omega, show nS + 463 + 0 ≤ 7293034 by omega⟩ [0, 1, 2, 3, 4, 5, 6, 7, 8, 9, 10] [] [0, 1, 2, 3, 4, 5, 6, 7, 8, 9, 10] rfl rfl rfl rfl dL_law_2984 2987 rfl ?_
  refine v_toX ?_
  refine v_icmp_eq X (tgt := 3452) dL_law_2987 rfl 2990 rfl (a := some ()) (b := none) (o := ()) (if_pos hv) (fun _ => ?_) (fun h => nomatch h)
  exact v_widen (by omega) (by omega) (K _ _ asl u _ hR1)
set_option maxRecDepth 100000 in
set_option maxHeartbeats 4000000 in
theorem w_56 (l : Launch) {G : (Nat → Prop) → State → Heap → Prop} (hG : vG G) (hl0 : l.stackTraces = false) (hNC : ∀ (A : Nat → Prop) (U : State) (H : Heap), G A U H → ∀ q ∈ ncL, va_Nc q.1 q.2 U) (D : va_G) (c9 : Nat → ClassId) (sk sv : Nat → Nat) (hGU : ∀ (A : Nat → Prop) (U : State) (H : Heap), G A U H → vU sk sv A U H) (ad am : Nat → Nat) (ao b L : Nat) (xs : Nat → Int32) {p : Program} {e : Env} {s : State} {mm : MethodId} {args : Array Value} {below : List Frame} {meth : Method} {c : Code} {A : Nat → Prop} {Q : State → Prop} (X : vX p s mm args meth c cL_law 9 (some .boolean) RL (Cond.tt :: Wg) D (tyA c9) G A) (hX : va_X b L xs s s.heap) (hbl : b < s.heap.size) (hbA : ¬ A b) (REL : FX → FM → Prop) (hk : H56 REL) (n : Nat) (hn : n + 6 ≤ L) (hL : L ≤ 3072) (x : FX) (m : FM) (hR : REL x m) (asl apa : Nat → Nat → Nat) (fo : Nat → Int64) (nC nS : Nat) (hC : nC + 14 ≤ 601024) (hS : nS + 481 ≤ 7293034) (K : ∀ (x' : FX) (m' : FM) (asl' apa' : Nat → Nat → Nat) (fo' : Nat → Int64), REL x' m' → vW p l e room_1 s mm args below meth c 9 D A (wLF c9 x'.sl asl' x'.pa apa' ao fo' (wMf am c9 m')) (nC + 14) (nS + 481) Q (wXf ad c9 x' asl' apa') 3452 [(0, .ref b), (1, .ref (ad 0)), (2, .ref (am 0)), (3, .ref ao), (4, .int (nlaw n))] []) : vW p l e room_1 s mm args below meth c 9 D A (wLF c9 x.sl asl x.pa apa ao fo (wMf am c9 m)) nC nS Q (wXf ad c9 x asl apa) 2992 [(0, .ref b), (1, .ref (ad 0)), (2, .ref (am 0)), (3, .ref ao), (4, .int (nlaw n))] [] := by
  obtain ⟨ox, om, hx, hex, hm, ht, hv, hR1⟩ := hk x m hR (xs (nlaw n + 1).toNatClampNeg) (xs (nlaw n + 2).toNatClampNeg)
  refine v_aload_n X dL_law_2992 1 rfl rfl 2993 rfl ?_
  refine v_aload_n X dL_law_2993 0 rfl rfl 2994 rfl ?_
  refine v_iload X dL_law_2994 4 rfl 2996 rfl ?_
  refine v_iconst X dL_law_2996 ic_1 2997 rfl ?_
  refine v_iadd X dL_law_2997 2998 rfl ?_
  refine v_sld X hX hbl hbA (sc_in hn hL 1 (by decide)) dL_law_2998 2999 rfl ?_
  refine v_aload_n X dL_law_2999 0 rfl rfl 3000 rfl ?_
  refine v_iload X dL_law_3000 4 rfl 3002 rfl ?_
  refine v_iconst X dL_law_3002 ic_2 3003 rfl ?_
  refine v_iadd X dL_law_3003 3004 rfl ?_
  refine v_sld X hX hbl hbA (sc_in hn hL 2 (by decide)) dL_law_3004 3005 rfl ?_
  refine v_aload_n X dL_law_3005 3 rfl rfl 3006 rfl ?_
  refine v_hcallS X (S := Nat → Nat → Nat) (As := [.ref (ad 0), .int (xs (nlaw n + 1).toNatClampNeg), .int (xs (nlaw n + 2).toNatClampNeg), .ref ao]) (rest := []) (ws' := fun u => wX11 ad c9 ox.2.2.1 ox.2.2.2.1 x.i_count x.i_cells x.o_count x.o_cells x.p_start x.p_end x.p_kind x.p_value x.p_error x.p_errorAt x.p_d_time x.p_d_tolerance x.p_d_seed x.p_d_madeTickets x.p_d_cheesesOfText x.p_d_R_rows x.p_d_R_cells x.p_d_U_rows x.p_d_U_cells x.p_d_S_rows x.p_d_S_cells x.p_d_T_rows x.p_d_T_cells x.p_d_E_rows x.p_d_E_cells x.s_time x.s_tolerance x.s_seed x.s_madeTickets x.s_cheesesOfText x.s_R_rows x.s_R_cells x.s_U_rows ox.2.2.2.2.1 x.s_S_rows x.s_S_cells x.s_T_rows x.s_T_cells x.s_E_rows x.s_E_cells x.sl asl ox.2.2.2.2.2 u) (F' := fun u => wLF c9 x.sl asl ox.2.2.2.2.2 u ao (hout ox.1 fo ox.2.1.toInt64) (wMf am c9 m)) (c_L_setPassword l hG hl0 hNC D c9 sk sv hGU ad x.nextPast x.pastCount x.i_count x.i_cells x.o_count x.o_cells x.p_start x.p_end x.p_kind x.p_value x.p_error x.p_errorAt x.p_d_time x.p_d_tolerance x.p_d_seed x.p_d_madeTickets x.p_d_cheesesOfText x.p_d_R_rows x.p_d_R_cells x.p_d_U_rows x.p_d_U_cells x.p_d_S_rows x.p_d_S_cells x.p_d_T_rows x.p_d_T_cells x.p_d_E_rows x.p_d_E_cells x.s_time x.s_tolerance x.s_seed x.s_madeTickets x.s_cheesesOfText x.s_R_rows x.s_R_cells x.s_U_rows x.s_U_cells x.s_S_rows x.s_S_cells x.s_T_rows x.s_T_cells x.s_E_rows x.s_E_cells x.sl asl x.pa apa ao fo (xs (nlaw n + 1).toNatClampNeg) (xs (nlaw n + 2).toNatClampNeg) hx hex) 4 (gS wbd_416 wbd_417 wbd_2 wbd_418) rfl rfl rfl pd_L_setPassword ⟨Nat.le_of_ble_eq_true rfl, Nat.le_of_ble_eq_true rfl⟩ rfl rfl (Nat.le_of_ble_eq_true rfl) ⟨show nC + 13 ≤ 601024 by omega, show nS + 475 ≤ 7293034 by omega⟩ (fun _ => rfl) dL_law_3006 3009 rfl (fun u _ => ?_)
  refine v_istore X (lv' := [(5, .int (hcd [1, 2] ox.1)), (0, .ref b), (1, .ref (ad 0)), (2, .ref (am 0)), (3, .ref ao), (4, .int (nlaw n))]) dL_law_3009 (by decide) rfl 3011 rfl ?_
  refine v_toM ?_
  refine v_aload_n X dL_law_3011 3 rfl rfl 3012 rfl ?_
  refine v_aload_n X dL_law_3012 1 rfl rfl 3013 rfl ?_
  refine v_iload X dL_law_3013 5 rfl 3015 rfl ?_
  refine v_iconst X dL_law_3015 ic_1 3016 rfl ?_
  refine v_iadd X dL_law_3016 3017 rfl ?_
  refine v_sld X hX hbl hbA (sc_in hn hL 1 (by decide)) dL_law_3017 3018 rfl ?_
  refine v_aload_n X dL_law_3018 1 rfl rfl 3019 rfl ?_
  refine v_iload X dL_law_3019 5 rfl 3021 rfl ?_
  refine v_iconst X dL_law_3021 ic_2 3022 rfl ?_
  refine v_iadd X dL_law_3022 3023 rfl ?_
  refine v_sld X hX hbl hbA (sc_in hn hL 2 (by decide)) dL_law_3023 3024 rfl ?_
  refine v_callVi X (C := RX12) (ci := 11) (T := TX12) (As := [.int (xs (nlaw n + 1).toNatClampNeg), .int (xs (nlaw n + 2).toNatClampNeg)]) (rest := []) (ws' := wX12 am c9 om.2.1 om.2.2.1 om.2.2.2.1 m.m_inputLength m.m_position m.m_start m.m_token m.m_value m.m_letters m.m_code m.m_place m.m_outputLength om.2.2.2.2.1 m.m_parsed m.m_tried om.2.2.2.2.2 m.m_slots m.m_kept m.m_away m.m_input m.m_halfway m.m_output) (c_X12_setPassword l hG D c9 am m.m_undoable m.m_undoStart m.m_thrown m.m_inputLength m.m_position m.m_start m.m_token m.m_value m.m_letters m.m_code m.m_place m.m_outputLength m.m_s m.m_parsed m.m_tried m.m_remembered m.m_slots m.m_kept m.m_away m.m_input m.m_halfway m.m_output (xs (nlaw n + 1).toNatClampNeg) (xs (nlaw n + 2).toNatClampNeg) hm) 2 (gV wbd_419 wbd_420 wbd_421 wbd_7 wbd_422) rfl rfl rfl ⟨rfl, pd_X12_setPassword⟩ ⟨Nat.le_of_ble_eq_true rfl, Nat.le_of_ble_eq_true rfl⟩ 0 rfl rfl rfl rfl (Nat.le_of_ble_eq_true rfl) ⟨show nC + 13 + 0 ≤ 601024 by omega, show nS + 475 + 0 ≤ 7293034 by omega⟩ [0, 1, 2, 3, 4, 5, 6, 7, 8, 9, 10] [] [0, 1, 2, 3, 4, 5, 6, 7, 8, 9, 10] rfl rfl rfl rfl dL_law_3024 3027 rfl ?_
  refine v_istore X (lv' := [(6, .int om.1), (5, .int (hcd [1, 2] ox.1)), (0, .ref b), (1, .ref (ad 0)), (2, .ref (am 0)), (3, .ref ao), (4, .int (nlaw n))]) dL_law_3027 (by decide) rfl 3029 rfl ?_
  refine v_aload_n X dL_law_3029 4 rfl rfl 3030 rfl ?_
  refine v_callVi X (C := RX12) (ci := 11) (T := TX12) (As := []) (rest := []) (ws' := wX12 am c9 om.2.1 om.2.2.1 om.2.2.2.1 m.m_inputLength m.m_position m.m_start m.m_token m.m_value m.m_letters m.m_code m.m_place m.m_outputLength om.2.2.2.2.1 m.m_parsed m.m_tried om.2.2.2.2.2 m.m_slots m.m_kept m.m_away m.m_input m.m_halfway m.m_output) (c_X12_thrown l hG D c9 am om.2.1 om.2.2.1 om.2.2.2.1 m.m_inputLength m.m_position m.m_start m.m_token m.m_value m.m_letters m.m_code m.m_place m.m_outputLength om.2.2.2.2.1 m.m_parsed m.m_tried om.2.2.2.2.2 m.m_slots m.m_kept m.m_away m.m_input m.m_halfway m.m_output  rfl) 0 (gV wbd_9 wbd_10 wbd_11 wbd_7 wbd_12) rfl rfl rfl ⟨rfl, pd_X12_thrown⟩ ⟨Nat.le_of_ble_eq_true rfl, Nat.le_of_ble_eq_true rfl⟩ 0 rfl rfl rfl rfl (Nat.le_of_ble_eq_true rfl) ⟨show nC + 13 + 0 ≤ 601024 by omega, show nS + 475 + 0 ≤ 7293034 by omega⟩ [0, 1, 2, 3, 4, 5, 6, 7, 8, 9, 10] [] [0, 1, 2, 3, 4, 5, 6, 7, 8, 9, 10] rfl rfl rfl rfl dL_law_3030 3033 rfl ?_
  refine v_iload X dL_law_3033 1 rfl 3035 rfl ?_
  refine v_icmp_eq X (tgt := 3040) dL_law_3035 rfl 3038 rfl (a := some ()) (b := none) (o := ()) (if_pos ht) (fun _ => ?_) (fun h => nomatch h)
  refine v_toX ?_
  refine v_iload X dL_law_3040 1 rfl 3042 rfl ?_
  by_cases h0 : ox.1 = 0
  · refine v_if_ne X (tgt := 3057) dL_law_3042 rfl 3045 rfl (a := none) (b := some ()) (o := ()) (if_pos (by rw [h0]; rfl)) (fun h => nomatch h) (fun _ => ?_)
    refine v_aload_n X dL_law_3045 5 rfl rfl 3046 rfl ?_
    refine v_iconst X dL_law_3046 ic_0 3047 rfl ?_
    refine v_outld X dL_law_3047 3048 rfl ?_
    refine v_iload X dL_law_3048 0 rfl 3050 rfl ?_
    refine v_i2l X dL_law_3050 3051 rfl ?_
    refine v_lcmp X dL_law_3051 3052 rfl ?_
    refine v_if_eq X (tgt := 3057) dL_law_3052 rfl 3055 rfl (a := some ()) (b := none) (o := ()) (if_pos (by rw [hout, if_pos h0, ← hv h0]; exact lg_cmp_self _)) (fun _ => ?_) (fun h => nomatch h)
    refine v_goto X (tgt := 3452) dL_law_3057 rfl ?_
    refine v_sub (lv' := [(0, .ref b), (1, .ref (ad 0)), (2, .ref (am 0)), (3, .ref ao), (4, .int (nlaw n))]) [2, 3, 4, 5, 6] rfl ?_
    exact v_widen (by omega) (by omega) (K _ _ asl u _ hR1)
  · refine v_if_ne X (tgt := 3057) dL_law_3042 rfl 3045 rfl (a := some ()) (b := none) (o := ()) (if_neg (hcd_ne h0 (by decide))) (fun _ => ?_) (fun h => nomatch h)
    refine v_goto X (tgt := 3452) dL_law_3057 rfl ?_
    refine v_sub (lv' := [(0, .ref b), (1, .ref (ad 0)), (2, .ref (am 0)), (3, .ref ao), (4, .int (nlaw n))]) [2, 3, 4, 5, 6] rfl ?_
    exact v_widen (by omega) (by omega) (K _ _ asl u _ hR1)
set_option maxRecDepth 100000 in
set_option maxHeartbeats 4000000 in
theorem w_57 (l : Launch) {G : (Nat → Prop) → State → Heap → Prop} (hG : vG G) (hl0 : l.stackTraces = false) (hNC : ∀ (A : Nat → Prop) (U : State) (H : Heap), G A U H → ∀ q ∈ ncL, va_Nc q.1 q.2 U) (D : va_G) (c9 : Nat → ClassId) (sk sv : Nat → Nat) (hGU : ∀ (A : Nat → Prop) (U : State) (H : Heap), G A U H → vU sk sv A U H) (ad am : Nat → Nat) (ao b L : Nat) (xs : Nat → Int32) {p : Program} {e : Env} {s : State} {mm : MethodId} {args : Array Value} {below : List Frame} {meth : Method} {c : Code} {A : Nat → Prop} {Q : State → Prop} (X : vX p s mm args meth c cL_law 9 (some .boolean) RL (Cond.tt :: Wg) D (tyA c9) G A) (hX : va_X b L xs s s.heap) (hbl : b < s.heap.size) (hbA : ¬ A b) (REL : FX → FM → Prop) (hk : H57 REL) (n : Nat) (hn : n + 6 ≤ L) (hL : L ≤ 3072) (x : FX) (m : FM) (hR : REL x m) (asl apa : Nat → Nat → Nat) (fo : Nat → Int64) (nC nS : Nat) (hC : nC + 14 ≤ 601024) (hS : nS + 481 ≤ 7293034) (K : ∀ (x' : FX) (m' : FM) (asl' apa' : Nat → Nat → Nat) (fo' : Nat → Int64), REL x' m' → vW p l e room_1 s mm args below meth c 9 D A (wLF c9 x'.sl asl' x'.pa apa' ao fo' (wMf am c9 m')) (nC + 14) (nS + 481) Q (wXf ad c9 x' asl' apa') 3452 [(0, .ref b), (1, .ref (ad 0)), (2, .ref (am 0)), (3, .ref ao), (4, .int (nlaw n))] []) : vW p l e room_1 s mm args below meth c 9 D A (wLF c9 x.sl asl x.pa apa ao fo (wMf am c9 m)) nC nS Q (wXf ad c9 x asl apa) 3060 [(0, .ref b), (1, .ref (ad 0)), (2, .ref (am 0)), (3, .ref ao), (4, .int (nlaw n))] [] := by
  obtain ⟨ox, om, hx, hex, hm, ht, hv, hR1⟩ := hk x m hR (xs (nlaw n + 1).toNatClampNeg) (xs (nlaw n + 2).toNatClampNeg)
  refine v_aload_n X dL_law_3060 1 rfl rfl 3061 rfl ?_
  refine v_aload_n X dL_law_3061 0 rfl rfl 3062 rfl ?_
  refine v_iload X dL_law_3062 4 rfl 3064 rfl ?_
  refine v_iconst X dL_law_3064 ic_1 3065 rfl ?_
  refine v_iadd X dL_law_3065 3066 rfl ?_
  refine v_sld X hX hbl hbA (sc_in hn hL 1 (by decide)) dL_law_3066 3067 rfl ?_
  refine v_aload_n X dL_law_3067 0 rfl rfl 3068 rfl ?_
  refine v_iload X dL_law_3068 4 rfl 3070 rfl ?_
  refine v_iconst X dL_law_3070 ic_2 3071 rfl ?_
  refine v_iadd X dL_law_3071 3072 rfl ?_
  refine v_sld X hX hbl hbA (sc_in hn hL 2 (by decide)) dL_law_3072 3073 rfl ?_
  refine v_aload_n X dL_law_3073 3 rfl rfl 3074 rfl ?_
  refine v_hcallS X (S := Nat → Nat → Nat) (As := [.ref (ad 0), .int (xs (nlaw n + 1).toNatClampNeg), .int (xs (nlaw n + 2).toNatClampNeg), .ref ao]) (rest := []) (ws' := fun u => wX11 ad c9 ox.2.2.1 ox.2.2.2.1 x.i_count x.i_cells x.o_count x.o_cells x.p_start x.p_end x.p_kind x.p_value x.p_error x.p_errorAt x.p_d_time x.p_d_tolerance x.p_d_seed x.p_d_madeTickets x.p_d_cheesesOfText x.p_d_R_rows x.p_d_R_cells x.p_d_U_rows x.p_d_U_cells x.p_d_S_rows x.p_d_S_cells x.p_d_T_rows x.p_d_T_cells x.p_d_E_rows x.p_d_E_cells x.s_time x.s_tolerance x.s_seed x.s_madeTickets x.s_cheesesOfText x.s_R_rows x.s_R_cells x.s_U_rows ox.2.2.2.2.1 x.s_S_rows x.s_S_cells x.s_T_rows x.s_T_cells x.s_E_rows x.s_E_cells x.sl asl ox.2.2.2.2.2 u) (F' := fun u => wLF c9 x.sl asl ox.2.2.2.2.2 u ao (hout ox.1 fo ox.2.1.toInt64) (wMf am c9 m)) (c_L_setClock l hG hl0 hNC D c9 sk sv hGU ad x.nextPast x.pastCount x.i_count x.i_cells x.o_count x.o_cells x.p_start x.p_end x.p_kind x.p_value x.p_error x.p_errorAt x.p_d_time x.p_d_tolerance x.p_d_seed x.p_d_madeTickets x.p_d_cheesesOfText x.p_d_R_rows x.p_d_R_cells x.p_d_U_rows x.p_d_U_cells x.p_d_S_rows x.p_d_S_cells x.p_d_T_rows x.p_d_T_cells x.p_d_E_rows x.p_d_E_cells x.s_time x.s_tolerance x.s_seed x.s_madeTickets x.s_cheesesOfText x.s_R_rows x.s_R_cells x.s_U_rows x.s_U_cells x.s_S_rows x.s_S_cells x.s_T_rows x.s_T_cells x.s_E_rows x.s_E_cells x.sl asl x.pa apa ao fo (xs (nlaw n + 1).toNatClampNeg) (xs (nlaw n + 2).toNatClampNeg) hx hex) 4 (gS wbd_423 wbd_424 wbd_2 wbd_425) rfl rfl rfl pd_L_setClock ⟨Nat.le_of_ble_eq_true rfl, Nat.le_of_ble_eq_true rfl⟩ rfl rfl (Nat.le_of_ble_eq_true rfl) ⟨show nC + 13 ≤ 601024 by omega, show nS + 475 ≤ 7293034 by omega⟩ (fun _ => rfl) dL_law_3074 3077 rfl (fun u _ => ?_)
  refine v_istore X (lv' := [(5, .int (hcd [1, 2] ox.1)), (0, .ref b), (1, .ref (ad 0)), (2, .ref (am 0)), (3, .ref ao), (4, .int (nlaw n))]) dL_law_3077 (by decide) rfl 3079 rfl ?_
  refine v_toM ?_
  refine v_aload_n X dL_law_3079 3 rfl rfl 3080 rfl ?_
  refine v_aload_n X dL_law_3080 1 rfl rfl 3081 rfl ?_
  refine v_iload X dL_law_3081 5 rfl 3083 rfl ?_
  refine v_iconst X dL_law_3083 ic_1 3084 rfl ?_
  refine v_iadd X dL_law_3084 3085 rfl ?_
  refine v_sld X hX hbl hbA (sc_in hn hL 1 (by decide)) dL_law_3085 3086 rfl ?_
  refine v_aload_n X dL_law_3086 1 rfl rfl 3087 rfl ?_
  refine v_iload X dL_law_3087 5 rfl 3089 rfl ?_
  refine v_iconst X dL_law_3089 ic_2 3090 rfl ?_
  refine v_iadd X dL_law_3090 3091 rfl ?_
  refine v_sld X hX hbl hbA (sc_in hn hL 2 (by decide)) dL_law_3091 3092 rfl ?_
  refine v_callVi X (C := RX12) (ci := 11) (T := TX12) (As := [.int (xs (nlaw n + 1).toNatClampNeg), .int (xs (nlaw n + 2).toNatClampNeg)]) (rest := []) (ws' := wX12 am c9 om.2.1 om.2.2.1 om.2.2.2.1 m.m_inputLength m.m_position m.m_start m.m_token m.m_value m.m_letters m.m_code m.m_place m.m_outputLength om.2.2.2.2.1 m.m_parsed m.m_tried om.2.2.2.2.2 m.m_slots m.m_kept m.m_away m.m_input m.m_halfway m.m_output) (c_X12_setClock l hG D c9 am m.m_undoable m.m_undoStart m.m_thrown m.m_inputLength m.m_position m.m_start m.m_token m.m_value m.m_letters m.m_code m.m_place m.m_outputLength m.m_s m.m_parsed m.m_tried m.m_remembered m.m_slots m.m_kept m.m_away m.m_input m.m_halfway m.m_output (xs (nlaw n + 1).toNatClampNeg) (xs (nlaw n + 2).toNatClampNeg) hm) 2 (gV wbd_426 wbd_427 wbd_428 wbd_7 wbd_429) rfl rfl rfl ⟨rfl, pd_X12_setClock⟩ ⟨Nat.le_of_ble_eq_true rfl, Nat.le_of_ble_eq_true rfl⟩ 0 rfl rfl rfl rfl (Nat.le_of_ble_eq_true rfl) ⟨show nC + 13 + 0 ≤ 601024 by omega, show nS + 475 + 0 ≤ 7293034 by omega⟩ [0, 1, 2, 3, 4, 5, 6, 7, 8, 9, 10] [] [0, 1, 2, 3, 4, 5, 6, 7, 8, 9, 10] rfl rfl rfl rfl dL_law_3092 3095 rfl ?_
  refine v_istore X (lv' := [(6, .int om.1), (5, .int (hcd [1, 2] ox.1)), (0, .ref b), (1, .ref (ad 0)), (2, .ref (am 0)), (3, .ref ao), (4, .int (nlaw n))]) dL_law_3095 (by decide) rfl 3097 rfl ?_
  refine v_aload_n X dL_law_3097 4 rfl rfl 3098 rfl ?_
  refine v_callVi X (C := RX12) (ci := 11) (T := TX12) (As := []) (rest := []) (ws' := wX12 am c9 om.2.1 om.2.2.1 om.2.2.2.1 m.m_inputLength m.m_position m.m_start m.m_token m.m_value m.m_letters m.m_code m.m_place m.m_outputLength om.2.2.2.2.1 m.m_parsed m.m_tried om.2.2.2.2.2 m.m_slots m.m_kept m.m_away m.m_input m.m_halfway m.m_output) (c_X12_thrown l hG D c9 am om.2.1 om.2.2.1 om.2.2.2.1 m.m_inputLength m.m_position m.m_start m.m_token m.m_value m.m_letters m.m_code m.m_place m.m_outputLength om.2.2.2.2.1 m.m_parsed m.m_tried om.2.2.2.2.2 m.m_slots m.m_kept m.m_away m.m_input m.m_halfway m.m_output  rfl) 0 (gV wbd_9 wbd_10 wbd_11 wbd_7 wbd_12) rfl rfl rfl ⟨rfl, pd_X12_thrown⟩ ⟨Nat.le_of_ble_eq_true rfl, Nat.le_of_ble_eq_true rfl⟩ 0 rfl rfl rfl rfl (Nat.le_of_ble_eq_true rfl) ⟨show nC + 13 + 0 ≤ 601024 by omega, show nS + 475 + 0 ≤ 7293034 by omega⟩ [0, 1, 2, 3, 4, 5, 6, 7, 8, 9, 10] [] [0, 1, 2, 3, 4, 5, 6, 7, 8, 9, 10] rfl rfl rfl rfl dL_law_3098 3101 rfl ?_
  refine v_iload X dL_law_3101 1 rfl 3103 rfl ?_
  refine v_icmp_eq X (tgt := 3108) dL_law_3103 rfl 3106 rfl (a := some ()) (b := none) (o := ()) (if_pos ht) (fun _ => ?_) (fun h => nomatch h)
  refine v_toX ?_
  refine v_iload X dL_law_3108 1 rfl 3110 rfl ?_
  by_cases h0 : ox.1 = 0
  · refine v_if_ne X (tgt := 3125) dL_law_3110 rfl 3113 rfl (a := none) (b := some ()) (o := ()) (if_pos (by rw [h0]; rfl)) (fun h => nomatch h) (fun _ => ?_)
    refine v_aload_n X dL_law_3113 5 rfl rfl 3114 rfl ?_
    refine v_iconst X dL_law_3114 ic_0 3115 rfl ?_
    refine v_outld X dL_law_3115 3116 rfl ?_
    refine v_iload X dL_law_3116 0 rfl 3118 rfl ?_
    refine v_i2l X dL_law_3118 3119 rfl ?_
    refine v_lcmp X dL_law_3119 3120 rfl ?_
    refine v_if_eq X (tgt := 3125) dL_law_3120 rfl 3123 rfl (a := some ()) (b := none) (o := ()) (if_pos (by rw [hout, if_pos h0, ← hv h0]; exact lg_cmp_self _)) (fun _ => ?_) (fun h => nomatch h)
    refine v_goto X (tgt := 3452) dL_law_3125 rfl ?_
    refine v_sub (lv' := [(0, .ref b), (1, .ref (ad 0)), (2, .ref (am 0)), (3, .ref ao), (4, .int (nlaw n))]) [2, 3, 4, 5, 6] rfl ?_
    exact v_widen (by omega) (by omega) (K _ _ asl u _ hR1)
  · refine v_if_ne X (tgt := 3125) dL_law_3110 rfl 3113 rfl (a := some ()) (b := none) (o := ()) (if_neg (hcd_ne h0 (by decide))) (fun _ => ?_) (fun h => nomatch h)
    refine v_goto X (tgt := 3452) dL_law_3125 rfl ?_
    refine v_sub (lv' := [(0, .ref b), (1, .ref (ad 0)), (2, .ref (am 0)), (3, .ref ao), (4, .int (nlaw n))]) [2, 3, 4, 5, 6] rfl ?_
    exact v_widen (by omega) (by omega) (K _ _ asl u _ hR1)
set_option maxRecDepth 100000 in
set_option maxHeartbeats 4000000 in
theorem w_58 (l : Launch) {G : (Nat → Prop) → State → Heap → Prop} (hG : vG G) (hl0 : l.stackTraces = false) (hNC : ∀ (A : Nat → Prop) (U : State) (H : Heap), G A U H → ∀ q ∈ ncL, va_Nc q.1 q.2 U) (D : va_G) (c9 : Nat → ClassId) (sk sv : Nat → Nat) (hGU : ∀ (A : Nat → Prop) (U : State) (H : Heap), G A U H → vU sk sv A U H) (ad am : Nat → Nat) (ao b L : Nat) (xs : Nat → Int32) {p : Program} {e : Env} {s : State} {mm : MethodId} {args : Array Value} {below : List Frame} {meth : Method} {c : Code} {A : Nat → Prop} {Q : State → Prop} (X : vX p s mm args meth c cL_law 9 (some .boolean) RL (Cond.tt :: Wg) D (tyA c9) G A) (hX : va_X b L xs s s.heap) (hbl : b < s.heap.size) (hbA : ¬ A b) (REL : FX → FM → Prop) (hk : H58 REL) (n : Nat) (hn : n + 6 ≤ L) (hL : L ≤ 3072) (x : FX) (m : FM) (hR : REL x m) (asl apa : Nat → Nat → Nat) (fo : Nat → Int64) (nC nS : Nat) (hC : nC + 14 ≤ 601024) (hS : nS + 481 ≤ 7293034) (K : ∀ (x' : FX) (m' : FM) (asl' apa' : Nat → Nat → Nat) (fo' : Nat → Int64), REL x' m' → vW p l e room_1 s mm args below meth c 9 D A (wLF c9 x'.sl asl' x'.pa apa' ao fo' (wMf am c9 m')) (nC + 14) (nS + 481) Q (wXf ad c9 x' asl' apa') 3452 [(0, .ref b), (1, .ref (ad 0)), (2, .ref (am 0)), (3, .ref ao), (4, .int (nlaw n))] []) : vW p l e room_1 s mm args below meth c 9 D A (wLF c9 x.sl asl x.pa apa ao fo (wMf am c9 m)) nC nS Q (wXf ad c9 x asl apa) 3128 [(0, .ref b), (1, .ref (ad 0)), (2, .ref (am 0)), (3, .ref ao), (4, .int (nlaw n))] [] := by
  obtain ⟨ox, om, hx, hex, hm, ht, hv, hR1⟩ := hk x m hR (xs (nlaw n + 1).toNatClampNeg)
  refine v_aload_n X dL_law_3128 1 rfl rfl 3129 rfl ?_
  refine v_aload_n X dL_law_3129 0 rfl rfl 3130 rfl ?_
  refine v_iload X dL_law_3130 4 rfl 3132 rfl ?_
  refine v_iconst X dL_law_3132 ic_1 3133 rfl ?_
  refine v_iadd X dL_law_3133 3134 rfl ?_
  refine v_sld X hX hbl hbA (sc_in hn hL 1 (by decide)) dL_law_3134 3135 rfl ?_
  refine v_aload_n X dL_law_3135 3 rfl rfl 3136 rfl ?_
  refine v_hcallS X (S := Nat → Nat → Nat) (As := [.ref (ad 0), .int (xs (nlaw n + 1).toNatClampNeg), .ref ao]) (rest := []) (ws' := fun u => wX11 ad c9 ox.2.2.1 ox.2.2.2.1 x.i_count x.i_cells x.o_count x.o_cells x.p_start x.p_end x.p_kind x.p_value x.p_error x.p_errorAt x.p_d_time x.p_d_tolerance x.p_d_seed x.p_d_madeTickets x.p_d_cheesesOfText x.p_d_R_rows x.p_d_R_cells x.p_d_U_rows x.p_d_U_cells x.p_d_S_rows x.p_d_S_cells x.p_d_T_rows x.p_d_T_cells x.p_d_E_rows x.p_d_E_cells ox.2.2.2.2.1 x.s_tolerance x.s_seed x.s_madeTickets x.s_cheesesOfText x.s_R_rows x.s_R_cells x.s_U_rows x.s_U_cells x.s_S_rows x.s_S_cells x.s_T_rows x.s_T_cells ox.2.2.2.2.2.1 ox.2.2.2.2.2.2.1 x.sl asl ox.2.2.2.2.2.2.2 u) (F' := fun u => wLF c9 x.sl asl ox.2.2.2.2.2.2.2 u ao (hout ox.1 fo ox.2.1.toInt64) (wMf am c9 m)) (c_L_pass l hG hl0 hNC D c9 sk sv hGU ad x.nextPast x.pastCount x.i_count x.i_cells x.o_count x.o_cells x.p_start x.p_end x.p_kind x.p_value x.p_error x.p_errorAt x.p_d_time x.p_d_tolerance x.p_d_seed x.p_d_madeTickets x.p_d_cheesesOfText x.p_d_R_rows x.p_d_R_cells x.p_d_U_rows x.p_d_U_cells x.p_d_S_rows x.p_d_S_cells x.p_d_T_rows x.p_d_T_cells x.p_d_E_rows x.p_d_E_cells x.s_time x.s_tolerance x.s_seed x.s_madeTickets x.s_cheesesOfText x.s_R_rows x.s_R_cells x.s_U_rows x.s_U_cells x.s_S_rows x.s_S_cells x.s_T_rows x.s_T_cells x.s_E_rows x.s_E_cells x.sl asl x.pa apa ao fo (xs (nlaw n + 1).toNatClampNeg) hx hex) 3 (gS wbd_430 wbd_431 wbd_2 wbd_432) rfl rfl rfl pd_L_pass ⟨Nat.le_of_ble_eq_true rfl, Nat.le_of_ble_eq_true rfl⟩ rfl rfl (Nat.le_of_ble_eq_true rfl) ⟨show nC + 12 ≤ 601024 by omega, show nS + 469 ≤ 7293034 by omega⟩ (fun _ => rfl) dL_law_3136 3139 rfl (fun u _ => ?_)
  refine v_istore X (lv' := [(5, .int (hcd [2] ox.1)), (0, .ref b), (1, .ref (ad 0)), (2, .ref (am 0)), (3, .ref ao), (4, .int (nlaw n))]) dL_law_3139 (by decide) rfl 3141 rfl ?_
  refine v_toM ?_
  refine v_aload_n X dL_law_3141 3 rfl rfl 3142 rfl ?_
  refine v_aload_n X dL_law_3142 1 rfl rfl 3143 rfl ?_
  refine v_iload X dL_law_3143 5 rfl 3145 rfl ?_
  refine v_iconst X dL_law_3145 ic_1 3146 rfl ?_
  refine v_iadd X dL_law_3146 3147 rfl ?_
  refine v_sld X hX hbl hbA (sc_in hn hL 1 (by decide)) dL_law_3147 3148 rfl ?_
  refine v_callVi X (C := RX12) (ci := 11) (T := TX12) (As := [.int (xs (nlaw n + 1).toNatClampNeg)]) (rest := []) (ws' := wX12 am c9 om.2.1 om.2.2.1 om.2.2.2.1 m.m_inputLength m.m_position m.m_start m.m_token m.m_value m.m_letters m.m_code m.m_place m.m_outputLength om.2.2.2.2.1 m.m_parsed m.m_tried om.2.2.2.2.2 m.m_slots m.m_kept m.m_away m.m_input m.m_halfway m.m_output) (c_X12_pass l hG D c9 am m.m_undoable m.m_undoStart m.m_thrown m.m_inputLength m.m_position m.m_start m.m_token m.m_value m.m_letters m.m_code m.m_place m.m_outputLength m.m_s m.m_parsed m.m_tried m.m_remembered m.m_slots m.m_kept m.m_away m.m_input m.m_halfway m.m_output (xs (nlaw n + 1).toNatClampNeg) hm) 1 (gV wbd_433 wbd_434 wbd_435 wbd_7 wbd_436) rfl rfl rfl ⟨rfl, pd_X12_pass⟩ ⟨Nat.le_of_ble_eq_true rfl, Nat.le_of_ble_eq_true rfl⟩ 0 rfl rfl rfl rfl (Nat.le_of_ble_eq_true rfl) ⟨show nC + 12 + 0 ≤ 601024 by omega, show nS + 469 + 0 ≤ 7293034 by omega⟩ [0, 1, 2, 3, 4, 5, 6, 7, 8, 9, 10] [] [0, 1, 2, 3, 4, 5, 6, 7, 8, 9, 10] rfl rfl rfl rfl dL_law_3148 3151 rfl ?_
  refine v_istore X (lv' := [(6, .int om.1), (5, .int (hcd [2] ox.1)), (0, .ref b), (1, .ref (ad 0)), (2, .ref (am 0)), (3, .ref ao), (4, .int (nlaw n))]) dL_law_3151 (by decide) rfl 3153 rfl ?_
  refine v_aload_n X dL_law_3153 4 rfl rfl 3154 rfl ?_
  refine v_callVi X (C := RX12) (ci := 11) (T := TX12) (As := []) (rest := []) (ws' := wX12 am c9 om.2.1 om.2.2.1 om.2.2.2.1 m.m_inputLength m.m_position m.m_start m.m_token m.m_value m.m_letters m.m_code m.m_place m.m_outputLength om.2.2.2.2.1 m.m_parsed m.m_tried om.2.2.2.2.2 m.m_slots m.m_kept m.m_away m.m_input m.m_halfway m.m_output) (c_X12_thrown l hG D c9 am om.2.1 om.2.2.1 om.2.2.2.1 m.m_inputLength m.m_position m.m_start m.m_token m.m_value m.m_letters m.m_code m.m_place m.m_outputLength om.2.2.2.2.1 m.m_parsed m.m_tried om.2.2.2.2.2 m.m_slots m.m_kept m.m_away m.m_input m.m_halfway m.m_output  rfl) 0 (gV wbd_9 wbd_10 wbd_11 wbd_7 wbd_12) rfl rfl rfl ⟨rfl, pd_X12_thrown⟩ ⟨Nat.le_of_ble_eq_true rfl, Nat.le_of_ble_eq_true rfl⟩ 0 rfl rfl rfl rfl (Nat.le_of_ble_eq_true rfl) ⟨show nC + 12 + 0 ≤ 601024 by omega, show nS + 469 + 0 ≤ 7293034 by omega⟩ [0, 1, 2, 3, 4, 5, 6, 7, 8, 9, 10] [] [0, 1, 2, 3, 4, 5, 6, 7, 8, 9, 10] rfl rfl rfl rfl dL_law_3154 3157 rfl ?_
  refine v_iload X dL_law_3157 1 rfl 3159 rfl ?_
  refine v_icmp_eq X (tgt := 3164) dL_law_3159 rfl 3162 rfl (a := some ()) (b := none) (o := ()) (if_pos ht) (fun _ => ?_) (fun h => nomatch h)
  refine v_toX ?_
  refine v_iload X dL_law_3164 1 rfl 3166 rfl ?_
  by_cases h0 : ox.1 = 0
  · refine v_if_ne X (tgt := 3181) dL_law_3166 rfl 3169 rfl (a := none) (b := some ()) (o := ()) (if_pos (by rw [h0]; rfl)) (fun h => nomatch h) (fun _ => ?_)
    refine v_aload_n X dL_law_3169 5 rfl rfl 3170 rfl ?_
    refine v_iconst X dL_law_3170 ic_0 3171 rfl ?_
    refine v_outld X dL_law_3171 3172 rfl ?_
    refine v_iload X dL_law_3172 0 rfl 3174 rfl ?_
    refine v_i2l X dL_law_3174 3175 rfl ?_
    refine v_lcmp X dL_law_3175 3176 rfl ?_
    refine v_if_eq X (tgt := 3181) dL_law_3176 rfl 3179 rfl (a := some ()) (b := none) (o := ()) (if_pos (by rw [hout, if_pos h0, ← hv h0]; exact lg_cmp_self _)) (fun _ => ?_) (fun h => nomatch h)
    refine v_goto X (tgt := 3452) dL_law_3181 rfl ?_
    refine v_sub (lv' := [(0, .ref b), (1, .ref (ad 0)), (2, .ref (am 0)), (3, .ref ao), (4, .int (nlaw n))]) [2, 3, 4, 5, 6] rfl ?_
    exact v_widen (by omega) (by omega) (K _ _ asl u _ hR1)
  · refine v_if_ne X (tgt := 3181) dL_law_3166 rfl 3169 rfl (a := some ()) (b := none) (o := ()) (if_neg (hcd_ne h0 (by decide))) (fun _ => ?_) (fun h => nomatch h)
    refine v_goto X (tgt := 3452) dL_law_3181 rfl ?_
    refine v_sub (lv' := [(0, .ref b), (1, .ref (ad 0)), (2, .ref (am 0)), (3, .ref ao), (4, .int (nlaw n))]) [2, 3, 4, 5, 6] rfl ?_
    exact v_widen (by omega) (by omega) (K _ _ asl u _ hR1)
