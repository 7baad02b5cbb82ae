set_option maxRecDepth 100000 in
set_option maxHeartbeats 4000000 in
theorem w_0 (l : Launch) {G : (Nat → Prop) → State → Heap → Prop} (hG : vG G) (hl0 : l.stackTraces = false) (hNC : ∀ (A : Nat → Prop) (U : State) (H : Heap), G A U H → ∀ q ∈ ncL, va_Nc q.1 q.2 U) (D : va_G) (c9 : Nat → ClassId) (sk sv : Nat → Nat) (hGU : ∀ (A : Nat → Prop) (U : State) (H : Heap), G A U H → vU sk sv A U H) (ad am : Nat → Nat) (ao b L : Nat) (xs : Nat → Int32) {p : Program} {e : Env} {s : State} {mm : MethodId} {args : Array Value} {below : List Frame} {meth : Method} {c : Code} {A : Nat → Prop} {Q : State → Prop} (X : vX p s mm args meth c cL_law 9 (some .boolean) RL (Cond.tt :: Wg) D (tyA c9) G A) (hX : va_X b L xs s s.heap) (hbl : b < s.heap.size) (hbA : ¬ A b) (REL : FX → FM → Prop) (hk : H0 REL) (n : Nat) (hn : n + 6 ≤ L) (hL : L ≤ 3072) (x : FX) (m : FM) (hR : REL x m) (asl apa : Nat → Nat → Nat) (fo : Nat → Int64) (nC nS : Nat) (hC : nC + 14 ≤ 601024) (hS : nS + 481 ≤ 7293034) (K : ∀ (x' : FX) (m' : FM) (asl' apa' : Nat → Nat → Nat) (fo' : Nat → Int64), REL x' m' → vW p l e room_1 s mm args below meth c 9 D A (wLF c9 x'.sl asl' x'.pa apa' ao fo' (wMf am c9 m')) (nC + 14) (nS + 481) Q (wXf ad c9 x' asl' apa') 3452 [(0, .ref b), (1, .ref (ad 0)), (2, .ref (am 0)), (3, .ref ao), (4, .int (nlaw n))] []) : vW p l e room_1 s mm args below meth c 9 D A (wLF c9 x.sl asl x.pa apa ao fo (wMf am c9 m)) nC nS Q (wXf ad c9 x asl apa) 312 [(0, .ref b), (1, .ref (ad 0)), (2, .ref (am 0)), (3, .ref ao), (4, .int (nlaw n))] [] := by
  obtain ⟨ox, om, hx, hex, hm, ht, hv, hR1⟩ := hk x m hR (xs (nlaw n + 1).toNatClampNeg) (xs (nlaw n + 2).toNatClampNeg) (xs (nlaw n + 3).toNatClampNeg) (xs (nlaw n + 4).toNatClampNeg) (xs (nlaw n + 5).toNatClampNeg)
  refine v_aload_n X dL_law_312 1 rfl rfl 313 rfl ?_
  refine v_aload_n X dL_law_313 0 rfl rfl 314 rfl ?_
  refine v_iload X dL_law_314 4 rfl 316 rfl ?_
  refine v_iconst X dL_law_316 ic_1 317 rfl ?_
  refine v_iadd X dL_law_317 318 rfl ?_
  refine v_sld X hX hbl hbA (sc_in hn hL 1 (by decide)) dL_law_318 319 rfl ?_
  refine v_aload_n X dL_law_319 0 rfl rfl 320 rfl ?_
  refine v_iload X dL_law_320 4 rfl 322 rfl ?_
  refine v_iconst X dL_law_322 ic_2 323 rfl ?_
  refine v_iadd X dL_law_323 324 rfl ?_
  refine v_sld X hX hbl hbA (sc_in hn hL 2 (by decide)) dL_law_324 325 rfl ?_
  refine v_aload_n X dL_law_325 0 rfl rfl 326 rfl ?_
  refine v_iload X dL_law_326 4 rfl 328 rfl ?_
  refine v_iconst X dL_law_328 ic_3 329 rfl ?_
  refine v_iadd X dL_law_329 330 rfl ?_
  refine v_sld X hX hbl hbA (sc_in hn hL 3 (by decide)) dL_law_330 331 rfl ?_
  refine v_aload_n X dL_law_331 0 rfl rfl 332 rfl ?_
  refine v_iload X dL_law_332 4 rfl 334 rfl ?_
  refine v_iconst X dL_law_334 ic_4 335 rfl ?_
  refine v_iadd X dL_law_335 336 rfl ?_
  refine v_sld X hX hbl hbA (sc_in hn hL 4 (by decide)) dL_law_336 337 rfl ?_
  refine v_aload_n X dL_law_337 0 rfl rfl 338 rfl ?_
  refine v_iload X dL_law_338 4 rfl 340 rfl ?_
  refine v_iconst X dL_law_340 ic_5 341 rfl ?_
  refine v_iadd X dL_law_341 342 rfl ?_
  refine v_sld X hX hbl hbA (sc_in hn hL 5 (by decide)) dL_law_342 343 rfl ?_
  refine v_aload_n X dL_law_343 3 rfl rfl 344 rfl ?_
  refine v_hcallS X (S := Unit) (As := [.ref (ad 0), .int (xs (nlaw n + 1).toNatClampNeg), .int (xs (nlaw n + 2).toNatClampNeg), .int (xs (nlaw n + 3).toNatClampNeg), .int (xs (nlaw n + 4).toNatClampNeg), .int (xs (nlaw n + 5).toNatClampNeg), .ref ao]) (rest := []) (ws' := fun u => wX11 ad c9 x.nextPast x.pastCount ox.2.2.1 ox.2.2.2 x.o_count x.o_cells x.p_start x.p_end x.p_kind x.p_value x.p_error x.p_errorAt x.p_d_time x.p_d_tolerance x.p_d_seed x.p_d_madeTickets x.p_d_cheesesOfText x.p_d_R_rows x.p_d_R_cells x.p_d_U_rows x.p_d_U_cells x.p_d_S_rows x.p_d_S_cells x.p_d_T_rows x.p_d_T_cells x.p_d_E_rows x.p_d_E_cells x.s_time x.s_tolerance x.s_seed x.s_madeTickets x.s_cheesesOfText x.s_R_rows x.s_R_cells x.s_U_rows x.s_U_cells x.s_S_rows x.s_S_cells x.s_T_rows x.s_T_cells x.s_E_rows x.s_E_cells x.sl asl x.pa apa) (F' := fun u => wLF c9 x.sl asl x.pa apa ao (hout ox.1 fo ox.2.1.toInt64) (wMf am c9 m)) (c_L_appendInput l hG hl0 hNC D c9 sk sv hGU ad x.nextPast x.pastCount x.i_count x.i_cells x.o_count x.o_cells x.p_start x.p_end x.p_kind x.p_value x.p_error x.p_errorAt x.p_d_time x.p_d_tolerance x.p_d_seed x.p_d_madeTickets x.p_d_cheesesOfText x.p_d_R_rows x.p_d_R_cells x.p_d_U_rows x.p_d_U_cells x.p_d_S_rows x.p_d_S_cells x.p_d_T_rows x.p_d_T_cells x.p_d_E_rows x.p_d_E_cells x.s_time x.s_tolerance x.s_seed x.s_madeTickets x.s_cheesesOfText x.s_R_rows x.s_R_cells x.s_U_rows x.s_U_cells x.s_S_rows x.s_S_cells x.s_T_rows x.s_T_cells x.s_E_rows x.s_E_cells x.sl asl x.pa apa ao fo (xs (nlaw n + 1).toNatClampNeg) (xs (nlaw n + 2).toNatClampNeg) (xs (nlaw n + 3).toNatClampNeg) (xs (nlaw n + 4).toNatClampNeg) (xs (nlaw n + 5).toNatClampNeg) hx hex) 7 (gS wbd_0 wbd_1 wbd_2 wbd_3) rfl rfl rfl pd_L_appendInput ⟨Nat.le_of_ble_eq_true rfl, Nat.le_of_ble_eq_true rfl⟩ rfl rfl (Nat.le_of_ble_eq_true rfl) ⟨show nC + 1 ≤ 601024 by omega, show nS + 6 ≤ 7293034 by omega⟩ (fun _ => rfl) dL_law_344 347 rfl (fun u _ => ?_)
  refine v_istore X (lv' := [(5, .int (hcd [3] ox.1)), (0, .ref b), (1, .ref (ad 0)), (2, .ref (am 0)), (3, .ref ao), (4, .int (nlaw n))]) dL_law_347 (by decide) rfl 349 rfl ?_
  refine v_toM ?_
  refine v_aload_n X dL_law_349 3 rfl rfl 350 rfl ?_
  refine v_aload_n X dL_law_350 1 rfl rfl 351 rfl ?_
  refine v_iload X dL_law_351 5 rfl 353 rfl ?_
  refine v_iconst X dL_law_353 ic_1 354 rfl ?_
  refine v_iadd X dL_law_354 355 rfl ?_
  refine v_sld X hX hbl hbA (sc_in hn hL 1 (by decide)) dL_law_355 356 rfl ?_
  refine v_aload_n X dL_law_356 1 rfl rfl 357 rfl ?_
  refine v_iload X dL_law_357 5 rfl 359 rfl ?_
  refine v_iconst X dL_law_359 ic_2 360 rfl ?_
  refine v_iadd X dL_law_360 361 rfl ?_
  refine v_sld X hX hbl hbA (sc_in hn hL 2 (by decide)) dL_law_361 362 rfl ?_
  refine v_aload_n X dL_law_362 1 rfl rfl 363 rfl ?_
  refine v_iload X dL_law_363 5 rfl 365 rfl ?_
  refine v_iconst X dL_law_365 ic_3 366 rfl ?_
  refine v_iadd X dL_law_366 367 rfl ?_
  refine v_sld X hX hbl hbA (sc_in hn hL 3 (by decide)) dL_law_367 368 rfl ?_
  refine v_aload_n X dL_law_368 1 rfl rfl 369 rfl ?_
  refine v_iload X dL_law_369 5 rfl 371 rfl ?_
  refine v_iconst X dL_law_371 ic_4 372 rfl ?_
  refine v_iadd X dL_law_372 373 rfl ?_
  refine v_sld X hX hbl hbA (sc_in hn hL 4 (by decide)) dL_law_373 374 rfl ?_
  refine v_aload_n X dL_law_374 1 rfl rfl 375 rfl ?_
  refine v_iload X dL_law_375 5 rfl 377 rfl ?_
  refine v_iconst X dL_law_377 ic_5 378 rfl ?_
  refine v_iadd X dL_law_378 379 rfl ?_
  refine v_sld X hX hbl hbA (sc_in hn hL 5 (by decide)) dL_law_379 380 rfl ?_
  refine v_callVi X (C := RX12) (ci := 11) (T := TX12) (As := [.int (xs (nlaw n + 1).toNatClampNeg), .int (xs (nlaw n + 2).toNatClampNeg), .int (xs (nlaw n + 3).toNatClampNeg), .int (xs (nlaw n + 4).toNatClampNeg), .int (xs (nlaw n + 5).toNatClampNeg)]) (rest := []) (ws' := wX12 am c9 m.m_undoable m.m_undoStart om.2.1 om.2.2.1 m.m_position m.m_start m.m_token m.m_value m.m_letters m.m_code m.m_place m.m_outputLength m.m_s m.m_parsed m.m_tried m.m_remembered m.m_slots m.m_kept m.m_away om.2.2.2 m.m_halfway m.m_output) (c_X12_appendInput l hG D c9 am m.m_undoable m.m_undoStart m.m_thrown m.m_inputLength m.m_position m.m_start m.m_token m.m_value m.m_letters m.m_code m.m_place m.m_outputLength m.m_s m.m_parsed m.m_tried m.m_remembered m.m_slots m.m_kept m.m_away m.m_input m.m_halfway m.m_output (xs (nlaw n + 1).toNatClampNeg) (xs (nlaw n + 2).toNatClampNeg) (xs (nlaw n + 3).toNatClampNeg) (xs (nlaw n + 4).toNatClampNeg) (xs (nlaw n + 5).toNatClampNeg) hm) 5 (gV wbd_4 wbd_5 wbd_6 wbd_7 wbd_8) rfl rfl rfl ⟨rfl, pd_X12_appendInput⟩ ⟨Nat.le_of_ble_eq_true rfl, Nat.le_of_ble_eq_true rfl⟩ 0 rfl rfl rfl rfl (Nat.le_of_ble_eq_true rfl) ⟨show nC + 1 + 0 ≤ 601024 by omega, show nS + 6 + 0 ≤ 7293034 by omega⟩ [0, 1, 2, 3, 4, 5, 6, 7, 8, 9, 10] [] [0, 1, 2, 3, 4, 5, 6, 7, 8, 9, 10] rfl rfl rfl rfl dL_law_380 383 rfl ?_
  refine v_istore X (lv' := [(6, .int om.1), (5, .int (hcd [3] ox.1)), (0, .ref b), (1, .ref (ad 0)), (2, .ref (am 0)), (3, .ref ao), (4, .int (nlaw n))]) dL_law_383 (by decide) rfl 385 rfl ?_
  refine v_aload_n X dL_law_385 4 rfl rfl 386 rfl ?_
  refine v_callVi X (C := RX12) (ci := 11) (T := TX12) (As := []) (rest := []) (ws' := wX12 am c9 m.m_undoable m.m_undoStart om.2.1 om.2.2.1 m.m_position m.m_start m.m_token m.m_value m.m_letters m.m_code m.m_place m.m_outputLength m.m_s m.m_parsed m.m_tried m.m_remembered m.m_slots m.m_kept m.m_away om.2.2.2 m.m_halfway m.m_output) (c_X12_thrown l hG D c9 am m.m_undoable m.m_undoStart om.2.1 om.2.2.1 m.m_position m.m_start m.m_token m.m_value m.m_letters m.m_code m.m_place m.m_outputLength m.m_s m.m_parsed m.m_tried m.m_remembered m.m_slots m.m_kept m.m_away om.2.2.2 m.m_halfway m.m_output  rfl) 0 (gV wbd_9 wbd_10 wbd_11 wbd_7 wbd_12) rfl rfl rfl ⟨rfl, pd_X12_thrown⟩ ⟨Nat.le_of_ble_eq_true rfl, Nat.le_of_ble_eq_true rfl⟩ 0 rfl rfl rfl rfl (Nat.le_of_ble_eq_true rfl) ⟨show nC + 1 + 0 ≤ 601024 by omega, show nS + 6 + 0 ≤ 7293034 by omega⟩ [0, 1, 2, 3, 4, 5, 6, 7, 8, 9, 10] [] [0, 1, 2, 3, 4, 5, 6, 7, 8, 9, 10] rfl rfl rfl rfl dL_law_386 389 rfl ?_
  refine v_iload X dL_law_389 1 rfl 391 rfl ?_
  refine v_icmp_eq X (tgt := 396) dL_law_391 rfl 394 rfl (a := some ()) (b := none) (o := ()) (if_pos ht) (fun _ => ?_) (fun h => nomatch h)
  refine v_toX ?_
  refine v_iload X dL_law_396 1 rfl 398 rfl ?_
  by_cases h0 : ox.1 = 0
  · refine v_if_ne X (tgt := 413) dL_law_398 rfl 401 rfl (a := none) (b := some ()) (o := ()) (if_pos (by rw [h0]; rfl)) (fun h => nomatch h) (fun _ => ?_)
    refine v_aload_n X dL_law_401 5 rfl rfl 402 rfl ?_
    refine v_iconst X dL_law_402 ic_0 403 rfl ?_
    refine v_outld X dL_law_403 404 rfl ?_
    refine v_iload X dL_law_404 0 rfl 406 rfl ?_
    refine v_i2l X dL_law_406 407 rfl ?_
    refine v_lcmp X dL_law_407 408 rfl ?_
    refine v_if_eq X (tgt := 413) dL_law_408 rfl 411 rfl (a := some ()) (b := none) (o := ()) (if_pos (by rw [hout, if_pos h0, ← hv h0]; exact lg_cmp_self _)) (fun _ => ?_) (fun h => nomatch h)
    refine v_goto X (tgt := 3452) dL_law_413 rfl ?_
    refine v_sub (lv' := [(0, .ref b), (1, .ref (ad 0)), (2, .ref (am 0)), (3, .ref ao), (4, .int (nlaw n))]) [2, 3, 4, 5, 6] rfl ?_
    exact v_widen (by omega) (by omega) (K _ _ asl apa _ hR1)
  · refine v_if_ne X (tgt := 413) dL_law_398 rfl 401 rfl (a := some ()) (b := none) (o := ()) (if_neg (hcd_ne h0 (by decide))) (fun _ => ?_) (fun h => nomatch h)
    refine v_goto X (tgt := 3452) dL_law_413 rfl ?_
    refine v_sub (lv' := [(0, .ref b), (1, .ref (ad 0)), (2, .ref (am 0)), (3, .ref ao), (4, .int (nlaw n))]) [2, 3, 4, 5, 6] rfl ?_
    exact v_widen (by omega) (by omega) (K _ _ asl apa _ hR1)
set_option maxRecDepth 100000 in
set_option maxHeartbeats 4000000 in
theorem w_1 (l : Launch) {G : (Nat → Prop) → State → Heap → Prop} (hG : vG G) (hl0 : l.stackTraces = false) (hNC : ∀ (A : Nat → Prop) (U : State) (H : Heap), G A U H → ∀ q ∈ ncL, va_Nc q.1 q.2 U) (D : va_G) (c9 : Nat → ClassId) (sk sv : Nat → Nat) (hGU : ∀ (A : Nat → Prop) (U : State) (H : Heap), G A U H → vU sk sv A U H) (ad am : Nat → Nat) (ao b L : Nat) (xs : Nat → Int32) {p : Program} {e : Env} {s : State} {mm : MethodId} {args : Array Value} {below : List Frame} {meth : Method} {c : Code} {A : Nat → Prop} {Q : State → Prop} (X : vX p s mm args meth c cL_law 9 (some .boolean) RL (Cond.tt :: Wg) D (tyA c9) G A) (hX : va_X b L xs s s.heap) (hbl : b < s.heap.size) (hbA : ¬ A b) (REL : FX → FM → Prop) (hk : H1 REL) (n : Nat) (hn : n + 6 ≤ L) (hL : L ≤ 3072) (x : FX) (m : FM) (hR : REL x m) (asl apa : Nat → Nat → Nat) (fo : Nat → Int64) (nC nS : Nat) (hC : nC + 14 ≤ 601024) (hS : nS + 481 ≤ 7293034) (K : ∀ (x' : FX) (m' : FM) (asl' apa' : Nat → Nat → Nat) (fo' : Nat → Int64), REL x' m' → vW p l e room_1 s mm args below meth c 9 D A (wLF c9 x'.sl asl' x'.pa apa' ao fo' (wMf am c9 m')) (nC + 14) (nS + 481) Q (wXf ad c9 x' asl' apa') 3452 [(0, .ref b), (1, .ref (ad 0)), (2, .ref (am 0)), (3, .ref ao), (4, .int (nlaw n))] []) : vW p l e room_1 s mm args below meth c 9 D A (wLF c9 x.sl asl x.pa apa ao fo (wMf am c9 m)) nC nS Q (wXf ad c9 x asl apa) 416 [(0, .ref b), (1, .ref (ad 0)), (2, .ref (am 0)), (3, .ref ao), (4, .int (nlaw n))] [] := by
  obtain ⟨ox, om, hx, hex, hm, ht, hv, hR1⟩ := hk x m hR (xs (nlaw n + 1).toNatClampNeg)
  refine v_aload_n X dL_law_416 1 rfl rfl 417 rfl ?_
  refine v_aload_n X dL_law_417 0 rfl rfl 418 rfl ?_
  refine v_iload X dL_law_418 4 rfl 420 rfl ?_
  refine v_iconst X dL_law_420 ic_1 421 rfl ?_
  refine v_iadd X dL_law_421 422 rfl ?_
  refine v_sld X hX hbl hbA (sc_in hn hL 1 (by decide)) dL_law_422 423 rfl ?_
  refine v_aload_n X dL_law_423 3 rfl rfl 424 rfl ?_
  refine v_hcallS X (S := Unit) (As := [.ref (ad 0), .int (xs (nlaw n + 1).toNatClampNeg), .ref ao]) (rest := []) (ws' := fun u => wX11 ad c9 x.nextPast x.pastCount ox.2.2 x.i_cells x.o_count x.o_cells x.p_start x.p_end x.p_kind x.p_value x.p_error x.p_errorAt x.p_d_time x.p_d_tolerance x.p_d_seed x.p_d_madeTickets x.p_d_cheesesOfText x.p_d_R_rows x.p_d_R_cells x.p_d_U_rows x.p_d_U_cells x.p_d_S_rows x.p_d_S_cells x.p_d_T_rows x.p_d_T_cells x.p_d_E_rows x.p_d_E_cells x.s_time x.s_tolerance x.s_seed x.s_madeTickets x.s_cheesesOfText x.s_R_rows x.s_R_cells x.s_U_rows x.s_U_cells x.s_S_rows x.s_S_cells x.s_T_rows x.s_T_cells x.s_E_rows x.s_E_cells x.sl asl x.pa apa) (F' := fun u => wLF c9 x.sl asl x.pa apa ao (hout ox.1 fo ox.2.1.toInt64) (wMf am c9 m)) (c_L_truncateInput l hG hl0 hNC D c9 sk sv hGU ad x.nextPast x.pastCount x.i_count x.i_cells x.o_count x.o_cells x.p_start x.p_end x.p_kind x.p_value x.p_error x.p_errorAt x.p_d_time x.p_d_tolerance x.p_d_seed x.p_d_madeTickets x.p_d_cheesesOfText x.p_d_R_rows x.p_d_R_cells x.p_d_U_rows x.p_d_U_cells x.p_d_S_rows x.p_d_S_cells x.p_d_T_rows x.p_d_T_cells x.p_d_E_rows x.p_d_E_cells x.s_time x.s_tolerance x.s_seed x.s_madeTickets x.s_cheesesOfText x.s_R_rows x.s_R_cells x.s_U_rows x.s_U_cells x.s_S_rows x.s_S_cells x.s_T_rows x.s_T_cells x.s_E_rows x.s_E_cells x.sl asl x.pa apa ao fo (xs (nlaw n + 1).toNatClampNeg) hx hex) 3 (gS wbd_13 wbd_14 wbd_2 wbd_15) rfl rfl rfl pd_L_truncateInput ⟨Nat.le_of_ble_eq_true rfl, Nat.le_of_ble_eq_true rfl⟩ rfl rfl (Nat.le_of_ble_eq_true rfl) ⟨show nC + 1 ≤ 601024 by omega, show nS + 6 ≤ 7293034 by omega⟩ (fun _ => rfl) dL_law_424 427 rfl (fun u _ => ?_)
  refine v_istore X (lv' := [(5, .int (hcd [2] ox.1)), (0, .ref b), (1, .ref (ad 0)), (2, .ref (am 0)), (3, .ref ao), (4, .int (nlaw n))]) dL_law_427 (by decide) rfl 429 rfl ?_
  refine v_toM ?_
  refine v_aload_n X dL_law_429 3 rfl rfl 430 rfl ?_
  refine v_aload_n X dL_law_430 1 rfl rfl 431 rfl ?_
  refine v_iload X dL_law_431 5 rfl 433 rfl ?_
  refine v_iconst X dL_law_433 ic_1 434 rfl ?_
  refine v_iadd X dL_law_434 435 rfl ?_
  refine v_sld X hX hbl hbA (sc_in hn hL 1 (by decide)) dL_law_435 436 rfl ?_
  refine v_callVi X (C := RX12) (ci := 11) (T := TX12) (As := [.int (xs (nlaw n + 1).toNatClampNeg)]) (rest := []) (ws' := wX12 am c9 m.m_undoable m.m_undoStart om.2.1 om.2.2 m.m_position m.m_start m.m_token m.m_value m.m_letters m.m_code m.m_place m.m_outputLength m.m_s m.m_parsed m.m_tried m.m_remembered m.m_slots m.m_kept m.m_away m.m_input m.m_halfway m.m_output) (c_X12_truncateInput l hG D c9 am m.m_undoable m.m_undoStart m.m_thrown m.m_inputLength m.m_position m.m_start m.m_token m.m_value m.m_letters m.m_code m.m_place m.m_outputLength m.m_s m.m_parsed m.m_tried m.m_remembered m.m_slots m.m_kept m.m_away m.m_input m.m_halfway m.m_output (xs (nlaw n + 1).toNatClampNeg) hm) 1 (gV wbd_16 wbd_17 wbd_18 wbd_7 wbd_19) rfl rfl rfl ⟨rfl, pd_X12_truncateInput⟩ ⟨Nat.le_of_ble_eq_true rfl, Nat.le_of_ble_eq_true rfl⟩ 0 rfl rfl rfl rfl (Nat.le_of_ble_eq_true rfl) ⟨show nC + 1 + 0 ≤ 601024 by omega, show nS + 6 + 0 ≤ 7293034 by omega⟩ [0, 1, 2, 3, 4, 5, 6, 7, 8, 9, 10] [] [0, 1, 2, 3, 4, 5, 6, 7, 8, 9, 10] rfl rfl rfl rfl dL_law_436 439 rfl ?_
  refine v_istore X (lv' := [(6, .int om.1), (5, .int (hcd [2] ox.1)), (0, .ref b), (1, .ref (ad 0)), (2, .ref (am 0)), (3, .ref ao), (4, .int (nlaw n))]) dL_law_439 (by decide) rfl 441 rfl ?_
  refine v_aload_n X dL_law_441 4 rfl rfl 442 rfl ?_
  refine v_callVi X (C := RX12) (ci := 11) (T := TX12) (As := []) (rest := []) (ws' := wX12 am c9 m.m_undoable m.m_undoStart om.2.1 om.2.2 m.m_position m.m_start m.m_token m.m_value m.m_letters m.m_code m.m_place m.m_outputLength m.m_s m.m_parsed m.m_tried m.m_remembered m.m_slots m.m_kept m.m_away m.m_input m.m_halfway m.m_output) (c_X12_thrown l hG D c9 am m.m_undoable m.m_undoStart om.2.1 om.2.2 m.m_position m.m_start m.m_token m.m_value m.m_letters m.m_code m.m_place m.m_outputLength m.m_s m.m_parsed m.m_tried m.m_remembered m.m_slots m.m_kept m.m_away m.m_input m.m_halfway m.m_output  rfl) 0 (gV wbd_9 wbd_10 wbd_11 wbd_7 wbd_12) rfl rfl rfl ⟨rfl, pd_X12_thrown⟩ ⟨Nat.le_of_ble_eq_true rfl, Nat.le_of_ble_eq_true rfl⟩ 0 rfl rfl rfl rfl (Nat.le_of_ble_eq_true rfl) ⟨show nC + 1 + 0 ≤ 601024 by omega, show nS + 6 + 0 ≤ 7293034 by omega⟩ [0, 1, 2, 3, 4, 5, 6, 7, 8, 9, 10] [] [0, 1, 2, 3, 4, 5, 6, 7, 8, 9, 10] rfl rfl rfl rfl dL_law_442 445 rfl ?_
  refine v_iload X dL_law_445 1 rfl 447 rfl ?_
  refine v_icmp_eq X (tgt := 452) dL_law_447 rfl 450 rfl (a := some ()) (b := none) (o := ()) (if_pos ht) (fun _ => ?_) (fun h => nomatch h)
  refine v_toX ?_
  refine v_iload X dL_law_452 1 rfl 454 rfl ?_
  by_cases h0 : ox.1 = 0
  · refine v_if_ne X (tgt := 469) dL_law_454 rfl 457 rfl (a := none) (b := some ()) (o := ()) (if_pos (by rw [h0]; rfl)) (fun h => nomatch h) (fun _ => ?_)
    refine v_aload_n X dL_law_457 5 rfl rfl 458 rfl ?_
    refine v_iconst X dL_law_458 ic_0 459 rfl ?_
    refine v_outld X dL_law_459 460 rfl ?_
    refine v_iload X dL_law_460 0 rfl 462 rfl ?_
    refine v_i2l X dL_law_462 463 rfl ?_
    refine v_lcmp X dL_law_463 464 rfl ?_
    refine v_if_eq X (tgt := 469) dL_law_464 rfl 467 rfl (a := some ()) (b := none) (o := ()) (if_pos (by rw [hout, if_pos h0, ← hv h0]; exact lg_cmp_self _)) (fun _ => ?_) (fun h => nomatch h)
    refine v_goto X (tgt := 3452) dL_law_469 rfl ?_
    refine v_sub (lv' := [(0, .ref b), (1, .ref (ad 0)), (2, .ref (am 0)), (3, .ref ao), (4, .int (nlaw n))]) [2, 3, 4, 5, 6] rfl ?_
    exact v_widen (by omega) (by omega) (K _ _ asl apa _ hR1)
  · refine v_if_ne X (tgt := 469) dL_law_454 rfl 457 rfl (a := some ()) (b := none) (o := ()) (if_neg (hcd_ne h0 (by decide))) (fun _ => ?_) (fun h => nomatch h)
    refine v_goto X (tgt := 3452) dL_law_469 rfl ?_
    refine v_sub (lv' := [(0, .ref b), (1, .ref (ad 0)), (2, .ref (am 0)), (3, .ref ao), (4, .int (nlaw n))]) [2, 3, 4, 5, 6] rfl ?_
    exact v_widen (by omega) (by omega) (K _ _ asl apa _ hR1)
set_option maxRecDepth 100000 in
set_option maxHeartbeats 4000000 in
theorem w_2 (l : Launch) {G : (Nat → Prop) → State → Heap → Prop} (hG : vG G) (hl0 : l.stackTraces = false) (hNC : ∀ (A : Nat → Prop) (U : State) (H : Heap), G A U H → ∀ q ∈ ncL, va_Nc q.1 q.2 U) (D : va_G) (c9 : Nat → ClassId) (sk sv : Nat → Nat) (hGU : ∀ (A : Nat → Prop) (U : State) (H : Heap), G A U H → vU sk sv A U H) (ad am : Nat → Nat) (ao b L : Nat) (xs : Nat → Int32) {p : Program} {e : Env} {s : State} {mm : MethodId} {args : Array Value} {below : List Frame} {meth : Method} {c : Code} {A : Nat → Prop} {Q : State → Prop} (X : vX p s mm args meth c cL_law 9 (some .boolean) RL (Cond.tt :: Wg) D (tyA c9) G A) (hX : va_X b L xs s s.heap) (hbl : b < s.heap.size) (hbA : ¬ A b) (REL : FX → FM → Prop) (hk : H2 REL) (n : Nat) (hn : n + 6 ≤ L) (hL : L ≤ 3072) (x : FX) (m : FM) (hR : REL x m) (asl apa : Nat → Nat → Nat) (fo : Nat → Int64) (nC nS : Nat) (hC : nC + 14 ≤ 601024) (hS : nS + 481 ≤ 7293034) (K : ∀ (x' : FX) (m' : FM) (asl' apa' : Nat → Nat → Nat) (fo' : Nat → Int64), REL x' m' → vW p l e room_1 s mm args below meth c 9 D A (wLF c9 x'.sl asl' x'.pa apa' ao fo' (wMf am c9 m')) (nC + 14) (nS + 481) Q (wXf ad c9 x' asl' apa') 3452 [(0, .ref b), (1, .ref (ad 0)), (2, .ref (am 0)), (3, .ref ao), (4, .int (nlaw n))] []) : vW p l e room_1 s mm args below meth c 9 D A (wLF c9 x.sl asl x.pa apa ao fo (wMf am c9 m)) nC nS Q (wXf ad c9 x asl apa) 472 [(0, .ref b), (1, .ref (ad 0)), (2, .ref (am 0)), (3, .ref ao), (4, .int (nlaw n))] [] := by
  obtain ⟨ox, om, hx, hex, hm, ht, hv, hR1⟩ := hk x m hR
  refine v_aload_n X dL_law_472 1 rfl rfl 473 rfl ?_
  refine v_aload_n X dL_law_473 3 rfl rfl 474 rfl ?_
  refine v_hcallS X (S := Nat → Nat → Nat) (As := [.ref (ad 0), .ref ao]) (rest := []) (ws' := fun u => wX11 ad c9 ox.2.2.1 ox.2.2.2.1 ox.2.2.2.2.1 x.i_cells x.o_count x.o_cells ox.2.2.2.2.2.1 ox.2.2.2.2.2.2.1 ox.2.2.2.2.2.2.2.1 ox.2.2.2.2.2.2.2.2.1 ox.2.2.2.2.2.2.2.2.2.1 ox.2.2.2.2.2.2.2.2.2.2.1 ox.2.2.2.2.2.2.2.2.2.2.2.1 ox.2.2.2.2.2.2.2.2.2.2.2.2.1 ox.2.2.2.2.2.2.2.2.2.2.2.2.2.1 ox.2.2.2.2.2.2.2.2.2.2.2.2.2.2.1 ox.2.2.2.2.2.2.2.2.2.2.2.2.2.2.2.1 ox.2.2.2.2.2.2.2.2.2.2.2.2.2.2.2.2.1 ox.2.2.2.2.2.2.2.2.2.2.2.2.2.2.2.2.2.1 ox.2.2.2.2.2.2.2.2.2.2.2.2.2.2.2.2.2.2.1 ox.2.2.2.2.2.2.2.2.2.2.2.2.2.2.2.2.2.2.2.1 ox.2.2.2.2.2.2.2.2.2.2.2.2.2.2.2.2.2.2.2.2.1 ox.2.2.2.2.2.2.2.2.2.2.2.2.2.2.2.2.2.2.2.2.2.1 ox.2.2.2.2.2.2.2.2.2.2.2.2.2.2.2.2.2.2.2.2.2.2.1 ox.2.2.2.2.2.2.2.2.2.2.2.2.2.2.2.2.2.2.2.2.2.2.2.1 ox.2.2.2.2.2.2.2.2.2.2.2.2.2.2.2.2.2.2.2.2.2.2.2.2.1 ox.2.2.2.2.2.2.2.2.2.2.2.2.2.2.2.2.2.2.2.2.2.2.2.2.2.1 ox.2.2.2.2.2.2.2.2.2.2.2.2.2.2.2.2.2.2.2.2.2.2.2.2.2.2.1 ox.2.2.2.2.2.2.2.2.2.2.2.2.2.2.2.2.2.2.2.2.2.2.2.2.2.2.2.1 ox.2.2.2.2.2.2.2.2.2.2.2.2.2.2.2.2.2.2.2.2.2.2.2.2.2.2.2.2.1 ox.2.2.2.2.2.2.2.2.2.2.2.2.2.2.2.2.2.2.2.2.2.2.2.2.2.2.2.2.2.1 ox.2.2.2.2.2.2.2.2.2.2.2.2.2.2.2.2.2.2.2.2.2.2.2.2.2.2.2.2.2.2.1 ox.2.2.2.2.2.2.2.2.2.2.2.2.2.2.2.2.2.2.2.2.2.2.2.2.2.2.2.2.2.2.2.1 ox.2.2.2.2.2.2.2.2.2.2.2.2.2.2.2.2.2.2.2.2.2.2.2.2.2.2.2.2.2.2.2.2.1 ox.2.2.2.2.2.2.2.2.2.2.2.2.2.2.2.2.2.2.2.2.2.2.2.2.2.2.2.2.2.2.2.2.2.1 ox.2.2.2.2.2.2.2.2.2.2.2.2.2.2.2.2.2.2.2.2.2.2.2.2.2.2.2.2.2.2.2.2.2.2.1 ox.2.2.2.2.2.2.2.2.2.2.2.2.2.2.2.2.2.2.2.2.2.2.2.2.2.2.2.2.2.2.2.2.2.2.2.1 ox.2.2.2.2.2.2.2.2.2.2.2.2.2.2.2.2.2.2.2.2.2.2.2.2.2.2.2.2.2.2.2.2.2.2.2.2.1 ox.2.2.2.2.2.2.2.2.2.2.2.2.2.2.2.2.2.2.2.2.2.2.2.2.2.2.2.2.2.2.2.2.2.2.2.2.2.1 ox.2.2.2.2.2.2.2.2.2.2.2.2.2.2.2.2.2.2.2.2.2.2.2.2.2.2.2.2.2.2.2.2.2.2.2.2.2.2.1 ox.2.2.2.2.2.2.2.2.2.2.2.2.2.2.2.2.2.2.2.2.2.2.2.2.2.2.2.2.2.2.2.2.2.2.2.2.2.2.2.1 ox.2.2.2.2.2.2.2.2.2.2.2.2.2.2.2.2.2.2.2.2.2.2.2.2.2.2.2.2.2.2.2.2.2.2.2.2.2.2.2.2.1 x.sl asl ox.2.2.2.2.2.2.2.2.2.2.2.2.2.2.2.2.2.2.2.2.2.2.2.2.2.2.2.2.2.2.2.2.2.2.2.2.2.2.2.2.2 u) (F' := fun u => wLF c9 x.sl asl ox.2.2.2.2.2.2.2.2.2.2.2.2.2.2.2.2.2.2.2.2.2.2.2.2.2.2.2.2.2.2.2.2.2.2.2.2.2.2.2.2.2 u ao (hout ox.1 fo ox.2.1.toInt64) (wMf am c9 m)) (c_L_load l hG hl0 hNC D c9 sk sv hGU ad x.nextPast x.pastCount x.i_count x.i_cells x.o_count x.o_cells x.p_start x.p_end x.p_kind x.p_value x.p_error x.p_errorAt x.p_d_time x.p_d_tolerance x.p_d_seed x.p_d_madeTickets x.p_d_cheesesOfText x.p_d_R_rows x.p_d_R_cells x.p_d_U_rows x.p_d_U_cells x.p_d_S_rows x.p_d_S_cells x.p_d_T_rows x.p_d_T_cells x.p_d_E_rows x.p_d_E_cells x.s_time x.s_tolerance x.s_seed x.s_madeTickets x.s_cheesesOfText x.s_R_rows x.s_R_cells x.s_U_rows x.s_U_cells x.s_S_rows x.s_S_cells x.s_T_rows x.s_T_cells x.s_E_rows x.s_E_cells x.sl asl x.pa apa ao fo  hx hex) 2 (gS wbd_20 wbd_21 wbd_2 wbd_22) rfl rfl rfl pd_L_load ⟨Nat.le_of_ble_eq_true rfl, Nat.le_of_ble_eq_true rfl⟩ rfl rfl (Nat.le_of_ble_eq_true rfl) ⟨show nC + 12 ≤ 601024 by omega, show nS + 469 ≤ 7293034 by omega⟩ (fun _ => rfl) dL_law_474 477 rfl (fun u _ => ?_)
  refine v_istore X (lv' := [(5, .int (hcd [2] ox.1)), (0, .ref b), (1, .ref (ad 0)), (2, .ref (am 0)), (3, .ref ao), (4, .int (nlaw n))]) dL_law_477 (by decide) rfl 479 rfl ?_
  refine v_toM ?_
  refine v_aload_n X dL_law_479 3 rfl rfl 480 rfl ?_
  refine v_callVi X (C := RX12) (ci := 11) (T := TX12) (As := []) (rest := []) (ws' := wX12 am c9 om.2.1 om.2.2.1 om.2.2.2.1 om.2.2.2.2.1 om.2.2.2.2.2.1 om.2.2.2.2.2.2.1 om.2.2.2.2.2.2.2.1 om.2.2.2.2.2.2.2.2.1 om.2.2.2.2.2.2.2.2.2.1 om.2.2.2.2.2.2.2.2.2.2.1 om.2.2.2.2.2.2.2.2.2.2.2.1 m.m_outputLength om.2.2.2.2.2.2.2.2.2.2.2.2.1 om.2.2.2.2.2.2.2.2.2.2.2.2.2.1 m.m_tried om.2.2.2.2.2.2.2.2.2.2.2.2.2.2 m.m_slots m.m_kept m.m_away m.m_input m.m_halfway m.m_output) (c_X12_load l hG D c9 sk sv hGU am m.m_undoable m.m_undoStart m.m_thrown m.m_inputLength m.m_position m.m_start m.m_token m.m_value m.m_letters m.m_code m.m_place m.m_outputLength m.m_s m.m_parsed m.m_tried m.m_remembered m.m_slots m.m_kept m.m_away m.m_input m.m_halfway m.m_output  hm) 0 (gV wbd_23 wbd_24 wbd_25 wbd_7 wbd_26) rfl rfl rfl ⟨rfl, pd_X12_load⟩ ⟨Nat.le_of_ble_eq_true rfl, Nat.le_of_ble_eq_true rfl⟩ 0 rfl rfl rfl rfl (Nat.le_of_ble_eq_true rfl) ⟨show nC + 12 + 0 ≤ 601024 by omega, show nS + 469 + 0 ≤ 7293034 by omega⟩ [0, 1, 2, 3, 4, 5, 6, 7, 8, 9, 10] [] [0, 1, 2, 3, 4, 5, 6, 7, 8, 9, 10] rfl rfl rfl rfl dL_law_480 483 rfl ?_
  refine v_istore X (lv' := [(6, .int om.1), (5, .int (hcd [2] ox.1)), (0, .ref b), (1, .ref (ad 0)), (2, .ref (am 0)), (3, .ref ao), (4, .int (nlaw n))]) dL_law_483 (by decide) rfl 485 rfl ?_
  refine v_aload_n X dL_law_485 4 rfl rfl 486 rfl ?_
  refine v_callVi X (C := RX12) (ci := 11) (T := TX12) (As := []) (rest := []) (ws' := wX12 am c9 om.2.1 om.2.2.1 om.2.2.2.1 om.2.2.2.2.1 om.2.2.2.2.2.1 om.2.2.2.2.2.2.1 om.2.2.2.2.2.2.2.1 om.2.2.2.2.2.2.2.2.1 om.2.2.2.2.2.2.2.2.2.1 om.2.2.2.2.2.2.2.2.2.2.1 om.2.2.2.2.2.2.2.2.2.2.2.1 m.m_outputLength om.2.2.2.2.2.2.2.2.2.2.2.2.1 om.2.2.2.2.2.2.2.2.2.2.2.2.2.1 m.m_tried om.2.2.2.2.2.2.2.2.2.2.2.2.2.2 m.m_slots m.m_kept m.m_away m.m_input m.m_halfway m.m_output) (c_X12_thrown l hG D c9 am om.2.1 om.2.2.1 om.2.2.2.1 om.2.2.2.2.1 om.2.2.2.2.2.1 om.2.2.2.2.2.2.1 om.2.2.2.2.2.2.2.1 om.2.2.2.2.2.2.2.2.1 om.2.2.2.2.2.2.2.2.2.1 om.2.2.2.2.2.2.2.2.2.2.1 om.2.2.2.2.2.2.2.2.2.2.2.1 m.m_outputLength om.2.2.2.2.2.2.2.2.2.2.2.2.1 om.2.2.2.2.2.2.2.2.2.2.2.2.2.1 m.m_tried om.2.2.2.2.2.2.2.2.2.2.2.2.2.2 m.m_slots m.m_kept m.m_away m.m_input m.m_halfway m.m_output  rfl) 0 (gV wbd_9 wbd_10 wbd_11 wbd_7 wbd_12) rfl rfl rfl ⟨rfl, pd_X12_thrown⟩ ⟨Nat.le_of_ble_eq_true rfl, Nat.le_of_ble_eq_true rfl⟩ 0 rfl rfl rfl rfl (Nat.le_of_ble_eq_true rfl) ⟨show nC + 12 + 0 ≤ 601024 by omega, show nS + 469 + 0 ≤ 7293034 by omega⟩ [0, 1, 2, 3, 4, 5, 6, 7, 8, 9, 10] [] [0, 1, 2, 3, 4, 5, 6, 7, 8, 9, 10] rfl rfl rfl rfl dL_law_486 489 rfl ?_
  refine v_iload X dL_law_489 1 rfl 491 rfl ?_
  refine v_icmp_eq X (tgt := 496) dL_law_491 rfl 494 rfl (a := some ()) (b := none) (o := ()) (if_pos ht) (fun _ => ?_) (fun h => nomatch h)
  refine v_toX ?_
  refine v_iload X dL_law_496 1 rfl 498 rfl ?_
  by_cases h0 : ox.1 = 0
  · refine v_if_ne X (tgt := 513) dL_law_498 rfl 501 rfl (a := none) (b := some ()) (o := ()) (if_pos (by rw [h0]; rfl)) (fun h => nomatch h) (fun _ => ?_)
    refine v_aload_n X dL_law_501 5 rfl rfl 502 rfl ?_
    refine v_iconst X dL_law_502 ic_0 503 rfl ?_
    refine v_outld X dL_law_503 504 rfl ?_
    refine v_iload X dL_law_504 0 rfl 506 rfl ?_
    refine v_i2l X dL_law_506 507 rfl ?_
    refine v_lcmp X dL_law_507 508 rfl ?_
    refine v_if_eq X (tgt := 513) dL_law_508 rfl 511 rfl (a := some ()) (b := none) (o := ()) (if_pos (by rw [hout, if_pos h0, ← hv h0]; exact lg_cmp_self _)) (fun _ => ?_) (fun h => nomatch h)
    refine v_goto X (tgt := 3452) dL_law_513 rfl ?_
    refine v_sub (lv' := [(0, .ref b), (1, .ref (ad 0)), (2, .ref (am 0)), (3, .ref ao), (4, .int (nlaw n))]) [2, 3, 4, 5, 6] rfl ?_
    exact v_widen (by omega) (by omega) (K _ _ asl u _ hR1)
  · refine v_if_ne X (tgt := 513) dL_law_498 rfl 501 rfl (a := some ()) (b := none) (o := ()) (if_neg (hcd_ne h0 (by decide))) (fun _ => ?_) (fun h => nomatch h)
    refine v_goto X (tgt := 3452) dL_law_513 rfl ?_
    refine v_sub (lv' := [(0, .ref b), (1, .ref (ad 0)), (2, .ref (am 0)), (3, .ref ao), (4, .int (nlaw n))]) [2, 3, 4, 5, 6] rfl ?_
    exact v_widen (by omega) (by omega) (K _ _ asl u _ hR1)
set_option maxRecDepth 100000 in
set_option maxHeartbeats 4000000 in
theorem w_3 (l : Launch) {G : (Nat → Prop) → State → Heap → Prop} (hG : vG G) (hl0 : l.stackTraces = false) (hNC : ∀ (A : Nat → Prop) (U : State) (H : Heap), G A U H → ∀ q ∈ ncL, va_Nc q.1 q.2 U) (D : va_G) (c9 : Nat → ClassId) (sk sv : Nat → Nat) (hGU : ∀ (A : Nat → Prop) (U : State) (H : Heap), G A U H → vU sk sv A U H) (ad am : Nat → Nat) (ao b L : Nat) (xs : Nat → Int32) {p : Program} {e : Env} {s : State} {mm : MethodId} {args : Array Value} {below : List Frame} {meth : Method} {c : Code} {A : Nat → Prop} {Q : State → Prop} (X : vX p s mm args meth c cL_law 9 (some .boolean) RL (Cond.tt :: Wg) D (tyA c9) G A) (hX : va_X b L xs s s.heap) (hbl : b < s.heap.size) (hbA : ¬ A b) (REL : FX → FM → Prop) (hk : H3 REL) (n : Nat) (hn : n + 6 ≤ L) (hL : L ≤ 3072) (x : FX) (m : FM) (hR : REL x m) (asl apa : Nat → Nat → Nat) (fo : Nat → Int64) (nC nS : Nat) (hC : nC + 14 ≤ 601024) (hS : nS + 481 ≤ 7293034) (K : ∀ (x' : FX) (m' : FM) (asl' apa' : Nat → Nat → Nat) (fo' : Nat → Int64), REL x' m' → vW p l e room_1 s mm args below meth c 9 D A (wLF c9 x'.sl asl' x'.pa apa' ao fo' (wMf am c9 m')) (nC + 14) (nS + 481) Q (wXf ad c9 x' asl' apa') 3452 [(0, .ref b), (1, .ref (ad 0)), (2, .ref (am 0)), (3, .ref ao), (4, .int (nlaw n))] []) : vW p l e room_1 s mm args below meth c 9 D A (wLF c9 x.sl asl x.pa apa ao fo (wMf am c9 m)) nC nS Q (wXf ad c9 x asl apa) 516 [(0, .ref b), (1, .ref (ad 0)), (2, .ref (am 0)), (3, .ref ao), (4, .int (nlaw n))] [] := by
  obtain ⟨ox, om, hx, hm, hv, hR1⟩ := hk x m hR
  refine v_aload_n X dL_law_516 1 rfl rfl 517 rfl ?_
  refine v_callVi X (C := RX11) (ci := 10) (T := TX11) (As := []) (rest := []) (ws' := wX11 ad c9 x.nextPast x.pastCount x.i_count x.i_cells x.o_count x.o_cells x.p_start x.p_end x.p_kind x.p_value x.p_error x.p_errorAt x.p_d_time x.p_d_tolerance x.p_d_seed x.p_d_madeTickets x.p_d_cheesesOfText x.p_d_R_rows x.p_d_R_cells x.p_d_U_rows x.p_d_U_cells x.p_d_S_rows x.p_d_S_cells x.p_d_T_rows x.p_d_T_cells x.p_d_E_rows x.p_d_E_cells x.s_time x.s_tolerance x.s_seed x.s_madeTickets x.s_cheesesOfText x.s_R_rows x.s_R_cells x.s_U_rows x.s_U_cells x.s_S_rows x.s_S_cells x.s_T_rows x.s_T_cells x.s_E_rows x.s_E_cells x.sl asl x.pa apa) (c_X11_errorCode l hG D c9 ad x.nextPast x.pastCount x.i_count x.i_cells x.o_count x.o_cells x.p_start x.p_end x.p_kind x.p_value x.p_error x.p_errorAt x.p_d_time x.p_d_tolerance x.p_d_seed x.p_d_madeTickets x.p_d_cheesesOfText x.p_d_R_rows x.p_d_R_cells x.p_d_U_rows x.p_d_U_cells x.p_d_S_rows x.p_d_S_cells x.p_d_T_rows x.p_d_T_cells x.p_d_E_rows x.p_d_E_cells x.s_time x.s_tolerance x.s_seed x.s_madeTickets x.s_cheesesOfText x.s_R_rows x.s_R_cells x.s_U_rows x.s_U_cells x.s_S_rows x.s_S_cells x.s_T_rows x.s_T_cells x.s_E_rows x.s_E_cells x.sl asl x.pa apa hx) 0 (gV wbd_27 wbd_28 wbd_29 wbd_30 wbd_31) rfl rfl rfl ⟨rfl, pd_X11_errorCode⟩ ⟨Nat.le_of_ble_eq_true rfl, Nat.le_of_ble_eq_true rfl⟩ 0 rfl rfl rfl rfl (Nat.le_of_ble_eq_true rfl) ⟨show nC + 0 ≤ 601024 by omega, show nS + 0 ≤ 7293034 by omega⟩ [0, 1, 2, 3, 4, 5, 6, 7, 8, 9, 10, 11, 12, 13, 14, 15, 16, 17, 18, 19, 20, 21, 22, 23, 24, 25, 26, 27, 28, 29, 30, 31] [] [0, 1, 2, 3, 4, 5, 6, 7, 8, 9, 10, 11, 12, 13, 14, 15, 16, 17, 18, 19, 20, 21, 22, 23, 24, 25, 26, 27, 28, 29, 30, 31] rfl rfl rfl rfl dL_law_517 520 rfl ?_
  refine v_toM ?_
  refine v_aload_n X dL_law_520 2 rfl rfl 521 rfl ?_
  refine v_callVi X (C := RX12) (ci := 11) (T := TX12) (As := []) (rest := [.int ox]) (ws' := wX12 am c9 m.m_undoable m.m_undoStart om.2 m.m_inputLength m.m_position m.m_start m.m_token m.m_value m.m_letters m.m_code m.m_place m.m_outputLength m.m_s m.m_parsed m.m_tried m.m_remembered m.m_slots m.m_kept m.m_away m.m_input m.m_halfway m.m_output) (c_X12_errorCode l hG D c9 am m.m_undoable m.m_undoStart m.m_thrown m.m_inputLength m.m_position m.m_start m.m_token m.m_value m.m_letters m.m_code m.m_place m.m_outputLength m.m_s m.m_parsed m.m_tried m.m_remembered m.m_slots m.m_kept m.m_away m.m_input m.m_halfway m.m_output  hm) 0 (gV wbd_32 wbd_33 wbd_34 wbd_7 wbd_35) rfl rfl rfl ⟨rfl, pd_X12_errorCode⟩ ⟨Nat.le_of_ble_eq_true rfl, Nat.le_of_ble_eq_true rfl⟩ 0 rfl rfl rfl rfl (Nat.le_of_ble_eq_true rfl) ⟨show nC + 0 + 0 ≤ 601024 by omega, show nS + 0 + 0 ≤ 7293034 by omega⟩ [0, 1, 2, 3, 4, 5, 6, 7, 8, 9, 10] [] [0, 1, 2, 3, 4, 5, 6, 7, 8, 9, 10] rfl rfl rfl rfl dL_law_521 524 rfl ?_
  refine v_toX ?_
  refine v_icmp_eq X (tgt := 3452) dL_law_524 rfl 527 rfl (a := some ()) (b := none) (o := ()) (if_pos hv) (fun _ => ?_) (fun h => nomatch h)
  exact v_widen (by omega) (by omega) (K _ _ asl apa _ hR1)
set_option maxRecDepth 100000 in
set_option maxHeartbeats 4000000 in
theorem w_4 (l : Launch) {G : (Nat → Prop) → State → Heap → Prop} (hG : vG G) (hl0 : l.stackTraces = false) (hNC : ∀ (A : Nat → Prop) (U : State) (H : Heap), G A U H → ∀ q ∈ ncL, va_Nc q.1 q.2 U) (D : va_G) (c9 : Nat → ClassId) (sk sv : Nat → Nat) (hGU : ∀ (A : Nat → Prop) (U : State) (H : Heap), G A U H → vU sk sv A U H) (ad am : Nat → Nat) (ao b L : Nat) (xs : Nat → Int32) {p : Program} {e : Env} {s : State} {mm : MethodId} {args : Array Value} {below : List Frame} {meth : Method} {c : Code} {A : Nat → Prop} {Q : State → Prop} (X : vX p s mm args meth c cL_law 9 (some .boolean) RL (Cond.tt :: Wg) D (tyA c9) G A) (hX : va_X b L xs s s.heap) (hbl : b < s.heap.size) (hbA : ¬ A b) (REL : FX → FM → Prop) (hk : H4 REL) (n : Nat) (hn : n + 6 ≤ L) (hL : L ≤ 3072) (x : FX) (m : FM) (hR : REL x m) (asl apa : Nat → Nat → Nat) (fo : Nat → Int64) (nC nS : Nat) (hC : nC + 14 ≤ 601024) (hS : nS + 481 ≤ 7293034) (K : ∀ (x' : FX) (m' : FM) (asl' apa' : Nat → Nat → Nat) (fo' : Nat → Int64), REL x' m' → vW p l e room_1 s mm args below meth c 9 D A (wLF c9 x'.sl asl' x'.pa apa' ao fo' (wMf am c9 m')) (nC + 14) (nS + 481) Q (wXf ad c9 x' asl' apa') 3452 [(0, .ref b), (1, .ref (ad 0)), (2, .ref (am 0)), (3, .ref ao), (4, .int (nlaw n))] []) : vW p l e room_1 s mm args below meth c 9 D A (wLF c9 x.sl asl x.pa apa ao fo (wMf am c9 m)) nC nS Q (wXf ad c9 x asl apa) 529 [(0, .ref b), (1, .ref (ad 0)), (2, .ref (am 0)), (3, .ref ao), (4, .int (nlaw n))] [] := by
  obtain ⟨ox, om, hx, hm, hv, hR1⟩ := hk x m hR
  refine v_aload_n X dL_law_529 1 rfl rfl 530 rfl ?_
  refine v_callVi X (C := RX11) (ci := 10) (T := TX11) (As := []) (rest := []) (ws' := wX11 ad c9 x.nextPast x.pastCount x.i_count x.i_cells x.o_count x.o_cells x.p_start x.p_end x.p_kind x.p_value x.p_error x.p_errorAt x.p_d_time x.p_d_tolerance x.p_d_seed x.p_d_madeTickets x.p_d_cheesesOfText x.p_d_R_rows x.p_d_R_cells x.p_d_U_rows x.p_d_U_cells x.p_d_S_rows x.p_d_S_cells x.p_d_T_rows x.p_d_T_cells x.p_d_E_rows x.p_d_E_cells x.s_time x.s_tolerance x.s_seed x.s_madeTickets x.s_cheesesOfText x.s_R_rows x.s_R_cells x.s_U_rows x.s_U_cells x.s_S_rows x.s_S_cells x.s_T_rows x.s_T_cells x.s_E_rows x.s_E_cells x.sl asl x.pa apa) (c_X11_errorPosition l hG D c9 ad x.nextPast x.pastCount x.i_count x.i_cells x.o_count x.o_cells x.p_start x.p_end x.p_kind x.p_value x.p_error x.p_errorAt x.p_d_time x.p_d_tolerance x.p_d_seed x.p_d_madeTickets x.p_d_cheesesOfText x.p_d_R_rows x.p_d_R_cells x.p_d_U_rows x.p_d_U_cells x.p_d_S_rows x.p_d_S_cells x.p_d_T_rows x.p_d_T_cells x.p_d_E_rows x.p_d_E_cells x.s_time x.s_tolerance x.s_seed x.s_madeTickets x.s_cheesesOfText x.s_R_rows x.s_R_cells x.s_U_rows x.s_U_cells x.s_S_rows x.s_S_cells x.s_T_rows x.s_T_cells x.s_E_rows x.s_E_cells x.sl asl x.pa apa hx) 0 (gV wbd_36 wbd_37 wbd_38 wbd_30 wbd_39) rfl rfl rfl ⟨rfl, pd_X11_errorPosition⟩ ⟨Nat.le_of_ble_eq_true rfl, Nat.le_of_ble_eq_true rfl⟩ 0 rfl rfl rfl rfl (Nat.le_of_ble_eq_true rfl) ⟨show nC + 0 ≤ 601024 by omega, show nS + 0 ≤ 7293034 by omega⟩ [0, 1, 2, 3, 4, 5, 6, 7, 8, 9, 10, 11, 12, 13, 14, 15, 16, 17, 18, 19, 20, 21, 22, 23, 24, 25, 26, 27, 28, 29, 30, 31] [] [0, 1, 2, 3, 4, 5, 6, 7, 8, 9, 10, 11, 12, 13, 14, 15, 16, 17, 18, 19, 20, 21, 22, 23, 24, 25, 26, 27, 28, 29, 30, 31] rfl rfl rfl rfl dL_law_530 533 rfl ?_
  refine v_toM ?_
  refine v_aload_n X dL_law_533 2 rfl rfl 534 rfl ?_
  refine v_callVi X (C := RX12) (ci := 11) (T := TX12) (As := []) (rest := [.int ox]) (ws' := wX12 am c9 m.m_undoable m.m_undoStart om.2 m.m_inputLength m.m_position m.m_start m.m_token m.m_value m.m_letters m.m_code m.m_place m.m_outputLength m.m_s m.m_parsed m.m_tried m.m_remembered m.m_slots m.m_kept m.m_away m.m_input m.m_halfway m.m_output) (c_X12_errorPosition l hG D c9 am m.m_undoable m.m_undoStart m.m_thrown m.m_inputLength m.m_position m.m_start m.m_token m.m_value m.m_letters m.m_code m.m_place m.m_outputLength m.m_s m.m_parsed m.m_tried m.m_remembered m.m_slots m.m_kept m.m_away m.m_input m.m_halfway m.m_output  hm) 0 (gV wbd_40 wbd_41 wbd_42 wbd_7 wbd_43) rfl rfl rfl ⟨rfl, pd_X12_errorPosition⟩ ⟨Nat.le_of_ble_eq_true rfl, Nat.le_of_ble_eq_true rfl⟩ 0 rfl rfl rfl rfl (Nat.le_of_ble_eq_true rfl) ⟨show nC + 0 + 0 ≤ 601024 by omega, show nS + 0 + 0 ≤ 7293034 by omega⟩ [0, 1, 2, 3, 4, 5, 6, 7, 8, 9, 10] [] [0, 1, 2, 3, 4, 5, 6, 7, 8, 9, 10] rfl rfl rfl rfl dL_law_534 537 rfl ?_
  refine v_toX ?_
  refine v_icmp_eq X (tgt := 3452) dL_law_537 rfl 540 rfl (a := some ()) (b := none) (o := ()) (if_pos hv) (fun _ => ?_) (fun h => nomatch h)
  exact v_widen (by omega) (by omega) (K _ _ asl apa _ hR1)
set_option maxRecDepth 100000 in
set_option maxHeartbeats 4000000 in
theorem w_5 (l : Launch) {G : (Nat → Prop) → State → Heap → Prop} (hG : vG G) (hl0 : l.stackTraces = false) (hNC : ∀ (A : Nat → Prop) (U : State) (H : Heap), G A U H → ∀ q ∈ ncL, va_Nc q.1 q.2 U) (D : va_G) (c9 : Nat → ClassId) (sk sv : Nat → Nat) (hGU : ∀ (A : Nat → Prop) (U : State) (H : Heap), G A U H → vU sk sv A U H) (ad am : Nat → Nat) (ao b L : Nat) (xs : Nat → Int32) {p : Program} {e : Env} {s : State} {mm : MethodId} {args : Array Value} {below : List Frame} {meth : Method} {c : Code} {A : Nat → Prop} {Q : State → Prop} (X : vX p s mm args meth c cL_law 9 (some .boolean) RL (Cond.tt :: Wg) D (tyA c9) G A) (hX : va_X b L xs s s.heap) (hbl : b < s.heap.size) (hbA : ¬ A b) (REL : FX → FM → Prop) (hk : H5 REL) (n : Nat) (hn : n + 6 ≤ L) (hL : L ≤ 3072) (x : FX) (m : FM) (hR : REL x m) (asl apa : Nat → Nat → Nat) (fo : Nat → Int64) (nC nS : Nat) (hC : nC + 14 ≤ 601024) (hS : nS + 481 ≤ 7293034) (K : ∀ (x' : FX) (m' : FM) (asl' apa' : Nat → Nat → Nat) (fo' : Nat → Int64), REL x' m' → vW p l e room_1 s mm args below meth c 9 D A (wLF c9 x'.sl asl' x'.pa apa' ao fo' (wMf am c9 m')) (nC + 14) (nS + 481) Q (wXf ad c9 x' asl' apa') 3452 [(0, .ref b), (1, .ref (ad 0)), (2, .ref (am 0)), (3, .ref ao), (4, .int (nlaw n))] []) : vW p l e room_1 s mm args below meth c 9 D A (wLF c9 x.sl asl x.pa apa ao fo (wMf am c9 m)) nC nS Q (wXf ad c9 x asl apa) 542 [(0, .ref b), (1, .ref (ad 0)), (2, .ref (am 0)), (3, .ref ao), (4, .int (nlaw n))] [] := by
  obtain ⟨ox, om, hx, hm, hv, hR1⟩ := hk x m hR
  refine v_aload_n X dL_law_542 1 rfl rfl 543 rfl ?_
  refine v_callVi X (C := RX11) (ci := 10) (T := TX11) (As := []) (rest := []) (ws' := wX11 ad c9 x.nextPast x.pastCount x.i_count x.i_cells x.o_count x.o_cells x.p_start x.p_end x.p_kind x.p_value x.p_error x.p_errorAt x.p_d_time x.p_d_tolerance x.p_d_seed x.p_d_madeTickets x.p_d_cheesesOfText x.p_d_R_rows x.p_d_R_cells x.p_d_U_rows x.p_d_U_cells x.p_d_S_rows x.p_d_S_cells x.p_d_T_rows x.p_d_T_cells x.p_d_E_rows x.p_d_E_cells x.s_time x.s_tolerance x.s_seed x.s_madeTickets x.s_cheesesOfText x.s_R_rows x.s_R_cells x.s_U_rows x.s_U_cells x.s_S_rows x.s_S_cells x.s_T_rows x.s_T_cells x.s_E_rows x.s_E_cells x.sl asl x.pa apa) (c_X11_time l hG D c9 ad x.nextPast x.pastCount x.i_count x.i_cells x.o_count x.o_cells x.p_start x.p_end x.p_kind x.p_value x.p_error x.p_errorAt x.p_d_time x.p_d_tolerance x.p_d_seed x.p_d_madeTickets x.p_d_cheesesOfText x.p_d_R_rows x.p_d_R_cells x.p_d_U_rows x.p_d_U_cells x.p_d_S_rows x.p_d_S_cells x.p_d_T_rows x.p_d_T_cells x.p_d_E_rows x.p_d_E_cells x.s_time x.s_tolerance x.s_seed x.s_madeTickets x.s_cheesesOfText x.s_R_rows x.s_R_cells x.s_U_rows x.s_U_cells x.s_S_rows x.s_S_cells x.s_T_rows x.s_T_cells x.s_E_rows x.s_E_cells x.sl asl x.pa apa hx) 0 (gV wbd_44 wbd_45 wbd_46 wbd_30 wbd_47) rfl rfl rfl ⟨rfl, pd_X11_time⟩ ⟨Nat.le_of_ble_eq_true rfl, Nat.le_of_ble_eq_true rfl⟩ 0 rfl rfl rfl rfl (Nat.le_of_ble_eq_true rfl) ⟨show nC + 0 ≤ 601024 by omega, show nS + 0 ≤ 7293034 by omega⟩ [0, 1, 2, 3, 4, 5, 6, 7, 8, 9, 10, 11, 12, 13, 14, 15, 16, 17, 18, 19, 20, 21, 22, 23, 24, 25, 26, 27, 28, 29, 30, 31] [] [0, 1, 2, 3, 4, 5, 6, 7, 8, 9, 10, 11, 12, 13, 14, 15, 16, 17, 18, 19, 20, 21, 22, 23, 24, 25, 26, 27, 28, 29, 30, 31] rfl rfl rfl rfl dL_law_543 546 rfl ?_
  refine v_toM ?_
  refine v_aload_n X dL_law_546 2 rfl rfl 547 rfl ?_
  refine v_callVi X (C := RX12) (ci := 11) (T := TX12) (As := []) (rest := [.int ox]) (ws' := wX12 am c9 m.m_undoable m.m_undoStart om.2 m.m_inputLength m.m_position m.m_start m.m_token m.m_value m.m_letters m.m_code m.m_place m.m_outputLength m.m_s m.m_parsed m.m_tried m.m_remembered m.m_slots m.m_kept m.m_away m.m_input m.m_halfway m.m_output) (c_X12_time l hG D c9 am m.m_undoable m.m_undoStart m.m_thrown m.m_inputLength m.m_position m.m_start m.m_token m.m_value m.m_letters m.m_code m.m_place m.m_outputLength m.m_s m.m_parsed m.m_tried m.m_remembered m.m_slots m.m_kept m.m_away m.m_input m.m_halfway m.m_output  hm) 0 (gV wbd_48 wbd_49 wbd_50 wbd_7 wbd_51) rfl rfl rfl ⟨rfl, pd_X12_time⟩ ⟨Nat.le_of_ble_eq_true rfl, Nat.le_of_ble_eq_true rfl⟩ 0 rfl rfl rfl rfl (Nat.le_of_ble_eq_true rfl) ⟨show nC + 0 + 0 ≤ 601024 by omega, show nS + 0 + 0 ≤ 7293034 by omega⟩ [0, 1, 2, 3, 4, 5, 6, 7, 8, 9, 10] [] [0, 1, 2, 3, 4, 5, 6, 7, 8, 9, 10] rfl rfl rfl rfl dL_law_547 550 rfl ?_
  refine v_toX ?_
  refine v_icmp_eq X (tgt := 3452) dL_law_550 rfl 553 rfl (a := some ()) (b := none) (o := ()) (if_pos hv) (fun _ => ?_) (fun h => nomatch h)
  exact v_widen (by omega) (by omega) (K _ _ asl apa _ hR1)
set_option maxRecDepth 100000 in
set_option maxHeartbeats 4000000 in
theorem w_6 (l : Launch) {G : (Nat → Prop) → State → Heap → Prop} (hG : vG G) (hl0 : l.stackTraces = false) (hNC : ∀ (A : Nat → Prop) (U : State) (H : Heap), G A U H → ∀ q ∈ ncL, va_Nc q.1 q.2 U) (D : va_G) (c9 : Nat → ClassId) (sk sv : Nat → Nat) (hGU : ∀ (A : Nat → Prop) (U : State) (H : Heap), G A U H → vU sk sv A U H) (ad am : Nat → Nat) (ao b L : Nat) (xs : Nat → Int32) {p : Program} {e : Env} {s : State} {mm : MethodId} {args : Array Value} {below : List Frame} {meth : Method} {c : Code} {A : Nat → Prop} {Q : State → Prop} (X : vX p s mm args meth c cL_law 9 (some .boolean) RL (Cond.tt :: Wg) D (tyA c9) G A) (hX : va_X b L xs s s.heap) (hbl : b < s.heap.size) (hbA : ¬ A b) (REL : FX → FM → Prop) (hk : H6 REL) (n : Nat) (hn : n + 6 ≤ L) (hL : L ≤ 3072) (x : FX) (m : FM) (hR : REL x m) (asl apa : Nat → Nat → Nat) (fo : Nat → Int64) (nC nS : Nat) (hC : nC + 14 ≤ 601024) (hS : nS + 481 ≤ 7293034) (K : ∀ (x' : FX) (m' : FM) (asl' apa' : Nat → Nat → Nat) (fo' : Nat → Int64), REL x' m' → vW p l e room_1 s mm args below meth c 9 D A (wLF c9 x'.sl asl' x'.pa apa' ao fo' (wMf am c9 m')) (nC + 14) (nS + 481) Q (wXf ad c9 x' asl' apa') 3452 [(0, .ref b), (1, .ref (ad 0)), (2, .ref (am 0)), (3, .ref ao), (4, .int (nlaw n))] []) : vW p l e room_1 s mm args below meth c 9 D A (wLF c9 x.sl asl x.pa apa ao fo (wMf am c9 m)) nC nS Q (wXf ad c9 x asl apa) 555 [(0, .ref b), (1, .ref (ad 0)), (2, .ref (am 0)), (3, .ref ao), (4, .int (nlaw n))] [] := by
  obtain ⟨ox, om, hx, hm, hv, hR1⟩ := hk x m hR
  refine v_aload_n X dL_law_555 1 rfl rfl 556 rfl ?_
  refine v_callVi X (C := RX11) (ci := 10) (T := TX11) (As := []) (rest := []) (ws' := wX11 ad c9 x.nextPast x.pastCount x.i_count x.i_cells x.o_count x.o_cells x.p_start x.p_end x.p_kind x.p_value x.p_error x.p_errorAt x.p_d_time x.p_d_tolerance x.p_d_seed x.p_d_madeTickets x.p_d_cheesesOfText x.p_d_R_rows x.p_d_R_cells x.p_d_U_rows x.p_d_U_cells x.p_d_S_rows x.p_d_S_cells x.p_d_T_rows x.p_d_T_cells x.p_d_E_rows x.p_d_E_cells x.s_time x.s_tolerance x.s_seed x.s_madeTickets x.s_cheesesOfText x.s_R_rows x.s_R_cells x.s_U_rows x.s_U_cells x.s_S_rows x.s_S_cells x.s_T_rows x.s_T_cells x.s_E_rows x.s_E_cells x.sl asl x.pa apa) (c_X11_seed l hG D c9 ad x.nextPast x.pastCount x.i_count x.i_cells x.o_count x.o_cells x.p_start x.p_end x.p_kind x.p_value x.p_error x.p_errorAt x.p_d_time x.p_d_tolerance x.p_d_seed x.p_d_madeTickets x.p_d_cheesesOfText x.p_d_R_rows x.p_d_R_cells x.p_d_U_rows x.p_d_U_cells x.p_d_S_rows x.p_d_S_cells x.p_d_T_rows x.p_d_T_cells x.p_d_E_rows x.p_d_E_cells x.s_time x.s_tolerance x.s_seed x.s_madeTickets x.s_cheesesOfText x.s_R_rows x.s_R_cells x.s_U_rows x.s_U_cells x.s_S_rows x.s_S_cells x.s_T_rows x.s_T_cells x.s_E_rows x.s_E_cells x.sl asl x.pa apa hx) 0 (gV wbd_52 wbd_53 wbd_54 wbd_30 wbd_55) rfl rfl rfl ⟨rfl, pd_X11_seed⟩ ⟨Nat.le_of_ble_eq_true rfl, Nat.le_of_ble_eq_true rfl⟩ 0 rfl rfl rfl rfl (Nat.le_of_ble_eq_true rfl) ⟨show nC + 0 ≤ 601024 by omega, show nS + 0 ≤ 7293034 by omega⟩ [0, 1, 2, 3, 4, 5, 6, 7, 8, 9, 10, 11, 12, 13, 14, 15, 16, 17, 18, 19, 20, 21, 22, 23, 24, 25, 26, 27, 28, 29, 30, 31] [] [0, 1, 2, 3, 4, 5, 6, 7, 8, 9, 10, 11, 12, 13, 14, 15, 16, 17, 18, 19, 20, 21, 22, 23, 24, 25, 26, 27, 28, 29, 30, 31] rfl rfl rfl rfl dL_law_556 559 rfl ?_
  refine v_toM ?_
  refine v_aload_n X dL_law_559 2 rfl rfl 560 rfl ?_
  refine v_callVi X (C := RX12) (ci := 11) (T := TX12) (As := []) (rest := [.int ox]) (ws' := wX12 am c9 m.m_undoable m.m_undoStart om.2 m.m_inputLength m.m_position m.m_start m.m_token m.m_value m.m_letters m.m_code m.m_place m.m_outputLength m.m_s m.m_parsed m.m_tried m.m_remembered m.m_slots m.m_kept m.m_away m.m_input m.m_halfway m.m_output) (c_X12_seed l hG D c9 am m.m_undoable m.m_undoStart m.m_thrown m.m_inputLength m.m_position m.m_start m.m_token m.m_value m.m_letters m.m_code m.m_place m.m_outputLength m.m_s m.m_parsed m.m_tried m.m_remembered m.m_slots m.m_kept m.m_away m.m_input m.m_halfway m.m_output  hm) 0 (gV wbd_56 wbd_57 wbd_58 wbd_7 wbd_59) rfl rfl rfl ⟨rfl, pd_X12_seed⟩ ⟨Nat.le_of_ble_eq_true rfl, Nat.le_of_ble_eq_true rfl⟩ 0 rfl rfl rfl rfl (Nat.le_of_ble_eq_true rfl) ⟨show nC + 0 + 0 ≤ 601024 by omega, show nS + 0 + 0 ≤ 7293034 by omega⟩ [0, 1, 2, 3, 4, 5, 6, 7, 8, 9, 10] [] [0, 1, 2, 3, 4, 5, 6, 7, 8, 9, 10] rfl rfl rfl rfl dL_law_560 563 rfl ?_
  refine v_toX ?_
  refine v_icmp_eq X (tgt := 3452) dL_law_563 rfl 566 rfl (a := some ()) (b := none) (o := ()) (if_pos hv) (fun _ => ?_) (fun h => nomatch h)
  exact v_widen (by omega) (by omega) (K _ _ asl apa _ hR1)
set_option maxRecDepth 100000 in
set_option maxHeartbeats 4000000 in
theorem w_7 (l : Launch) {G : (Nat → Prop) → State → Heap → Prop} (hG : vG G) (hl0 : l.stackTraces = false) (hNC : ∀ (A : Nat → Prop) (U : State) (H : Heap), G A U H → ∀ q ∈ ncL, va_Nc q.1 q.2 U) (D : va_G) (c9 : Nat → ClassId) (sk sv : Nat → Nat) (hGU : ∀ (A : Nat → Prop) (U : State) (H : Heap), G A U H → vU sk sv A U H) (ad am : Nat → Nat) (ao b L : Nat) (xs : Nat → Int32) {p : Program} {e : Env} {s : State} {mm : MethodId} {args : Array Value} {below : List Frame} {meth : Method} {c : Code} {A : Nat → Prop} {Q : State → Prop} (X : vX p s mm args meth c cL_law 9 (some .boolean) RL (Cond.tt :: Wg) D (tyA c9) G A) (hX : va_X b L xs s s.heap) (hbl : b < s.heap.size) (hbA : ¬ A b) (REL : FX → FM → Prop) (hk : H7 REL) (n : Nat) (hn : n + 6 ≤ L) (hL : L ≤ 3072) (x : FX) (m : FM) (hR : REL x m) (asl apa : Nat → Nat → Nat) (fo : Nat → Int64) (nC nS : Nat) (hC : nC + 14 ≤ 601024) (hS : nS + 481 ≤ 7293034) (K : ∀ (x' : FX) (m' : FM) (asl' apa' : Nat → Nat → Nat) (fo' : Nat → Int64), REL x' m' → vW p l e room_1 s mm args below meth c 9 D A (wLF c9 x'.sl asl' x'.pa apa' ao fo' (wMf am c9 m')) (nC + 14) (nS + 481) Q (wXf ad c9 x' asl' apa') 3452 [(0, .ref b), (1, .ref (ad 0)), (2, .ref (am 0)), (3, .ref ao), (4, .int (nlaw n))] []) : vW p l e room_1 s mm args below meth c 9 D A (wLF c9 x.sl asl x.pa apa ao fo (wMf am c9 m)) nC nS Q (wXf ad c9 x asl apa) 568 [(0, .ref b), (1, .ref (ad 0)), (2, .ref (am 0)), (3, .ref ao), (4, .int (nlaw n))] [] := by
  obtain ⟨ox, om, hx, hm, hv, hR1⟩ := hk x m hR
  refine v_aload_n X dL_law_568 1 rfl rfl 569 rfl ?_
  refine v_callVi X (C := RX11) (ci := 10) (T := TX11) (As := []) (rest := []) (ws' := wX11 ad c9 x.nextPast x.pastCount x.i_count x.i_cells x.o_count x.o_cells x.p_start x.p_end x.p_kind x.p_value x.p_error x.p_errorAt x.p_d_time x.p_d_tolerance x.p_d_seed x.p_d_madeTickets x.p_d_cheesesOfText x.p_d_R_rows x.p_d_R_cells x.p_d_U_rows x.p_d_U_cells x.p_d_S_rows x.p_d_S_cells x.p_d_T_rows x.p_d_T_cells x.p_d_E_rows x.p_d_E_cells x.s_time x.s_tolerance x.s_seed x.s_madeTickets x.s_cheesesOfText x.s_R_rows x.s_R_cells x.s_U_rows x.s_U_cells x.s_S_rows x.s_S_cells x.s_T_rows x.s_T_cells x.s_E_rows x.s_E_cells x.sl asl x.pa apa) (c_X11_realmCount l hG D c9 ad x.nextPast x.pastCount x.i_count x.i_cells x.o_count x.o_cells x.p_start x.p_end x.p_kind x.p_value x.p_error x.p_errorAt x.p_d_time x.p_d_tolerance x.p_d_seed x.p_d_madeTickets x.p_d_cheesesOfText x.p_d_R_rows x.p_d_R_cells x.p_d_U_rows x.p_d_U_cells x.p_d_S_rows x.p_d_S_cells x.p_d_T_rows x.p_d_T_cells x.p_d_E_rows x.p_d_E_cells x.s_time x.s_tolerance x.s_seed x.s_madeTickets x.s_cheesesOfText x.s_R_rows x.s_R_cells x.s_U_rows x.s_U_cells x.s_S_rows x.s_S_cells x.s_T_rows x.s_T_cells x.s_E_rows x.s_E_cells x.sl asl x.pa apa hx) 0 (gV wbd_60 wbd_61 wbd_62 wbd_30 wbd_63) rfl rfl rfl ⟨rfl, pd_X11_realmCount⟩ ⟨Nat.le_of_ble_eq_true rfl, Nat.le_of_ble_eq_true rfl⟩ 0 rfl rfl rfl rfl (Nat.le_of_ble_eq_true rfl) ⟨show nC + 0 ≤ 601024 by omega, show nS + 0 ≤ 7293034 by omega⟩ [0, 1, 2, 3, 4, 5, 6, 7, 8, 9, 10, 11, 12, 13, 14, 15, 16, 17, 18, 19, 20, 21, 22, 23, 24, 25, 26, 27, 28, 29, 30, 31] [] [0, 1, 2, 3, 4, 5, 6, 7, 8, 9, 10, 11, 12, 13, 14, 15, 16, 17, 18, 19, 20, 21, 22, 23, 24, 25, 26, 27, 28, 29, 30, 31] rfl rfl rfl rfl dL_law_569 572 rfl ?_
  refine v_toM ?_
  refine v_aload_n X dL_law_572 2 rfl rfl 573 rfl ?_
  refine v_callVi X (C := RX12) (ci := 11) (T := TX12) (As := []) (rest := [.int ox]) (ws' := wX12 am c9 m.m_undoable m.m_undoStart om.2 m.m_inputLength m.m_position m.m_start m.m_token m.m_value m.m_letters m.m_code m.m_place m.m_outputLength m.m_s m.m_parsed m.m_tried m.m_remembered m.m_slots m.m_kept m.m_away m.m_input m.m_halfway m.m_output) (c_X12_realmCount l hG D c9 am m.m_undoable m.m_undoStart m.m_thrown m.m_inputLength m.m_position m.m_start m.m_token m.m_value m.m_letters m.m_code m.m_place m.m_outputLength m.m_s m.m_parsed m.m_tried m.m_remembered m.m_slots m.m_kept m.m_away m.m_input m.m_halfway m.m_output  hm) 0 (gV wbd_64 wbd_65 wbd_66 wbd_7 wbd_67) rfl rfl rfl ⟨rfl, pd_X12_realmCount⟩ ⟨Nat.le_of_ble_eq_true rfl, Nat.le_of_ble_eq_true rfl⟩ 0 rfl rfl rfl rfl (Nat.le_of_ble_eq_true rfl) ⟨show nC + 0 + 0 ≤ 601024 by omega, show nS + 0 + 0 ≤ 7293034 by omega⟩ [0, 1, 2, 3, 4, 5, 6, 7, 8, 9, 10] [] [0, 1, 2, 3, 4, 5, 6, 7, 8, 9, 10] rfl rfl rfl rfl dL_law_573 576 rfl ?_
  refine v_toX ?_
  refine v_icmp_eq X (tgt := 3452) dL_law_576 rfl 579 rfl (a := some ()) (b := none) (o := ()) (if_pos hv) (fun _ => ?_) (fun h => nomatch h)
  exact v_widen (by omega) (by omega) (K _ _ asl apa _ hR1)
set_option maxRecDepth 100000 in
set_option maxHeartbeats 4000000 in
theorem w_8 (l : Launch) {G : (Nat → Prop) → State → Heap → Prop} (hG : vG G) (hl0 : l.stackTraces = false) (hNC : ∀ (A : Nat → Prop) (U : State) (H : Heap), G A U H → ∀ q ∈ ncL, va_Nc q.1 q.2 U) (D : va_G) (c9 : Nat → ClassId) (sk sv : Nat → Nat) (hGU : ∀ (A : Nat → Prop) (U : State) (H : Heap), G A U H → vU sk sv A U H) (ad am : Nat → Nat) (ao b L : Nat) (xs : Nat → Int32) {p : Program} {e : Env} {s : State} {mm : MethodId} {args : Array Value} {below : List Frame} {meth : Method} {c : Code} {A : Nat → Prop} {Q : State → Prop} (X : vX p s mm args meth c cL_law 9 (some .boolean) RL (Cond.tt :: Wg) D (tyA c9) G A) (hX : va_X b L xs s s.heap) (hbl : b < s.heap.size) (hbA : ¬ A b) (REL : FX → FM → Prop) (hk : H8 REL) (n : Nat) (hn : n + 6 ≤ L) (hL : L ≤ 3072) (x : FX) (m : FM) (hR : REL x m) (asl apa : Nat → Nat → Nat) (fo : Nat → Int64) (nC nS : Nat) (hC : nC + 14 ≤ 601024) (hS : nS + 481 ≤ 7293034) (K : ∀ (x' : FX) (m' : FM) (asl' apa' : Nat → Nat → Nat) (fo' : Nat → Int64), REL x' m' → vW p l e room_1 s mm args below meth c 9 D A (wLF c9 x'.sl asl' x'.pa apa' ao fo' (wMf am c9 m')) (nC + 14) (nS + 481) Q (wXf ad c9 x' asl' apa') 3452 [(0, .ref b), (1, .ref (ad 0)), (2, .ref (am 0)), (3, .ref ao), (4, .int (nlaw n))] []) : vW p l e room_1 s mm args below meth c 9 D A (wLF c9 x.sl asl x.pa apa ao fo (wMf am c9 m)) nC nS Q (wXf ad c9 x asl apa) 581 [(0, .ref b), (1, .ref (ad 0)), (2, .ref (am 0)), (3, .ref ao), (4, .int (nlaw n))] [] := by
  obtain ⟨ox, om, hx, hm, hv, hR1⟩ := hk x m hR
  refine v_aload_n X dL_law_581 1 rfl rfl 582 rfl ?_
  refine v_callVi X (C := RX11) (ci := 10) (T := TX11) (As := []) (rest := []) (ws' := wX11 ad c9 x.nextPast x.pastCount x.i_count x.i_cells x.o_count x.o_cells x.p_start x.p_end x.p_kind x.p_value x.p_error x.p_errorAt x.p_d_time x.p_d_tolerance x.p_d_seed x.p_d_madeTickets x.p_d_cheesesOfText x.p_d_R_rows x.p_d_R_cells x.p_d_U_rows x.p_d_U_cells x.p_d_S_rows x.p_d_S_cells x.p_d_T_rows x.p_d_T_cells x.p_d_E_rows x.p_d_E_cells x.s_time x.s_tolerance x.s_seed x.s_madeTickets x.s_cheesesOfText x.s_R_rows x.s_R_cells x.s_U_rows x.s_U_cells x.s_S_rows x.s_S_cells x.s_T_rows x.s_T_cells x.s_E_rows x.s_E_cells x.sl asl x.pa apa) (c_X11_userCount l hG D c9 ad x.nextPast x.pastCount x.i_count x.i_cells x.o_count x.o_cells x.p_start x.p_end x.p_kind x.p_value x.p_error x.p_errorAt x.p_d_time x.p_d_tolerance x.p_d_seed x.p_d_madeTickets x.p_d_cheesesOfText x.p_d_R_rows x.p_d_R_cells x.p_d_U_rows x.p_d_U_cells x.p_d_S_rows x.p_d_S_cells x.p_d_T_rows x.p_d_T_cells x.p_d_E_rows x.p_d_E_cells x.s_time x.s_tolerance x.s_seed x.s_madeTickets x.s_cheesesOfText x.s_R_rows x.s_R_cells x.s_U_rows x.s_U_cells x.s_S_rows x.s_S_cells x.s_T_rows x.s_T_cells x.s_E_rows x.s_E_cells x.sl asl x.pa apa hx) 0 (gV wbd_68 wbd_69 wbd_70 wbd_30 wbd_71) rfl rfl rfl ⟨rfl, pd_X11_userCount⟩ ⟨Nat.le_of_ble_eq_true rfl, Nat.le_of_ble_eq_true rfl⟩ 0 rfl rfl rfl rfl (Nat.le_of_ble_eq_true rfl) ⟨show nC + 0 ≤ 601024 by omega, show nS + 0 ≤ 7293034 by omega⟩ [0, 1, 2, 3, 4, 5, 6, 7, 8, 9, 10, 11, 12, 13, 14, 15, 16, 17, 18, 19, 20, 21, 22, 23, 24, 25, 26, 27, 28, 29, 30, 31] [] [0, 1, 2, 3, 4, 5, 6, 7, 8, 9, 10, 11, 12, 13, 14, 15, 16, 17, 18, 19, 20, 21, 22, 23, 24, 25, 26, 27, 28, 29, 30, 31] rfl rfl rfl rfl dL_law_582 585 rfl ?_
  refine v_toM ?_
  refine v_aload_n X dL_law_585 2 rfl rfl 586 rfl ?_
  refine v_callVi X (C := RX12) (ci := 11) (T := TX12) (As := []) (rest := [.int ox]) (ws' := wX12 am c9 m.m_undoable m.m_undoStart om.2 m.m_inputLength m.m_position m.m_start m.m_token m.m_value m.m_letters m.m_code m.m_place m.m_outputLength m.m_s m.m_parsed m.m_tried m.m_remembered m.m_slots m.m_kept m.m_away m.m_input m.m_halfway m.m_output) (c_X12_userCount l hG D c9 am m.m_undoable m.m_undoStart m.m_thrown m.m_inputLength m.m_position m.m_start m.m_token m.m_value m.m_letters m.m_code m.m_place m.m_outputLength m.m_s m.m_parsed m.m_tried m.m_remembered m.m_slots m.m_kept m.m_away m.m_input m.m_halfway m.m_output  hm) 0 (gV wbd_72 wbd_73 wbd_74 wbd_7 wbd_75) rfl rfl rfl ⟨rfl, pd_X12_userCount⟩ ⟨Nat.le_of_ble_eq_true rfl, Nat.le_of_ble_eq_true rfl⟩ 0 rfl rfl rfl rfl (Nat.le_of_ble_eq_true rfl) ⟨show nC + 0 + 0 ≤ 601024 by omega, show nS + 0 + 0 ≤ 7293034 by omega⟩ [0, 1, 2, 3, 4, 5, 6, 7, 8, 9, 10] [] [0, 1, 2, 3, 4, 5, 6, 7, 8, 9, 10] rfl rfl rfl rfl dL_law_586 589 rfl ?_
  refine v_toX ?_
  refine v_icmp_eq X (tgt := 3452) dL_law_589 rfl 592 rfl (a := some ()) (b := none) (o := ()) (if_pos hv) (fun _ => ?_) (fun h => nomatch h)
  exact v_widen (by omega) (by omega) (K _ _ asl apa _ hR1)
set_option maxRecDepth 100000 in
set_option maxHeartbeats 4000000 in
theorem w_9 (l : Launch) {G : (Nat → Prop) → State → Heap → Prop} (hG : vG G) (hl0 : l.stackTraces = false) (hNC : ∀ (A : Nat → Prop) (U : State) (H : Heap), G A U H → ∀ q ∈ ncL, va_Nc q.1 q.2 U) (D : va_G) (c9 : Nat → ClassId) (sk sv : Nat → Nat) (hGU : ∀ (A : Nat → Prop) (U : State) (H : Heap), G A U H → vU sk sv A U H) (ad am : Nat → Nat) (ao b L : Nat) (xs : Nat → Int32) {p : Program} {e : Env} {s : State} {mm : MethodId} {args : Array Value} {below : List Frame} {meth : Method} {c : Code} {A : Nat → Prop} {Q : State → Prop} (X : vX p s mm args meth c cL_law 9 (some .boolean) RL (Cond.tt :: Wg) D (tyA c9) G A) (hX : va_X b L xs s s.heap) (hbl : b < s.heap.size) (hbA : ¬ A b) (REL : FX → FM → Prop) (hk : H9 REL) (n : Nat) (hn : n + 6 ≤ L) (hL : L ≤ 3072) (x : FX) (m : FM) (hR : REL x m) (asl apa : Nat → Nat → Nat) (fo : Nat → Int64) (nC nS : Nat) (hC : nC + 14 ≤ 601024) (hS : nS + 481 ≤ 7293034) (K : ∀ (x' : FX) (m' : FM) (asl' apa' : Nat → Nat → Nat) (fo' : Nat → Int64), REL x' m' → vW p l e room_1 s mm args below meth c 9 D A (wLF c9 x'.sl asl' x'.pa apa' ao fo' (wMf am c9 m')) (nC + 14) (nS + 481) Q (wXf ad c9 x' asl' apa') 3452 [(0, .ref b), (1, .ref (ad 0)), (2, .ref (am 0)), (3, .ref ao), (4, .int (nlaw n))] []) : vW p l e room_1 s mm args below meth c 9 D A (wLF c9 x.sl asl x.pa apa ao fo (wMf am c9 m)) nC nS Q (wXf ad c9 x asl apa) 594 [(0, .ref b), (1, .ref (ad 0)), (2, .ref (am 0)), (3, .ref ao), (4, .int (nlaw n))] [] := by
  obtain ⟨ox, om, hx, hm, hv, hR1⟩ := hk x m hR
  refine v_aload_n X dL_law_594 1 rfl rfl 595 rfl ?_
  refine v_callVi X (C := RX11) (ci := 10) (T := TX11) (As := []) (rest := []) (ws' := wX11 ad c9 x.nextPast x.pastCount x.i_count x.i_cells x.o_count x.o_cells x.p_start x.p_end x.p_kind x.p_value x.p_error x.p_errorAt x.p_d_time x.p_d_tolerance x.p_d_seed x.p_d_madeTickets x.p_d_cheesesOfText x.p_d_R_rows x.p_d_R_cells x.p_d_U_rows x.p_d_U_cells x.p_d_S_rows x.p_d_S_cells x.p_d_T_rows x.p_d_T_cells x.p_d_E_rows x.p_d_E_cells x.s_time x.s_tolerance x.s_seed x.s_madeTickets x.s_cheesesOfText x.s_R_rows x.s_R_cells x.s_U_rows x.s_U_cells x.s_S_rows x.s_S_cells x.s_T_rows x.s_T_cells x.s_E_rows x.s_E_cells x.sl asl x.pa apa) (c_X11_serviceCount l hG D c9 ad x.nextPast x.pastCount x.i_count x.i_cells x.o_count x.o_cells x.p_start x.p_end x.p_kind x.p_value x.p_error x.p_errorAt x.p_d_time x.p_d_tolerance x.p_d_seed x.p_d_madeTickets x.p_d_cheesesOfText x.p_d_R_rows x.p_d_R_cells x.p_d_U_rows x.p_d_U_cells x.p_d_S_rows x.p_d_S_cells x.p_d_T_rows x.p_d_T_cells x.p_d_E_rows x.p_d_E_cells x.s_time x.s_tolerance x.s_seed x.s_madeTickets x.s_cheesesOfText x.s_R_rows x.s_R_cells x.s_U_rows x.s_U_cells x.s_S_rows x.s_S_cells x.s_T_rows x.s_T_cells x.s_E_rows x.s_E_cells x.sl asl x.pa apa hx) 0 (gV wbd_76 wbd_77 wbd_78 wbd_30 wbd_79) rfl rfl rfl ⟨rfl, pd_X11_serviceCount⟩ ⟨Nat.le_of_ble_eq_true rfl, Nat.le_of_ble_eq_true rfl⟩ 0 rfl rfl rfl rfl (Nat.le_of_ble_eq_true rfl) ⟨show nC + 0 ≤ 601024 by omega, show nS + 0 ≤ 7293034 by omega⟩ [0, 1, 2, 3, 4, 5, 6, 7, 8, 9, 10, 11, 12, 13, 14, 15, 16, 17, 18, 19, 20, 21, 22, 23, 24, 25, 26, 27, 28, 29, 30, 31] [] [0, 1, 2, 3, 4, 5, 6, 7, 8, 9, 10, 11, 12, 13, 14, 15, 16, 17, 18, 19, 20, 21, 22, 23, 24, 25, 26, 27, 28, 29, 30, 31] rfl rfl rfl rfl dL_law_595 598 rfl ?_
  refine v_toM ?_
  refine v_aload_n X dL_law_598 2 rfl rfl 599 rfl ?_
  refine v_callVi X (C := RX12) (ci := 11) (T := TX12) (As := []) (rest := [.int ox]) (ws' := wX12 am c9 m.m_undoable m.m_undoStart om.2 m.m_inputLength m.m_position m.m_start m.m_token m.m_value m.m_letters m.m_code m.m_place m.m_outputLength m.m_s m.m_parsed m.m_tried m.m_remembered m.m_slots m.m_kept m.m_away m.m_input m.m_halfway m.m_output) (c_X12_serviceCount l hG D c9 am m.m_undoable m.m_undoStart m.m_thrown m.m_inputLength m.m_position m.m_start m.m_token m.m_value m.m_letters m.m_code m.m_place m.m_outputLength m.m_s m.m_parsed m.m_tried m.m_remembered m.m_slots m.m_kept m.m_away m.m_input m.m_halfway m.m_output  hm) 0 (gV wbd_80 wbd_81 wbd_82 wbd_7 wbd_83) rfl rfl rfl ⟨rfl, pd_X12_serviceCount⟩ ⟨Nat.le_of_ble_eq_true rfl, Nat.le_of_ble_eq_true rfl⟩ 0 rfl rfl rfl rfl (Nat.le_of_ble_eq_true rfl) ⟨show nC + 0 + 0 ≤ 601024 by omega, show nS + 0 + 0 ≤ 7293034 by omega⟩ [0, 1, 2, 3, 4, 5, 6, 7, 8, 9, 10] [] [0, 1, 2, 3, 4, 5, 6, 7, 8, 9, 10] rfl rfl rfl rfl dL_law_599 602 rfl ?_
  refine v_toX ?_
  refine v_icmp_eq X (tgt := 3452) dL_law_602 rfl 605 rfl (a := some ()) (b := none) (o := ()) (if_pos hv) (fun _ => ?_) (fun h => nomatch h)
  exact v_widen (by omega) (by omega) (K _ _ asl apa _ hR1)
set_option maxRecDepth 100000 in
set_option maxHeartbeats 4000000 in
theorem w_10 (l : Launch) {G : (Nat → Prop) → State → Heap → Prop} (hG : vG G) (hl0 : l.stackTraces = false) (hNC : ∀ (A : Nat → Prop) (U : State) (H : Heap), G A U H → ∀ q ∈ ncL, va_Nc q.1 q.2 U) (D : va_G) (c9 : Nat → ClassId) (sk sv : Nat → Nat) (hGU : ∀ (A : Nat → Prop) (U : State) (H : Heap), G A U H → vU sk sv A U H) (ad am : Nat → Nat) (ao b L : Nat) (xs : Nat → Int32) {p : Program} {e : Env} {s : State} {mm : MethodId} {args : Array Value} {below : List Frame} {meth : Method} {c : Code} {A : Nat → Prop} {Q : State → Prop} (X : vX p s mm args meth c cL_law 9 (some .boolean) RL (Cond.tt :: Wg) D (tyA c9) G A) (hX : va_X b L xs s s.heap) (hbl : b < s.heap.size) (hbA : ¬ A b) (REL : FX → FM → Prop) (hk : H10 REL) (n : Nat) (hn : n + 6 ≤ L) (hL : L ≤ 3072) (x : FX) (m : FM) (hR : REL x m) (asl apa : Nat → Nat → Nat) (fo : Nat → Int64) (nC nS : Nat) (hC : nC + 14 ≤ 601024) (hS : nS + 481 ≤ 7293034) (K : ∀ (x' : FX) (m' : FM) (asl' apa' : Nat → Nat → Nat) (fo' : Nat → Int64), REL x' m' → vW p l e room_1 s mm args below meth c 9 D A (wLF c9 x'.sl asl' x'.pa apa' ao fo' (wMf am c9 m')) (nC + 14) (nS + 481) Q (wXf ad c9 x' asl' apa') 3452 [(0, .ref b), (1, .ref (ad 0)), (2, .ref (am 0)), (3, .ref ao), (4, .int (nlaw n))] []) : vW p l e room_1 s mm args below meth c 9 D A (wLF c9 x.sl asl x.pa apa ao fo (wMf am c9 m)) nC nS Q (wXf ad c9 x asl apa) 607 [(0, .ref b), (1, .ref (ad 0)), (2, .ref (am 0)), (3, .ref ao), (4, .int (nlaw n))] [] := by
  obtain ⟨ox, om, hx, hm, hv, hR1⟩ := hk x m hR
  refine v_aload_n X dL_law_607 1 rfl rfl 608 rfl ?_
  refine v_callVi X (C := RX11) (ci := 10) (T := TX11) (As := []) (rest := []) (ws' := wX11 ad c9 x.nextPast x.pastCount x.i_count x.i_cells x.o_count x.o_cells x.p_start x.p_end x.p_kind x.p_value x.p_error x.p_errorAt x.p_d_time x.p_d_tolerance x.p_d_seed x.p_d_madeTickets x.p_d_cheesesOfText x.p_d_R_rows x.p_d_R_cells x.p_d_U_rows x.p_d_U_cells x.p_d_S_rows x.p_d_S_cells x.p_d_T_rows x.p_d_T_cells x.p_d_E_rows x.p_d_E_cells x.s_time x.s_tolerance x.s_seed x.s_madeTickets x.s_cheesesOfText x.s_R_rows x.s_R_cells x.s_U_rows x.s_U_cells x.s_S_rows x.s_S_cells x.s_T_rows x.s_T_cells x.s_E_rows x.s_E_cells x.sl asl x.pa apa) (c_X11_findName l hG D c9 ad x.nextPast x.pastCount x.i_count x.i_cells x.o_count x.o_cells x.p_start x.p_end x.p_kind x.p_value x.p_error x.p_errorAt x.p_d_time x.p_d_tolerance x.p_d_seed x.p_d_madeTickets x.p_d_cheesesOfText x.p_d_R_rows x.p_d_R_cells x.p_d_U_rows x.p_d_U_cells x.p_d_S_rows x.p_d_S_cells x.p_d_T_rows x.p_d_T_cells x.p_d_E_rows x.p_d_E_cells x.s_time x.s_tolerance x.s_seed x.s_madeTickets x.s_cheesesOfText x.s_R_rows x.s_R_cells x.s_U_rows x.s_U_cells x.s_S_rows x.s_S_cells x.s_T_rows x.s_T_cells x.s_E_rows x.s_E_cells x.sl asl x.pa apa hx) 0 (gV wbd_84 wbd_85 wbd_86 wbd_30 wbd_87) rfl rfl rfl ⟨rfl, pd_X11_findName⟩ ⟨Nat.le_of_ble_eq_true rfl, Nat.le_of_ble_eq_true rfl⟩ 0 rfl rfl rfl rfl (Nat.le_of_ble_eq_true rfl) ⟨show nC + 0 ≤ 601024 by omega, show nS + 0 ≤ 7293034 by omega⟩ [0, 1, 2, 3, 4, 5, 6, 7, 8, 9, 10, 11, 12, 13, 14, 15, 16, 17, 18, 19, 20, 21, 22, 23, 24, 25, 26, 27, 28, 29, 30, 31] [] [0, 1, 2, 3, 4, 5, 6, 7, 8, 9, 10, 11, 12, 13, 14, 15, 16, 17, 18, 19, 20, 21, 22, 23, 24, 25, 26, 27, 28, 29, 30, 31] rfl rfl rfl rfl dL_law_608 611 rfl ?_
  refine v_toM ?_
  refine v_aload_n X dL_law_611 2 rfl rfl 612 rfl ?_
  refine v_callVi X (C := RX12) (ci := 11) (T := TX12) (As := []) (rest := [.int ox]) (ws' := wX12 am c9 m.m_undoable m.m_undoStart om.2 m.m_inputLength m.m_position m.m_start m.m_token m.m_value m.m_letters m.m_code m.m_place m.m_outputLength m.m_s m.m_parsed m.m_tried m.m_remembered m.m_slots m.m_kept m.m_away m.m_input m.m_halfway m.m_output) (c_X12_findName l hG D c9 am m.m_undoable m.m_undoStart m.m_thrown m.m_inputLength m.m_position m.m_start m.m_token m.m_value m.m_letters m.m_code m.m_place m.m_outputLength m.m_s m.m_parsed m.m_tried m.m_remembered m.m_slots m.m_kept m.m_away m.m_input m.m_halfway m.m_output  hm) 0 (gV wbd_88 wbd_89 wbd_90 wbd_7 wbd_91) rfl rfl rfl ⟨rfl, pd_X12_findName⟩ ⟨Nat.le_of_ble_eq_true rfl, Nat.le_of_ble_eq_true rfl⟩ 0 rfl rfl rfl rfl (Nat.le_of_ble_eq_true rfl) ⟨show nC + 0 + 0 ≤ 601024 by omega, show nS + 0 + 0 ≤ 7293034 by omega⟩ [0, 1, 2, 3, 4, 5, 6, 7, 8, 9, 10] [] [0, 1, 2, 3, 4, 5, 6, 7, 8, 9, 10] rfl rfl rfl rfl dL_law_612 615 rfl ?_
  refine v_toX ?_
  refine v_icmp_eq X (tgt := 3452) dL_law_615 rfl 618 rfl (a := some ()) (b := none) (o := ()) (if_pos hv) (fun _ => ?_) (fun h => nomatch h)
  exact v_widen (by omega) (by omega) (K _ _ asl apa _ hR1)
set_option maxRecDepth 100000 in
set_option maxHeartbeats 4000000 in
theorem w_11 (l : Launch) {G : (Nat → Prop) → State → Heap → Prop} (hG : vG G) (hl0 : l.stackTraces = false) (hNC : ∀ (A : Nat → Prop) (U : State) (H : Heap), G A U H → ∀ q ∈ ncL, va_Nc q.1 q.2 U) (D : va_G) (c9 : Nat → ClassId) (sk sv : Nat → Nat) (hGU : ∀ (A : Nat → Prop) (U : State) (H : Heap), G A U H → vU sk sv A U H) (ad am : Nat → Nat) (ao b L : Nat) (xs : Nat → Int32) {p : Program} {e : Env} {s : State} {mm : MethodId} {args : Array Value} {below : List Frame} {meth : Method} {c : Code} {A : Nat → Prop} {Q : State → Prop} (X : vX p s mm args meth c cL_law 9 (some .boolean) RL (Cond.tt :: Wg) D (tyA c9) G A) (hX : va_X b L xs s s.heap) (hbl : b < s.heap.size) (hbA : ¬ A b) (REL : FX → FM → Prop) (hk : H11 REL) (n : Nat) (hn : n + 6 ≤ L) (hL : L ≤ 3072) (x : FX) (m : FM) (hR : REL x m) (asl apa : Nat → Nat → Nat) (fo : Nat → Int64) (nC nS : Nat) (hC : nC + 14 ≤ 601024) (hS : nS + 481 ≤ 7293034) (K : ∀ (x' : FX) (m' : FM) (asl' apa' : Nat → Nat → Nat) (fo' : Nat → Int64), REL x' m' → vW p l e room_1 s mm args below meth c 9 D A (wLF c9 x'.sl asl' x'.pa apa' ao fo' (wMf am c9 m')) (nC + 14) (nS + 481) Q (wXf ad c9 x' asl' apa') 3452 [(0, .ref b), (1, .ref (ad 0)), (2, .ref (am 0)), (3, .ref ao), (4, .int (nlaw n))] []) : vW p l e room_1 s mm args below meth c 9 D A (wLF c9 x.sl asl x.pa apa ao fo (wMf am c9 m)) nC nS Q (wXf ad c9 x asl apa) 620 [(0, .ref b), (1, .ref (ad 0)), (2, .ref (am 0)), (3, .ref ao), (4, .int (nlaw n))] [] := by
  obtain ⟨ox, om, hx, hex, hm, ht, hv, hR1⟩ := hk x m hR (xs (nlaw n + 1).toNatClampNeg)
  refine v_aload_n X dL_law_620 1 rfl rfl 621 rfl ?_
  refine v_aload_n X dL_law_621 0 rfl rfl 622 rfl ?_
  refine v_iload X dL_law_622 4 rfl 624 rfl ?_
  refine v_iconst X dL_law_624 ic_1 625 rfl ?_
  refine v_iadd X dL_law_625 626 rfl ?_
  refine v_sld X hX hbl hbA (sc_in hn hL 1 (by decide)) dL_law_626 627 rfl ?_
  refine v_aload_n X dL_law_627 3 rfl rfl 628 rfl ?_
  refine v_hcallS X (S := Unit) (As := [.ref (ad 0), .int (xs (nlaw n + 1).toNatClampNeg), .ref ao]) (rest := []) (ws' := fun u => wX11 ad c9 x.nextPast x.pastCount x.i_count x.i_cells x.o_count x.o_cells x.p_start x.p_end x.p_kind x.p_value x.p_error x.p_errorAt x.p_d_time x.p_d_tolerance x.p_d_seed x.p_d_madeTickets x.p_d_cheesesOfText x.p_d_R_rows x.p_d_R_cells x.p_d_U_rows x.p_d_U_cells x.p_d_S_rows x.p_d_S_cells x.p_d_T_rows x.p_d_T_cells x.p_d_E_rows x.p_d_E_cells x.s_time x.s_tolerance x.s_seed x.s_madeTickets x.s_cheesesOfText x.s_R_rows x.s_R_cells x.s_U_rows x.s_U_cells x.s_S_rows x.s_S_cells x.s_T_rows x.s_T_cells x.s_E_rows x.s_E_cells x.sl asl x.pa apa) (F' := fun u => wLF c9 x.sl asl x.pa apa ao (hout ox.1 fo ox.2.toInt64) (wMf am c9 m)) (c_L_lifetimeOf l hG hl0 hNC D c9 sk sv hGU ad x.nextPast x.pastCount x.i_count x.i_cells x.o_count x.o_cells x.p_start x.p_end x.p_kind x.p_value x.p_error x.p_errorAt x.p_d_time x.p_d_tolerance x.p_d_seed x.p_d_madeTickets x.p_d_cheesesOfText x.p_d_R_rows x.p_d_R_cells x.p_d_U_rows x.p_d_U_cells x.p_d_S_rows x.p_d_S_cells x.p_d_T_rows x.p_d_T_cells x.p_d_E_rows x.p_d_E_cells x.s_time x.s_tolerance x.s_seed x.s_madeTickets x.s_cheesesOfText x.s_R_rows x.s_R_cells x.s_U_rows x.s_U_cells x.s_S_rows x.s_S_cells x.s_T_rows x.s_T_cells x.s_E_rows x.s_E_cells x.sl asl x.pa apa ao fo (xs (nlaw n + 1).toNatClampNeg) hx hex) 3 (gS wbd_92 wbd_93 wbd_2 wbd_94) rfl rfl rfl pd_L_lifetimeOf ⟨Nat.le_of_ble_eq_true rfl, Nat.le_of_ble_eq_true rfl⟩ rfl rfl (Nat.le_of_ble_eq_true rfl) ⟨show nC + 1 ≤ 601024 by omega, show nS + 6 ≤ 7293034 by omega⟩ (fun _ => rfl) dL_law_628 631 rfl (fun u _ => ?_)
  refine v_istore X (lv' := [(5, .int (hcd [1] ox.1)), (0, .ref b), (1, .ref (ad 0)), (2, .ref (am 0)), (3, .ref ao), (4, .int (nlaw n))]) dL_law_631 (by decide) rfl 633 rfl ?_
  refine v_toM ?_
  refine v_aload_n X dL_law_633 3 rfl rfl 634 rfl ?_
  refine v_aload_n X dL_law_634 1 rfl rfl 635 rfl ?_
  refine v_iload X dL_law_635 5 rfl 637 rfl ?_
  refine v_iconst X dL_law_637 ic_1 638 rfl ?_
  refine v_iadd X dL_law_638 639 rfl ?_
  refine v_sld X hX hbl hbA (sc_in hn hL 1 (by decide)) dL_law_639 640 rfl ?_
  refine v_callVi X (C := RX12) (ci := 11) (T := TX12) (As := [.int (xs (nlaw n + 1).toNatClampNeg)]) (rest := []) (ws' := wX12 am c9 m.m_undoable m.m_undoStart om.2 m.m_inputLength m.m_position m.m_start m.m_token m.m_value m.m_letters m.m_code m.m_place m.m_outputLength m.m_s m.m_parsed m.m_tried m.m_remembered m.m_slots m.m_kept m.m_away m.m_input m.m_halfway m.m_output) (c_X12_lifetimeOf l hG D c9 am m.m_undoable m.m_undoStart m.m_thrown m.m_inputLength m.m_position m.m_start m.m_token m.m_value m.m_letters m.m_code m.m_place m.m_outputLength m.m_s m.m_parsed m.m_tried m.m_remembered m.m_slots m.m_kept m.m_away m.m_input m.m_halfway m.m_output (xs (nlaw n + 1).toNatClampNeg) hm) 1 (gV wbd_95 wbd_96 wbd_97 wbd_7 wbd_98) rfl rfl rfl ⟨rfl, pd_X12_lifetimeOf⟩ ⟨Nat.le_of_ble_eq_true rfl, Nat.le_of_ble_eq_true rfl⟩ 0 rfl rfl rfl rfl (Nat.le_of_ble_eq_true rfl) ⟨show nC + 1 + 0 ≤ 601024 by omega, show nS + 6 + 0 ≤ 7293034 by omega⟩ [0, 1, 2, 3, 4, 5, 6, 7, 8, 9, 10] [] [0, 1, 2, 3, 4, 5, 6, 7, 8, 9, 10] rfl rfl rfl rfl dL_law_640 643 rfl ?_
  refine v_istore X (lv' := [(6, .int om.1), (5, .int (hcd [1] ox.1)), (0, .ref b), (1, .ref (ad 0)), (2, .ref (am 0)), (3, .ref ao), (4, .int (nlaw n))]) dL_law_643 (by decide) rfl 645 rfl ?_
  refine v_aload_n X dL_law_645 4 rfl rfl 646 rfl ?_
  refine v_callVi X (C := RX12) (ci := 11) (T := TX12) (As := []) (rest := []) (ws' := wX12 am c9 m.m_undoable m.m_undoStart om.2 m.m_inputLength m.m_position m.m_start m.m_token m.m_value m.m_letters m.m_code m.m_place m.m_outputLength m.m_s m.m_parsed m.m_tried m.m_remembered m.m_slots m.m_kept m.m_away m.m_input m.m_halfway m.m_output) (c_X12_thrown l hG D c9 am m.m_undoable m.m_undoStart om.2 m.m_inputLength m.m_position m.m_start m.m_token m.m_value m.m_letters m.m_code m.m_place m.m_outputLength m.m_s m.m_parsed m.m_tried m.m_remembered m.m_slots m.m_kept m.m_away m.m_input m.m_halfway m.m_output  rfl) 0 (gV wbd_9 wbd_10 wbd_11 wbd_7 wbd_12) rfl rfl rfl ⟨rfl, pd_X12_thrown⟩ ⟨Nat.le_of_ble_eq_true rfl, Nat.le_of_ble_eq_true rfl⟩ 0 rfl rfl rfl rfl (Nat.le_of_ble_eq_true rfl) ⟨show nC + 1 + 0 ≤ 601024 by omega, show nS + 6 + 0 ≤ 7293034 by omega⟩ [0, 1, 2, 3, 4, 5, 6, 7, 8, 9, 10] [] [0, 1, 2, 3, 4, 5, 6, 7, 8, 9, 10] rfl rfl rfl rfl dL_law_646 649 rfl ?_
  refine v_iload X dL_law_649 1 rfl 651 rfl ?_
  refine v_icmp_eq X (tgt := 656) dL_law_651 rfl 654 rfl (a := some ()) (b := none) (o := ()) (if_pos ht) (fun _ => ?_) (fun h => nomatch h)
  refine v_toX ?_
  refine v_iload X dL_law_656 1 rfl 658 rfl ?_
  by_cases h0 : ox.1 = 0
  · refine v_if_ne X (tgt := 673) dL_law_658 rfl 661 rfl (a := none) (b := some ()) (o := ()) (if_pos (by rw [h0]; rfl)) (fun h => nomatch h) (fun _ => ?_)
    refine v_aload_n X dL_law_661 5 rfl rfl 662 rfl ?_
    refine v_iconst X dL_law_662 ic_0 663 rfl ?_
    refine v_outld X dL_law_663 664 rfl ?_
    refine v_iload X dL_law_664 0 rfl 666 rfl ?_
    refine v_i2l X dL_law_666 667 rfl ?_
    refine v_lcmp X dL_law_667 668 rfl ?_
    refine v_if_eq X (tgt := 673) dL_law_668 rfl 671 rfl (a := some ()) (b := none) (o := ()) (if_pos (by rw [hout, if_pos h0, ← hv h0]; exact lg_cmp_self _)) (fun _ => ?_) (fun h => nomatch h)
    refine v_goto X (tgt := 3452) dL_law_673 rfl ?_
    refine v_sub (lv' := [(0, .ref b), (1, .ref (ad 0)), (2, .ref (am 0)), (3, .ref ao), (4, .int (nlaw n))]) [2, 3, 4, 5, 6] rfl ?_
    exact v_widen (by omega) (by omega) (K _ _ asl apa _ hR1)
  · refine v_if_ne X (tgt := 673) dL_law_658 rfl 661 rfl (a := some ()) (b := none) (o := ()) (if_neg (hcd_ne h0 (by decide))) (fun _ => ?_) (fun h => nomatch h)
    refine v_goto X (tgt := 3452) dL_law_673 rfl ?_
    refine v_sub (lv' := [(0, .ref b), (1, .ref (ad 0)), (2, .ref (am 0)), (3, .ref ao), (4, .int (nlaw n))]) [2, 3, 4, 5, 6] rfl ?_
    exact v_widen (by omega) (by omega) (K _ _ asl apa _ hR1)
set_option maxRecDepth 100000 in
set_option maxHeartbeats 4000000 in
theorem w_12 (l : Launch) {G : (Nat → Prop) → State → Heap → Prop} (hG : vG G) (hl0 : l.stackTraces = false) (hNC : ∀ (A : Nat → Prop) (U : State) (H : Heap), G A U H → ∀ q ∈ ncL, va_Nc q.1 q.2 U) (D : va_G) (c9 : Nat → ClassId) (sk sv : Nat → Nat) (hGU : ∀ (A : Nat → Prop) (U : State) (H : Heap), G A U H → vU sk sv A U H) (ad am : Nat → Nat) (ao b L : Nat) (xs : Nat → Int32) {p : Program} {e : Env} {s : State} {mm : MethodId} {args : Array Value} {below : List Frame} {meth : Method} {c : Code} {A : Nat → Prop} {Q : State → Prop} (X : vX p s mm args meth c cL_law 9 (some .boolean) RL (Cond.tt :: Wg) D (tyA c9) G A) (hX : va_X b L xs s s.heap) (hbl : b < s.heap.size) (hbA : ¬ A b) (REL : FX → FM → Prop) (hk : H12 REL) (n : Nat) (hn : n + 6 ≤ L) (hL : L ≤ 3072) (x : FX) (m : FM) (hR : REL x m) (asl apa : Nat → Nat → Nat) (fo : Nat → Int64) (nC nS : Nat) (hC : nC + 14 ≤ 601024) (hS : nS + 481 ≤ 7293034) (K : ∀ (x' : FX) (m' : FM) (asl' apa' : Nat → Nat → Nat) (fo' : Nat → Int64), REL x' m' → vW p l e room_1 s mm args below meth c 9 D A (wLF c9 x'.sl asl' x'.pa apa' ao fo' (wMf am c9 m')) (nC + 14) (nS + 481) Q (wXf ad c9 x' asl' apa') 3452 [(0, .ref b), (1, .ref (ad 0)), (2, .ref (am 0)), (3, .ref ao), (4, .int (nlaw n))] []) : vW p l e room_1 s mm args below meth c 9 D A (wLF c9 x.sl asl x.pa apa ao fo (wMf am c9 m)) nC nS Q (wXf ad c9 x asl apa) 676 [(0, .ref b), (1, .ref (ad 0)), (2, .ref (am 0)), (3, .ref ao), (4, .int (nlaw n))] [] := by
  obtain ⟨ox, om, hx, hex, hm, ht, hv, hR1⟩ := hk x m hR (xs (nlaw n + 1).toNatClampNeg)
  refine v_aload_n X dL_law_676 1 rfl rfl 677 rfl ?_
  refine v_aload_n X dL_law_677 0 rfl rfl 678 rfl ?_
  refine v_iload X dL_law_678 4 rfl 680 rfl ?_
  refine v_iconst X dL_law_680 ic_1 681 rfl ?_
  refine v_iadd X dL_law_681 682 rfl ?_
  refine v_sld X hX hbl hbA (sc_in hn hL 1 (by decide)) dL_law_682 683 rfl ?_
  refine v_aload_n X dL_law_683 3 rfl rfl 684 rfl ?_
  refine v_hcallS X (S := Unit) (As := [.ref (ad 0), .int (xs (nlaw n + 1).toNatClampNeg), .ref ao]) (rest := []) (ws' := fun u => wX11 ad c9 x.nextPast x.pastCount x.i_count x.i_cells x.o_count x.o_cells x.p_start x.p_end x.p_kind x.p_value x.p_error x.p_errorAt x.p_d_time x.p_d_tolerance x.p_d_seed x.p_d_madeTickets x.p_d_cheesesOfText x.p_d_R_rows x.p_d_R_cells x.p_d_U_rows x.p_d_U_cells x.p_d_S_rows x.p_d_S_cells x.p_d_T_rows x.p_d_T_cells x.p_d_E_rows x.p_d_E_cells x.s_time x.s_tolerance x.s_seed x.s_madeTickets x.s_cheesesOfText x.s_R_rows x.s_R_cells x.s_U_rows x.s_U_cells x.s_S_rows x.s_S_cells x.s_T_rows x.s_T_cells x.s_E_rows x.s_E_cells x.sl asl x.pa apa) (F' := fun u => wLF c9 x.sl asl x.pa apa ao (hout ox.1 fo ox.2.toInt64) (wMf am c9 m)) (c_L_clockOf l hG hl0 hNC D c9 sk sv hGU ad x.nextPast x.pastCount x.i_count x.i_cells x.o_count x.o_cells x.p_start x.p_end x.p_kind x.p_value x.p_error x.p_errorAt x.p_d_time x.p_d_tolerance x.p_d_seed x.p_d_madeTickets x.p_d_cheesesOfText x.p_d_R_rows x.p_d_R_cells x.p_d_U_rows x.p_d_U_cells x.p_d_S_rows x.p_d_S_cells x.p_d_T_rows x.p_d_T_cells x.p_d_E_rows x.p_d_E_cells x.s_time x.s_tolerance x.s_seed x.s_madeTickets x.s_cheesesOfText x.s_R_rows x.s_R_cells x.s_U_rows x.s_U_cells x.s_S_rows x.s_S_cells x.s_T_rows x.s_T_cells x.s_E_rows x.s_E_cells x.sl asl x.pa apa ao fo (xs (nlaw n + 1).toNatClampNeg) hx hex) 3 (gS wbd_99 wbd_100 wbd_2 wbd_101) rfl rfl rfl pd_L_clockOf ⟨Nat.le_of_ble_eq_true rfl, Nat.le_of_ble_eq_true rfl⟩ rfl rfl (Nat.le_of_ble_eq_true rfl) ⟨show nC + 1 ≤ 601024 by omega, show nS + 6 ≤ 7293034 by omega⟩ (fun _ => rfl) dL_law_684 687 rfl (fun u _ => ?_)
  refine v_istore X (lv' := [(5, .int (hcd [1] ox.1)), (0, .ref b), (1, .ref (ad 0)), (2, .ref (am 0)), (3, .ref ao), (4, .int (nlaw n))]) dL_law_687 (by decide) rfl 689 rfl ?_
  refine v_toM ?_
  refine v_aload_n X dL_law_689 3 rfl rfl 690 rfl ?_
  refine v_aload_n X dL_law_690 1 rfl rfl 691 rfl ?_
  refine v_iload X dL_law_691 5 rfl 693 rfl ?_
  refine v_iconst X dL_law_693 ic_1 694 rfl ?_
  refine v_iadd X dL_law_694 695 rfl ?_
  refine v_sld X hX hbl hbA (sc_in hn hL 1 (by decide)) dL_law_695 696 rfl ?_
  refine v_callVi X (C := RX12) (ci := 11) (T := TX12) (As := [.int (xs (nlaw n + 1).toNatClampNeg)]) (rest := []) (ws' := wX12 am c9 m.m_undoable m.m_undoStart om.2 m.m_inputLength m.m_position m.m_start m.m_token m.m_value m.m_letters m.m_code m.m_place m.m_outputLength m.m_s m.m_parsed m.m_tried m.m_remembered m.m_slots m.m_kept m.m_away m.m_input m.m_halfway m.m_output) (c_X12_clockOf l hG D c9 am m.m_undoable m.m_undoStart m.m_thrown m.m_inputLength m.m_position m.m_start m.m_token m.m_value m.m_letters m.m_code m.m_place m.m_outputLength m.m_s m.m_parsed m.m_tried m.m_remembered m.m_slots m.m_kept m.m_away m.m_input m.m_halfway m.m_output (xs (nlaw n + 1).toNatClampNeg) hm) 1 (gV wbd_102 wbd_103 wbd_104 wbd_7 wbd_105) rfl rfl rfl ⟨rfl, pd_X12_clockOf⟩ ⟨Nat.le_of_ble_eq_true rfl, Nat.le_of_ble_eq_true rfl⟩ 0 rfl rfl rfl rfl (Nat.le_of_ble_eq_true rfl) ⟨show nC + 1 + 0 ≤ 601024 by omega, show nS + 6 + 0 ≤ 7293034 by omega⟩ [0, 1, 2, 3, 4, 5, 6, 7, 8, 9, 10] [] [0, 1, 2, 3, 4, 5, 6, 7, 8, 9, 10] rfl rfl rfl rfl dL_law_696 699 rfl ?_
  refine v_istore X (lv' := [(6, .int om.1), (5, .int (hcd [1] ox.1)), (0, .ref b), (1, .ref (ad 0)), (2, .ref (am 0)), (3, .ref ao), (4, .int (nlaw n))]) dL_law_699 (by decide) rfl 701 rfl ?_
  refine v_aload_n X dL_law_701 4 rfl rfl 702 rfl ?_
  refine v_callVi X (C := RX12) (ci := 11) (T := TX12) (As := []) (rest := []) (ws' := wX12 am c9 m.m_undoable m.m_undoStart om.2 m.m_inputLength m.m_position m.m_start m.m_token m.m_value m.m_letters m.m_code m.m_place m.m_outputLength m.m_s m.m_parsed m.m_tried m.m_remembered m.m_slots m.m_kept m.m_away m.m_input m.m_halfway m.m_output) (c_X12_thrown l hG D c9 am m.m_undoable m.m_undoStart om.2 m.m_inputLength m.m_position m.m_start m.m_token m.m_value m.m_letters m.m_code m.m_place m.m_outputLength m.m_s m.m_parsed m.m_tried m.m_remembered m.m_slots m.m_kept m.m_away m.m_input m.m_halfway m.m_output  rfl) 0 (gV wbd_9 wbd_10 wbd_11 wbd_7 wbd_12) rfl rfl rfl ⟨rfl, pd_X12_thrown⟩ ⟨Nat.le_of_ble_eq_true rfl, Nat.le_of_ble_eq_true rfl⟩ 0 rfl rfl rfl rfl (Nat.le_of_ble_eq_true rfl) ⟨show nC + 1 + 0 ≤ 601024 by omega, show nS + 6 + 0 ≤ 7293034 by omega⟩ [0, 1, 2, 3, 4, 5, 6, 7, 8, 9, 10] [] [0, 1, 2, 3, 4, 5, 6, 7, 8, 9, 10] rfl rfl rfl rfl dL_law_702 705 rfl ?_
  refine v_iload X dL_law_705 1 rfl 707 rfl ?_
  refine v_icmp_eq X (tgt := 712) dL_law_707 rfl 710 rfl (a := some ()) (b := none) (o := ()) (if_pos ht) (fun _ => ?_) (fun h => nomatch h)
  refine v_toX ?_
  refine v_iload X dL_law_712 1 rfl 714 rfl ?_
  by_cases h0 : ox.1 = 0
  · refine v_if_ne X (tgt := 729) dL_law_714 rfl 717 rfl (a := none) (b := some ()) (o := ()) (if_pos (by rw [h0]; rfl)) (fun h => nomatch h) (fun _ => ?_)
    refine v_aload_n X dL_law_717 5 rfl rfl 718 rfl ?_
    refine v_iconst X dL_law_718 ic_0 719 rfl ?_
    refine v_outld X dL_law_719 720 rfl ?_
    refine v_iload X dL_law_720 0 rfl 722 rfl ?_
    refine v_i2l X dL_law_722 723 rfl ?_
    refine v_lcmp X dL_law_723 724 rfl ?_
    refine v_if_eq X (tgt := 729) dL_law_724 rfl 727 rfl (a := some ()) (b := none) (o := ()) (if_pos (by rw [hout, if_pos h0, ← hv h0]; exact lg_cmp_self _)) (fun _ => ?_) (fun h => nomatch h)
    refine v_goto X (tgt := 3452) dL_law_729 rfl ?_
    refine v_sub (lv' := [(0, .ref b), (1, .ref (ad 0)), (2, .ref (am 0)), (3, .ref ao), (4, .int (nlaw n))]) [2, 3, 4, 5, 6] rfl ?_
    exact v_widen (by omega) (by omega) (K _ _ asl apa _ hR1)
  · refine v_if_ne X (tgt := 729) dL_law_714 rfl 717 rfl (a := some ()) (b := none) (o := ()) (if_neg (hcd_ne h0 (by decide))) (fun _ => ?_) (fun h => nomatch h)
    refine v_goto X (tgt := 3452) dL_law_729 rfl ?_
    refine v_sub (lv' := [(0, .ref b), (1, .ref (ad 0)), (2, .ref (am 0)), (3, .ref ao), (4, .int (nlaw n))]) [2, 3, 4, 5, 6] rfl ?_
    exact v_widen (by omega) (by omega) (K _ _ asl apa _ hR1)
set_option maxRecDepth 100000 in
set_option maxHeartbeats 4000000 in
theorem w_13 (l : Launch) {G : (Nat → Prop) → State → Heap → Prop} (hG : vG G) (hl0 : l.stackTraces = false) (hNC : ∀ (A : Nat → Prop) (U : State) (H : Heap), G A U H → ∀ q ∈ ncL, va_Nc q.1 q.2 U) (D : va_G) (c9 : Nat → ClassId) (sk sv : Nat → Nat) (hGU : ∀ (A : Nat → Prop) (U : State) (H : Heap), G A U H → vU sk sv A U H) (ad am : Nat → Nat) (ao b L : Nat) (xs : Nat → Int32) {p : Program} {e : Env} {s : State} {mm : MethodId} {args : Array Value} {below : List Frame} {meth : Method} {c : Code} {A : Nat → Prop} {Q : State → Prop} (X : vX p s mm args meth c cL_law 9 (some .boolean) RL (Cond.tt :: Wg) D (tyA c9) G A) (hX : va_X b L xs s s.heap) (hbl : b < s.heap.size) (hbA : ¬ A b) (REL : FX → FM → Prop) (hk : H13 REL) (n : Nat) (hn : n + 6 ≤ L) (hL : L ≤ 3072) (x : FX) (m : FM) (hR : REL x m) (asl apa : Nat → Nat → Nat) (fo : Nat → Int64) (nC nS : Nat) (hC : nC + 14 ≤ 601024) (hS : nS + 481 ≤ 7293034) (K : ∀ (x' : FX) (m' : FM) (asl' apa' : Nat → Nat → Nat) (fo' : Nat → Int64), REL x' m' → vW p l e room_1 s mm args below meth c 9 D A (wLF c9 x'.sl asl' x'.pa apa' ao fo' (wMf am c9 m')) (nC + 14) (nS + 481) Q (wXf ad c9 x' asl' apa') 3452 [(0, .ref b), (1, .ref (ad 0)), (2, .ref (am 0)), (3, .ref ao), (4, .int (nlaw n))] []) : vW p l e room_1 s mm args below meth c 9 D A (wLF c9 x.sl asl x.pa apa ao fo (wMf am c9 m)) nC nS Q (wXf ad c9 x asl apa) 732 [(0, .ref b), (1, .ref (ad 0)), (2, .ref (am 0)), (3, .ref ao), (4, .int (nlaw n))] [] := by
  obtain ⟨ox, om, hx, hex, hm, ht, hv, hR1⟩ := hk x m hR (xs (nlaw n + 1).toNatClampNeg) (xs (nlaw n + 2).toNatClampNeg)
  refine v_aload_n X dL_law_732 1 rfl rfl 733 rfl ?_
  refine v_aload_n X dL_law_733 0 rfl rfl 734 rfl ?_
  refine v_iload X dL_law_734 4 rfl 736 rfl ?_
  refine v_iconst X dL_law_736 ic_1 737 rfl ?_
  refine v_iadd X dL_law_737 738 rfl ?_
  refine v_sld X hX hbl hbA (sc_in hn hL 1 (by decide)) dL_law_738 739 rfl ?_
  refine v_aload_n X dL_law_739 0 rfl rfl 740 rfl ?_
  refine v_iload X dL_law_740 4 rfl 742 rfl ?_
  refine v_iconst X dL_law_742 ic_2 743 rfl ?_
  refine v_iadd X dL_law_743 744 rfl ?_
  refine v_sld X hX hbl hbA (sc_in hn hL 2 (by decide)) dL_law_744 745 rfl ?_
  refine v_aload_n X dL_law_745 3 rfl rfl 746 rfl ?_
  refine v_hcallS X (S := Unit) (As := [.ref (ad 0), .int (xs (nlaw n + 1).toNatClampNeg), .int (xs (nlaw n + 2).toNatClampNeg), .ref ao]) (rest := []) (ws' := fun u => wX11 ad c9 x.nextPast x.pastCount x.i_count x.i_cells x.o_count x.o_cells x.p_start x.p_end x.p_kind x.p_value x.p_error x.p_errorAt x.p_d_time x.p_d_tolerance x.p_d_seed x.p_d_madeTickets x.p_d_cheesesOfText x.p_d_R_rows x.p_d_R_cells x.p_d_U_rows x.p_d_U_cells x.p_d_S_rows x.p_d_S_cells x.p_d_T_rows x.p_d_T_cells x.p_d_E_rows x.p_d_E_cells x.s_time x.s_tolerance x.s_seed x.s_madeTickets x.s_cheesesOfText x.s_R_rows x.s_R_cells x.s_U_rows x.s_U_cells x.s_S_rows x.s_S_cells x.s_T_rows x.s_T_cells x.s_E_rows x.s_E_cells x.sl asl x.pa apa) (F' := fun u => wLF c9 x.sl asl x.pa apa ao (hout ox.1 fo (lb ox.2)) (wMf am c9 m)) (c_L_trusts l hG hl0 hNC D c9 sk sv hGU ad x.nextPast x.pastCount x.i_count x.i_cells x.o_count x.o_cells x.p_start x.p_end x.p_kind x.p_value x.p_error x.p_errorAt x.p_d_time x.p_d_tolerance x.p_d_seed x.p_d_madeTickets x.p_d_cheesesOfText x.p_d_R_rows x.p_d_R_cells x.p_d_U_rows x.p_d_U_cells x.p_d_S_rows x.p_d_S_cells x.p_d_T_rows x.p_d_T_cells x.p_d_E_rows x.p_d_E_cells x.s_time x.s_tolerance x.s_seed x.s_madeTickets x.s_cheesesOfText x.s_R_rows x.s_R_cells x.s_U_rows x.s_U_cells x.s_S_rows x.s_S_cells x.s_T_rows x.s_T_cells x.s_E_rows x.s_E_cells x.sl asl x.pa apa ao fo (xs (nlaw n + 1).toNatClampNeg) (xs (nlaw n + 2).toNatClampNeg) hx hex) 4 (gS wbd_106 wbd_107 wbd_2 wbd_108) rfl rfl rfl pd_L_trusts ⟨Nat.le_of_ble_eq_true rfl, Nat.le_of_ble_eq_true rfl⟩ rfl rfl (Nat.le_of_ble_eq_true rfl) ⟨show nC + 2 ≤ 601024 by omega, show nS + 12 ≤ 7293034 by omega⟩ (fun _ => rfl) dL_law_746 749 rfl (fun u _ => ?_)
  refine v_istore X (lv' := [(5, .int (hcd [1] ox.1)), (0, .ref b), (1, .ref (ad 0)), (2, .ref (am 0)), (3, .ref ao), (4, .int (nlaw n))]) dL_law_749 (by decide) rfl 751 rfl ?_
  refine v_toM ?_
  refine v_aload_n X dL_law_751 3 rfl rfl 752 rfl ?_
  refine v_aload_n X dL_law_752 1 rfl rfl 753 rfl ?_
  refine v_iload X dL_law_753 5 rfl 755 rfl ?_
  refine v_iconst X dL_law_755 ic_1 756 rfl ?_
  refine v_iadd X dL_law_756 757 rfl ?_
  refine v_sld X hX hbl hbA (sc_in hn hL 1 (by decide)) dL_law_757 758 rfl ?_
  refine v_aload_n X dL_law_758 1 rfl rfl 759 rfl ?_
  refine v_iload X dL_law_759 5 rfl 761 rfl ?_
  refine v_iconst X dL_law_761 ic_2 762 rfl ?_
  refine v_iadd X dL_law_762 763 rfl ?_
  refine v_sld X hX hbl hbA (sc_in hn hL 2 (by decide)) dL_law_763 764 rfl ?_
  refine v_callVi X (C := RX12) (ci := 11) (T := TX12) (As := [.int (xs (nlaw n + 1).toNatClampNeg), .int (xs (nlaw n + 2).toNatClampNeg)]) (rest := []) (ws' := wX12 am c9 m.m_undoable m.m_undoStart om.2 m.m_inputLength m.m_position m.m_start m.m_token m.m_value m.m_letters m.m_code m.m_place m.m_outputLength m.m_s m.m_parsed m.m_tried m.m_remembered m.m_slots m.m_kept m.m_away m.m_input m.m_halfway m.m_output) (c_X12_trusts l hG D c9 am m.m_undoable m.m_undoStart m.m_thrown m.m_inputLength m.m_position m.m_start m.m_token m.m_value m.m_letters m.m_code m.m_place m.m_outputLength m.m_s m.m_parsed m.m_tried m.m_remembered m.m_slots m.m_kept m.m_away m.m_input m.m_halfway m.m_output (xs (nlaw n + 1).toNatClampNeg) (xs (nlaw n + 2).toNatClampNeg) hm) 2 (gV wbd_109 wbd_110 wbd_111 wbd_7 wbd_112) rfl rfl rfl ⟨rfl, pd_X12_trusts⟩ ⟨Nat.le_of_ble_eq_true rfl, Nat.le_of_ble_eq_true rfl⟩ 0 rfl rfl rfl rfl (Nat.le_of_ble_eq_true rfl) ⟨show nC + 2 + 0 ≤ 601024 by omega, show nS + 12 + 0 ≤ 7293034 by omega⟩ [0, 1, 2, 3, 4, 5, 6, 7, 8, 9, 10] [] [0, 1, 2, 3, 4, 5, 6, 7, 8, 9, 10] rfl rfl rfl rfl dL_law_764 767 rfl ?_
  refine v_istore X (lv' := [(6, .int om.1), (5, .int (hcd [1] ox.1)), (0, .ref b), (1, .ref (ad 0)), (2, .ref (am 0)), (3, .ref ao), (4, .int (nlaw n))]) dL_law_767 (by decide) rfl 769 rfl ?_
  refine v_aload_n X dL_law_769 4 rfl rfl 770 rfl ?_
  refine v_callVi X (C := RX12) (ci := 11) (T := TX12) (As := []) (rest := []) (ws' := wX12 am c9 m.m_undoable m.m_undoStart om.2 m.m_inputLength m.m_position m.m_start m.m_token m.m_value m.m_letters m.m_code m.m_place m.m_outputLength m.m_s m.m_parsed m.m_tried m.m_remembered m.m_slots m.m_kept m.m_away m.m_input m.m_halfway m.m_output) (c_X12_thrown l hG D c9 am m.m_undoable m.m_undoStart om.2 m.m_inputLength m.m_position m.m_start m.m_token m.m_value m.m_letters m.m_code m.m_place m.m_outputLength m.m_s m.m_parsed m.m_tried m.m_remembered m.m_slots m.m_kept m.m_away m.m_input m.m_halfway m.m_output  rfl) 0 (gV wbd_9 wbd_10 wbd_11 wbd_7 wbd_12) rfl rfl rfl ⟨rfl, pd_X12_thrown⟩ ⟨Nat.le_of_ble_eq_true rfl, Nat.le_of_ble_eq_true rfl⟩ 0 rfl rfl rfl rfl (Nat.le_of_ble_eq_true rfl) ⟨show nC + 2 + 0 ≤ 601024 by omega, show nS + 12 + 0 ≤ 7293034 by omega⟩ [0, 1, 2, 3, 4, 5, 6, 7, 8, 9, 10] [] [0, 1, 2, 3, 4, 5, 6, 7, 8, 9, 10] rfl rfl rfl rfl dL_law_770 773 rfl ?_
  refine v_iload X dL_law_773 1 rfl 775 rfl ?_
  refine v_icmp_eq X (tgt := 780) dL_law_775 rfl 778 rfl (a := some ()) (b := none) (o := ()) (if_pos ht) (fun _ => ?_) (fun h => nomatch h)
  refine v_toX ?_
  refine v_iload X dL_law_780 1 rfl 782 rfl ?_
  by_cases h0 : ox.1 = 0
  · refine v_if_ne X (tgt := 804) dL_law_782 rfl 785 rfl (a := none) (b := some ()) (o := ()) (if_pos (by rw [h0]; rfl)) (fun h => nomatch h) (fun _ => ?_)
    refine v_aload_n X dL_law_785 5 rfl rfl 786 rfl ?_
    refine v_iconst X dL_law_786 ic_0 787 rfl ?_
    refine v_outld X dL_law_787 788 rfl ?_
    refine v_iload X dL_law_788 0 rfl 790 rfl ?_
    by_cases hz : om.1 = 0
    · refine v_if_eq X (tgt := 797) dL_law_790 rfl 793 rfl (a := some ()) (b := none) (o := ()) (if_pos hz) (fun _ => ?_) (fun h => nomatch h)
      refine v_lconst X dL_law_797 (v := 0) rfl 798 rfl ?_
      refine v_lcmp X dL_law_798 799 rfl ?_
      refine v_if_eq X (tgt := 804) dL_law_799 rfl 802 rfl (a := some ()) (b := none) (o := ()) (if_pos (by rw [hout, if_pos h0, hv h0, lb, if_pos hz]; exact lg_cmp_self _)) (fun _ => ?_) (fun h => nomatch h)
      refine v_goto X (tgt := 3452) dL_law_804 rfl ?_
      refine v_sub (lv' := [(0, .ref b), (1, .ref (ad 0)), (2, .ref (am 0)), (3, .ref ao), (4, .int (nlaw n))]) [2, 3, 4, 5, 6] rfl ?_
      exact v_widen (by omega) (by omega) (K _ _ asl apa _ hR1)
    · refine v_if_eq X (tgt := 797) dL_law_790 rfl 793 rfl (a := none) (b := some ()) (o := ()) (if_neg hz) (fun h => nomatch h) (fun _ => ?_)
      refine v_lconst X dL_law_793 (v := 1) rfl 794 rfl ?_
      refine v_goto X (tgt := 798) dL_law_794 rfl ?_
      refine v_lcmp X dL_law_798 799 rfl ?_
      refine v_if_eq X (tgt := 804) dL_law_799 rfl 802 rfl (a := some ()) (b := none) (o := ()) (if_pos (by rw [hout, if_pos h0, hv h0, lb, if_neg hz]; exact lg_cmp_self _)) (fun _ => ?_) (fun h => nomatch h)
      refine v_goto X (tgt := 3452) dL_law_804 rfl ?_
      refine v_sub (lv' := [(0, .ref b), (1, .ref (ad 0)), (2, .ref (am 0)), (3, .ref ao), (4, .int (nlaw n))]) [2, 3, 4, 5, 6] rfl ?_
      exact v_widen (by omega) (by omega) (K _ _ asl apa _ hR1)
  · refine v_if_ne X (tgt := 804) dL_law_782 rfl 785 rfl (a := some ()) (b := none) (o := ()) (if_neg (hcd_ne h0 (by decide))) (fun _ => ?_) (fun h => nomatch h)
    refine v_goto X (tgt := 3452) dL_law_804 rfl ?_
    refine v_sub (lv' := [(0, .ref b), (1, .ref (ad 0)), (2, .ref (am 0)), (3, .ref ao), (4, .int (nlaw n))]) [2, 3, 4, 5, 6] rfl ?_
    exact v_widen (by omega) (by omega) (K _ _ asl apa _ hR1)
set_option maxRecDepth 100000 in
set_option maxHeartbeats 4000000 in
theorem w_14 (l : Launch) {G : (Nat → Prop) → State → Heap → Prop} (hG : vG G) (hl0 : l.stackTraces = false) (hNC : ∀ (A : Nat → Prop) (U : State) (H : Heap), G A U H → ∀ q ∈ ncL, va_Nc q.1 q.2 U) (D : va_G) (c9 : Nat → ClassId) (sk sv : Nat → Nat) (hGU : ∀ (A : Nat → Prop) (U : State) (H : Heap), G A U H → vU sk sv A U H) (ad am : Nat → Nat) (ao b L : Nat) (xs : Nat → Int32) {p : Program} {e : Env} {s : State} {mm : MethodId} {args : Array Value} {below : List Frame} {meth : Method} {c : Code} {A : Nat → Prop} {Q : State → Prop} (X : vX p s mm args meth c cL_law 9 (some .boolean) RL (Cond.tt :: Wg) D (tyA c9) G A) (hX : va_X b L xs s s.heap) (hbl : b < s.heap.size) (hbA : ¬ A b) (REL : FX → FM → Prop) (hk : H14 REL) (n : Nat) (hn : n + 6 ≤ L) (hL : L ≤ 3072) (x : FX) (m : FM) (hR : REL x m) (asl apa : Nat → Nat → Nat) (fo : Nat → Int64) (nC nS : Nat) (hC : nC + 14 ≤ 601024) (hS : nS + 481 ≤ 7293034) (K : ∀ (x' : FX) (m' : FM) (asl' apa' : Nat → Nat → Nat) (fo' : Nat → Int64), REL x' m' → vW p l e room_1 s mm args below meth c 9 D A (wLF c9 x'.sl asl' x'.pa apa' ao fo' (wMf am c9 m')) (nC + 14) (nS + 481) Q (wXf ad c9 x' asl' apa') 3452 [(0, .ref b), (1, .ref (ad 0)), (2, .ref (am 0)), (3, .ref ao), (4, .int (nlaw n))] []) : vW p l e room_1 s mm args below meth c 9 D A (wLF c9 x.sl asl x.pa apa ao fo (wMf am c9 m)) nC nS Q (wXf ad c9 x asl apa) 807 [(0, .ref b), (1, .ref (ad 0)), (2, .ref (am 0)), (3, .ref ao), (4, .int (nlaw n))] [] := by
  obtain ⟨ox, om, hx, hex, hm, ht, hv, hR1⟩ := hk x m hR (xs (nlaw n + 1).toNatClampNeg) (xs (nlaw n + 2).toNatClampNeg)
  refine v_aload_n X dL_law_807 1 rfl rfl 808 rfl ?_
  refine v_aload_n X dL_law_808 0 rfl rfl 809 rfl ?_
  refine v_iload X dL_law_809 4 rfl 811 rfl ?_
  refine v_iconst X dL_law_811 ic_1 812 rfl ?_
  refine v_iadd X dL_law_812 813 rfl ?_
  refine v_sld X hX hbl hbA (sc_in hn hL 1 (by decide)) dL_law_813 814 rfl ?_
  refine v_aload_n X dL_law_814 0 rfl rfl 815 rfl ?_
  refine v_iload X dL_law_815 4 rfl 817 rfl ?_
  refine v_iconst X dL_law_817 ic_2 818 rfl ?_
  refine v_iadd X dL_law_818 819 rfl ?_
  refine v_sld X hX hbl hbA (sc_in hn hL 2 (by decide)) dL_law_819 820 rfl ?_
  refine v_aload_n X dL_law_820 3 rfl rfl 821 rfl ?_
  refine v_hcallS X (S := Unit) (As := [.ref (ad 0), .int (xs (nlaw n + 1).toNatClampNeg), .int (xs (nlaw n + 2).toNatClampNeg), .ref ao]) (rest := []) (ws' := fun u => wX11 ad c9 x.nextPast x.pastCount x.i_count x.i_cells x.o_count x.o_cells x.p_start x.p_end x.p_kind x.p_value x.p_error x.p_errorAt x.p_d_time x.p_d_tolerance x.p_d_seed x.p_d_madeTickets x.p_d_cheesesOfText x.p_d_R_rows x.p_d_R_cells x.p_d_U_rows x.p_d_U_cells x.p_d_S_rows x.p_d_S_cells x.p_d_T_rows x.p_d_T_cells x.p_d_E_rows x.p_d_E_cells x.s_time x.s_tolerance x.s_seed x.s_madeTickets x.s_cheesesOfText x.s_R_rows x.s_R_cells x.s_U_rows x.s_U_cells x.s_S_rows x.s_S_cells x.s_T_rows x.s_T_cells x.s_E_rows x.s_E_cells x.sl asl x.pa apa) (F' := fun u => wLF c9 x.sl asl x.pa apa ao (hout ox.1 fo ox.2.toInt64) (wMf am c9 m)) (c_L_distance l hG hl0 hNC D c9 sk sv hGU ad x.nextPast x.pastCount x.i_count x.i_cells x.o_count x.o_cells x.p_start x.p_end x.p_kind x.p_value x.p_error x.p_errorAt x.p_d_time x.p_d_tolerance x.p_d_seed x.p_d_madeTickets x.p_d_cheesesOfText x.p_d_R_rows x.p_d_R_cells x.p_d_U_rows x.p_d_U_cells x.p_d_S_rows x.p_d_S_cells x.p_d_T_rows x.p_d_T_cells x.p_d_E_rows x.p_d_E_cells x.s_time x.s_tolerance x.s_seed x.s_madeTickets x.s_cheesesOfText x.s_R_rows x.s_R_cells x.s_U_rows x.s_U_cells x.s_S_rows x.s_S_cells x.s_T_rows x.s_T_cells x.s_E_rows x.s_E_cells x.sl asl x.pa apa ao fo (xs (nlaw n + 1).toNatClampNeg) (xs (nlaw n + 2).toNatClampNeg) hx hex) 4 (gS wbd_113 wbd_114 wbd_2 wbd_115) rfl rfl rfl pd_L_distance ⟨Nat.le_of_ble_eq_true rfl, Nat.le_of_ble_eq_true rfl⟩ rfl rfl (Nat.le_of_ble_eq_true rfl) ⟨show nC + 2 ≤ 601024 by omega, show nS + 12 ≤ 7293034 by omega⟩ (fun _ => rfl) dL_law_821 824 rfl (fun u _ => ?_)
  refine v_istore X (lv' := [(5, .int (hcd [1] ox.1)), (0, .ref b), (1, .ref (ad 0)), (2, .ref (am 0)), (3, .ref ao), (4, .int (nlaw n))]) dL_law_824 (by decide) rfl 826 rfl ?_
  refine v_toM ?_
  refine v_aload_n X dL_law_826 3 rfl rfl 827 rfl ?_
  refine v_aload_n X dL_law_827 1 rfl rfl 828 rfl ?_
  refine v_iload X dL_law_828 5 rfl 830 rfl ?_
  refine v_iconst X dL_law_830 ic_1 831 rfl ?_
  refine v_iadd X dL_law_831 832 rfl ?_
  refine v_sld X hX hbl hbA (sc_in hn hL 1 (by decide)) dL_law_832 833 rfl ?_
  refine v_aload_n X dL_law_833 1 rfl rfl 834 rfl ?_
  refine v_iload X dL_law_834 5 rfl 836 rfl ?_
  refine v_iconst X dL_law_836 ic_2 837 rfl ?_
  refine v_iadd X dL_law_837 838 rfl ?_
  refine v_sld X hX hbl hbA (sc_in hn hL 2 (by decide)) dL_law_838 839 rfl ?_
  refine v_callVi X (C := RX12) (ci := 11) (T := TX12) (As := [.int (xs (nlaw n + 1).toNatClampNeg), .int (xs (nlaw n + 2).toNatClampNeg)]) (rest := []) (ws' := wX12 am c9 m.m_undoable m.m_undoStart om.2.1 m.m_inputLength m.m_position m.m_start m.m_token m.m_value m.m_letters m.m_code m.m_place m.m_outputLength m.m_s m.m_parsed m.m_tried m.m_remembered m.m_slots m.m_kept om.2.2 m.m_input m.m_halfway m.m_output) (c_X12_distance l hG D c9 am m.m_undoable m.m_undoStart m.m_thrown m.m_inputLength m.m_position m.m_start m.m_token m.m_value m.m_letters m.m_code m.m_place m.m_outputLength m.m_s m.m_parsed m.m_tried m.m_remembered m.m_slots m.m_kept m.m_away m.m_input m.m_halfway m.m_output (xs (nlaw n + 1).toNatClampNeg) (xs (nlaw n + 2).toNatClampNeg) hm) 2 (gV wbd_116 wbd_117 wbd_118 wbd_7 wbd_119) rfl rfl rfl ⟨rfl, pd_X12_distance⟩ ⟨Nat.le_of_ble_eq_true rfl, Nat.le_of_ble_eq_true rfl⟩ 0 rfl rfl rfl rfl (Nat.le_of_ble_eq_true rfl) ⟨show nC + 2 + 0 ≤ 601024 by omega, show nS + 12 + 0 ≤ 7293034 by omega⟩ [0, 1, 2, 3, 4, 5, 6, 7, 8, 9, 10] [] [0, 1, 2, 3, 4, 5, 6, 7, 8, 9, 10] rfl rfl rfl rfl dL_law_839 842 rfl ?_
  refine v_istore X (lv' := [(6, .int om.1), (5, .int (hcd [1] ox.1)), (0, .ref b), (1, .ref (ad 0)), (2, .ref (am 0)), (3, .ref ao), (4, .int (nlaw n))]) dL_law_842 (by decide) rfl 844 rfl ?_
  refine v_aload_n X dL_law_844 4 rfl rfl 845 rfl ?_
  refine v_callVi X (C := RX12) (ci := 11) (T := TX12) (As := []) (rest := []) (ws' := wX12 am c9 m.m_undoable m.m_undoStart om.2.1 m.m_inputLength m.m_position m.m_start m.m_token m.m_value m.m_letters m.m_code m.m_place m.m_outputLength m.m_s m.m_parsed m.m_tried m.m_remembered m.m_slots m.m_kept om.2.2 m.m_input m.m_halfway m.m_output) (c_X12_thrown l hG D c9 am m.m_undoable m.m_undoStart om.2.1 m.m_inputLength m.m_position m.m_start m.m_token m.m_value m.m_letters m.m_code m.m_place m.m_outputLength m.m_s m.m_parsed m.m_tried m.m_remembered m.m_slots m.m_kept om.2.2 m.m_input m.m_halfway m.m_output  rfl) 0 (gV wbd_9 wbd_10 wbd_11 wbd_7 wbd_12) rfl rfl rfl ⟨rfl, pd_X12_thrown⟩ ⟨Nat.le_of_ble_eq_true rfl, Nat.le_of_ble_eq_true rfl⟩ 0 rfl rfl rfl rfl (Nat.le_of_ble_eq_true rfl) ⟨show nC + 2 + 0 ≤ 601024 by omega, show nS + 12 + 0 ≤ 7293034 by omega⟩ [0, 1, 2, 3, 4, 5, 6, 7, 8, 9, 10] [] [0, 1, 2, 3, 4, 5, 6, 7, 8, 9, 10] rfl rfl rfl rfl dL_law_845 848 rfl ?_
  refine v_iload X dL_law_848 1 rfl 850 rfl ?_
  refine v_icmp_eq X (tgt := 855) dL_law_850 rfl 853 rfl (a := some ()) (b := none) (o := ()) (if_pos ht) (fun _ => ?_) (fun h => nomatch h)
  refine v_toX ?_
  refine v_iload X dL_law_855 1 rfl 857 rfl ?_
  by_cases h0 : ox.1 = 0
  · refine v_if_ne X (tgt := 872) dL_law_857 rfl 860 rfl (a := none) (b := some ()) (o := ()) (if_pos (by rw [h0]; rfl)) (fun h => nomatch h) (fun _ => ?_)
    refine v_aload_n X dL_law_860 5 rfl rfl 861 rfl ?_
    refine v_iconst X dL_law_861 ic_0 862 rfl ?_
    refine v_outld X dL_law_862 863 rfl ?_
    refine v_iload X dL_law_863 0 rfl 865 rfl ?_
    refine v_i2l X dL_law_865 866 rfl ?_
    refine v_lcmp X dL_law_866 867 rfl ?_
    refine v_if_eq X (tgt := 872) dL_law_867 rfl 870 rfl (a := some ()) (b := none) (o := ()) (if_pos (by rw [hout, if_pos h0, ← hv h0]; exact lg_cmp_self _)) (fun _ => ?_) (fun h => nomatch h)
    refine v_goto X (tgt := 3452) dL_law_872 rfl ?_
    refine v_sub (lv' := [(0, .ref b), (1, .ref (ad 0)), (2, .ref (am 0)), (3, .ref ao), (4, .int (nlaw n))]) [2, 3, 4, 5, 6] rfl ?_
    exact v_widen (by omega) (by omega) (K _ _ asl apa _ hR1)
  · refine v_if_ne X (tgt := 872) dL_law_857 rfl 860 rfl (a := some ()) (b := none) (o := ()) (if_neg (hcd_ne h0 (by decide))) (fun _ => ?_) (fun h => nomatch h)
    refine v_goto X (tgt := 3452) dL_law_872 rfl ?_
    refine v_sub (lv' := [(0, .ref b), (1, .ref (ad 0)), (2, .ref (am 0)), (3, .ref ao), (4, .int (nlaw n))]) [2, 3, 4, 5, 6] rfl ?_
    exact v_widen (by omega) (by omega) (K _ _ asl apa _ hR1)
set_option maxRecDepth 100000 in
set_option maxHeartbeats 4000000 in
theorem w_15 (l : Launch) {G : (Nat → Prop) → State → Heap → Prop} (hG : vG G) (hl0 : l.stackTraces = false) (hNC : ∀ (A : Nat → Prop) (U : State) (H : Heap), G A U H → ∀ q ∈ ncL, va_Nc q.1 q.2 U) (D : va_G) (c9 : Nat → ClassId) (sk sv : Nat → Nat) (hGU : ∀ (A : Nat → Prop) (U : State) (H : Heap), G A U H → vU sk sv A U H) (ad am : Nat → Nat) (ao b L : Nat) (xs : Nat → Int32) {p : Program} {e : Env} {s : State} {mm : MethodId} {args : Array Value} {below : List Frame} {meth : Method} {c : Code} {A : Nat → Prop} {Q : State → Prop} (X : vX p s mm args meth c cL_law 9 (some .boolean) RL (Cond.tt :: Wg) D (tyA c9) G A) (hX : va_X b L xs s s.heap) (hbl : b < s.heap.size) (hbA : ¬ A b) (REL : FX → FM → Prop) (hk : H15 REL) (n : Nat) (hn : n + 6 ≤ L) (hL : L ≤ 3072) (x : FX) (m : FM) (hR : REL x m) (asl apa : Nat → Nat → Nat) (fo : Nat → Int64) (nC nS : Nat) (hC : nC + 14 ≤ 601024) (hS : nS + 481 ≤ 7293034) (K : ∀ (x' : FX) (m' : FM) (asl' apa' : Nat → Nat → Nat) (fo' : Nat → Int64), REL x' m' → vW p l e room_1 s mm args below meth c 9 D A (wLF c9 x'.sl asl' x'.pa apa' ao fo' (wMf am c9 m')) (nC + 14) (nS + 481) Q (wXf ad c9 x' asl' apa') 3452 [(0, .ref b), (1, .ref (ad 0)), (2, .ref (am 0)), (3, .ref ao), (4, .int (nlaw n))] []) : vW p l e room_1 s mm args below meth c 9 D A (wLF c9 x.sl asl x.pa apa ao fo (wMf am c9 m)) nC nS Q (wXf ad c9 x asl apa) 875 [(0, .ref b), (1, .ref (ad 0)), (2, .ref (am 0)), (3, .ref ao), (4, .int (nlaw n))] [] := by
  obtain ⟨ox, om, hx, hex, hm, ht, hv, hR1⟩ := hk x m hR (xs (nlaw n + 1).toNatClampNeg) (xs (nlaw n + 2).toNatClampNeg)
  refine v_aload_n X dL_law_875 1 rfl rfl 876 rfl ?_
  refine v_aload_n X dL_law_876 0 rfl rfl 877 rfl ?_
  refine v_iload X dL_law_877 4 rfl 879 rfl ?_
  refine v_iconst X dL_law_879 ic_1 880 rfl ?_
  refine v_iadd X dL_law_880 881 rfl ?_
  refine v_sld X hX hbl hbA (sc_in hn hL 1 (by decide)) dL_law_881 882 rfl ?_
  refine v_aload_n X dL_law_882 0 rfl rfl 883 rfl ?_
  refine v_iload X dL_law_883 4 rfl 885 rfl ?_
  refine v_iconst X dL_law_885 ic_2 886 rfl ?_
  refine v_iadd X dL_law_886 887 rfl ?_
  refine v_sld X hX hbl hbA (sc_in hn hL 2 (by decide)) dL_law_887 888 rfl ?_
  refine v_aload_n X dL_law_888 3 rfl rfl 889 rfl ?_
  refine v_hcallS X (S := Unit) (As := [.ref (ad 0), .int (xs (nlaw n + 1).toNatClampNeg), .int (xs (nlaw n + 2).toNatClampNeg), .ref ao]) (rest := []) (ws' := fun u => wX11 ad c9 x.nextPast x.pastCount x.i_count x.i_cells x.o_count x.o_cells x.p_start x.p_end x.p_kind x.p_value x.p_error x.p_errorAt x.p_d_time x.p_d_tolerance x.p_d_seed x.p_d_madeTickets x.p_d_cheesesOfText x.p_d_R_rows x.p_d_R_cells x.p_d_U_rows x.p_d_U_cells x.p_d_S_rows x.p_d_S_cells x.p_d_T_rows x.p_d_T_cells x.p_d_E_rows x.p_d_E_cells x.s_time x.s_tolerance x.s_seed x.s_madeTickets x.s_cheesesOfText x.s_R_rows x.s_R_cells x.s_U_rows x.s_U_cells x.s_S_rows x.s_S_cells x.s_T_rows x.s_T_cells x.s_E_rows x.s_E_cells x.sl asl x.pa apa) (F' := fun u => wLF c9 x.sl asl x.pa apa ao (hout ox.1 fo ox.2.toInt64) (wMf am c9 m)) (c_L_nextRealm l hG hl0 hNC D c9 sk sv hGU ad x.nextPast x.pastCount x.i_count x.i_cells x.o_count x.o_cells x.p_start x.p_end x.p_kind x.p_value x.p_error x.p_errorAt x.p_d_time x.p_d_tolerance x.p_d_seed x.p_d_madeTickets x.p_d_cheesesOfText x.p_d_R_rows x.p_d_R_cells x.p_d_U_rows x.p_d_U_cells x.p_d_S_rows x.p_d_S_cells x.p_d_T_rows x.p_d_T_cells x.p_d_E_rows x.p_d_E_cells x.s_time x.s_tolerance x.s_seed x.s_madeTickets x.s_cheesesOfText x.s_R_rows x.s_R_cells x.s_U_rows x.s_U_cells x.s_S_rows x.s_S_cells x.s_T_rows x.s_T_cells x.s_E_rows x.s_E_cells x.sl asl x.pa apa ao fo (xs (nlaw n + 1).toNatClampNeg) (xs (nlaw n + 2).toNatClampNeg) hx hex) 4 (gS wbd_120 wbd_121 wbd_2 wbd_122) rfl rfl rfl pd_L_nextRealm ⟨Nat.le_of_ble_eq_true rfl, Nat.le_of_ble_eq_true rfl⟩ rfl rfl (Nat.le_of_ble_eq_true rfl) ⟨show nC + 2 ≤ 601024 by omega, show nS + 12 ≤ 7293034 by omega⟩ (fun _ => rfl) dL_law_889 892 rfl (fun u _ => ?_)
  refine v_istore X (lv' := [(5, .int (hcd [1] ox.1)), (0, .ref b), (1, .ref (ad 0)), (2, .ref (am 0)), (3, .ref ao), (4, .int (nlaw n))]) dL_law_892 (by decide) rfl 894 rfl ?_
  refine v_toM ?_
  refine v_aload_n X dL_law_894 3 rfl rfl 895 rfl ?_
  refine v_aload_n X dL_law_895 1 rfl rfl 896 rfl ?_
  refine v_iload X dL_law_896 5 rfl 898 rfl ?_
  refine v_iconst X dL_law_898 ic_1 899 rfl ?_
  refine v_iadd X dL_law_899 900 rfl ?_
  refine v_sld X hX hbl hbA (sc_in hn hL 1 (by decide)) dL_law_900 901 rfl ?_
  refine v_aload_n X dL_law_901 1 rfl rfl 902 rfl ?_
  refine v_iload X dL_law_902 5 rfl 904 rfl ?_
  refine v_iconst X dL_law_904 ic_2 905 rfl ?_
  refine v_iadd X dL_law_905 906 rfl ?_
  refine v_sld X hX hbl hbA (sc_in hn hL 2 (by decide)) dL_law_906 907 rfl ?_
  refine v_callVi X (C := RX12) (ci := 11) (T := TX12) (As := [.int (xs (nlaw n + 1).toNatClampNeg), .int (xs (nlaw n + 2).toNatClampNeg)]) (rest := []) (ws' := wX12 am c9 m.m_undoable m.m_undoStart om.2.1 m.m_inputLength m.m_position m.m_start m.m_token m.m_value m.m_letters m.m_code m.m_place m.m_outputLength m.m_s m.m_parsed m.m_tried m.m_remembered m.m_slots m.m_kept om.2.2 m.m_input m.m_halfway m.m_output) (c_X12_nextRealm l hG D c9 am m.m_undoable m.m_undoStart m.m_thrown m.m_inputLength m.m_position m.m_start m.m_token m.m_value m.m_letters m.m_code m.m_place m.m_outputLength m.m_s m.m_parsed m.m_tried m.m_remembered m.m_slots m.m_kept m.m_away m.m_input m.m_halfway m.m_output (xs (nlaw n + 1).toNatClampNeg) (xs (nlaw n + 2).toNatClampNeg) hm) 2 (gV wbd_123 wbd_124 wbd_125 wbd_7 wbd_126) rfl rfl rfl ⟨rfl, pd_X12_nextRealm⟩ ⟨Nat.le_of_ble_eq_true rfl, Nat.le_of_ble_eq_true rfl⟩ 0 rfl rfl rfl rfl (Nat.le_of_ble_eq_true rfl) ⟨show nC + 2 + 0 ≤ 601024 by omega, show nS + 12 + 0 ≤ 7293034 by omega⟩ [0, 1, 2, 3, 4, 5, 6, 7, 8, 9, 10] [] [0, 1, 2, 3, 4, 5, 6, 7, 8, 9, 10] rfl rfl rfl rfl dL_law_907 910 rfl ?_
  refine v_istore X (lv' := [(6, .int om.1), (5, .int (hcd [1] ox.1)), (0, .ref b), (1, .ref (ad 0)), (2, .ref (am 0)), (3, .ref ao), (4, .int (nlaw n))]) dL_law_910 (by decide) rfl 912 rfl ?_
  refine v_aload_n X dL_law_912 4 rfl rfl 913 rfl ?_
  refine v_callVi X (C := RX12) (ci := 11) (T := TX12) (As := []) (rest := []) (ws' := wX12 am c9 m.m_undoable m.m_undoStart om.2.1 m.m_inputLength m.m_position m.m_start m.m_token m.m_value m.m_letters m.m_code m.m_place m.m_outputLength m.m_s m.m_parsed m.m_tried m.m_remembered m.m_slots m.m_kept om.2.2 m.m_input m.m_halfway m.m_output) (c_X12_thrown l hG D c9 am m.m_undoable m.m_undoStart om.2.1 m.m_inputLength m.m_position m.m_start m.m_token m.m_value m.m_letters m.m_code m.m_place m.m_outputLength m.m_s m.m_parsed m.m_tried m.m_remembered m.m_slots m.m_kept om.2.2 m.m_input m.m_halfway m.m_output  rfl) 0 (gV wbd_9 wbd_10 wbd_11 wbd_7 wbd_12) rfl rfl rfl ⟨rfl, pd_X12_thrown⟩ ⟨Nat.le_of_ble_eq_true rfl, Nat.le_of_ble_eq_true rfl⟩ 0 rfl rfl rfl rfl (Nat.le_of_ble_eq_true rfl) ⟨show nC + 2 + 0 ≤ 601024 by omega, show nS + 12 + 0 ≤ 7293034 by omega⟩ [0, 1, 2, 3, 4, 5, 6, 7, 8, 9, 10] [] [0, 1, 2, 3, 4, 5, 6, 7, 8, 9, 10] rfl rfl rfl rfl dL_law_913 916 rfl ?_
  refine v_iload X dL_law_916 1 rfl 918 rfl ?_
  refine v_icmp_eq X (tgt := 923) dL_law_918 rfl 921 rfl (a := some ()) (b := none) (o := ()) (if_pos ht) (fun _ => ?_) (fun h => nomatch h)
  refine v_toX ?_
  refine v_iload X dL_law_923 1 rfl 925 rfl ?_
  by_cases h0 : ox.1 = 0
  · refine v_if_ne X (tgt := 940) dL_law_925 rfl 928 rfl (a := none) (b := some ()) (o := ()) (if_pos (by rw [h0]; rfl)) (fun h => nomatch h) (fun _ => ?_)
    refine v_aload_n X dL_law_928 5 rfl rfl 929 rfl ?_
    refine v_iconst X dL_law_929 ic_0 930 rfl ?_
    refine v_outld X dL_law_930 931 rfl ?_
    refine v_iload X dL_law_931 0 rfl 933 rfl ?_
    refine v_i2l X dL_law_933 934 rfl ?_
    refine v_lcmp X dL_law_934 935 rfl ?_
    refine v_if_eq X (tgt := 940) dL_law_935 rfl 938 rfl (a := some ()) (b := none) (o := ()) (if_pos (by rw [hout, if_pos h0, ← hv h0]; exact lg_cmp_self _)) (fun _ => ?_) (fun h => nomatch h)
    refine v_goto X (tgt := 3452) dL_law_940 rfl ?_
    refine v_sub (lv' := [(0, .ref b), (1, .ref (ad 0)), (2, .ref (am 0)), (3, .ref ao), (4, .int (nlaw n))]) [2, 3, 4, 5, 6] rfl ?_
    exact v_widen (by omega) (by omega) (K _ _ asl apa _ hR1)
  · refine v_if_ne X (tgt := 940) dL_law_925 rfl 928 rfl (a := some ()) (b := none) (o := ()) (if_neg (hcd_ne h0 (by decide))) (fun _ => ?_) (fun h => nomatch h)
    refine v_goto X (tgt := 3452) dL_law_940 rfl ?_
    refine v_sub (lv' := [(0, .ref b), (1, .ref (ad 0)), (2, .ref (am 0)), (3, .ref ao), (4, .int (nlaw n))]) [2, 3, 4, 5, 6] rfl ?_
    exact v_widen (by omega) (by omega) (K _ _ asl apa _ hR1)
set_option maxRecDepth 100000 in
set_option maxHeartbeats 4000000 in
theorem w_16 (l : Launch) {G : (Nat → Prop) → State → Heap → Prop} (hG : vG G) (hl0 : l.stackTraces = false) (hNC : ∀ (A : Nat → Prop) (U : State) (H : Heap), G A U H → ∀ q ∈ ncL, va_Nc q.1 q.2 U) (D : va_G) (c9 : Nat → ClassId) (sk sv : Nat → Nat) (hGU : ∀ (A : Nat → Prop) (U : State) (H : Heap), G A U H → vU sk sv A U H) (ad am : Nat → Nat) (ao b L : Nat) (xs : Nat → Int32) {p : Program} {e : Env} {s : State} {mm : MethodId} {args : Array Value} {below : List Frame} {meth : Method} {c : Code} {A : Nat → Prop} {Q : State → Prop} (X : vX p s mm args meth c cL_law 9 (some .boolean) RL (Cond.tt :: Wg) D (tyA c9) G A) (hX : va_X b L xs s s.heap) (hbl : b < s.heap.size) (hbA : ¬ A b) (REL : FX → FM → Prop) (hk : H16 REL) (n : Nat) (hn : n + 6 ≤ L) (hL : L ≤ 3072) (x : FX) (m : FM) (hR : REL x m) (asl apa : Nat → Nat → Nat) (fo : Nat → Int64) (nC nS : Nat) (hC : nC + 14 ≤ 601024) (hS : nS + 481 ≤ 7293034) (K : ∀ (x' : FX) (m' : FM) (asl' apa' : Nat → Nat → Nat) (fo' : Nat → Int64), REL x' m' → vW p l e room_1 s mm args below meth c 9 D A (wLF c9 x'.sl asl' x'.pa apa' ao fo' (wMf am c9 m')) (nC + 14) (nS + 481) Q (wXf ad c9 x' asl' apa') 3452 [(0, .ref b), (1, .ref (ad 0)), (2, .ref (am 0)), (3, .ref ao), (4, .int (nlaw n))] []) : vW p l e room_1 s mm args below meth c 9 D A (wLF c9 x.sl asl x.pa apa ao fo (wMf am c9 m)) nC nS Q (wXf ad c9 x asl apa) 943 [(0, .ref b), (1, .ref (ad 0)), (2, .ref (am 0)), (3, .ref ao), (4, .int (nlaw n))] [] := by
  obtain ⟨ox, om, hx, hex, hm, ht, hv, hR1⟩ := hk x m hR (xs (nlaw n + 1).toNatClampNeg)
  refine v_aload_n X dL_law_943 1 rfl rfl 944 rfl ?_
  refine v_aload_n X dL_law_944 0 rfl rfl 945 rfl ?_
  refine v_iload X dL_law_945 4 rfl 947 rfl ?_
  refine v_iconst X dL_law_947 ic_1 948 rfl ?_
  refine v_iadd X dL_law_948 949 rfl ?_
  refine v_sld X hX hbl hbA (sc_in hn hL 1 (by decide)) dL_law_949 950 rfl ?_
  refine v_aload_n X dL_law_950 3 rfl rfl 951 rfl ?_
  refine v_hcallS X (S := Unit) (As := [.ref (ad 0), .int (xs (nlaw n + 1).toNatClampNeg), .ref ao]) (rest := []) (ws' := fun u => wX11 ad c9 x.nextPast x.pastCount x.i_count x.i_cells x.o_count x.o_cells x.p_start x.p_end x.p_kind x.p_value x.p_error x.p_errorAt x.p_d_time x.p_d_tolerance x.p_d_seed x.p_d_madeTickets x.p_d_cheesesOfText x.p_d_R_rows x.p_d_R_cells x.p_d_U_rows x.p_d_U_cells x.p_d_S_rows x.p_d_S_cells x.p_d_T_rows x.p_d_T_cells x.p_d_E_rows x.p_d_E_cells x.s_time x.s_tolerance x.s_seed x.s_madeTickets x.s_cheesesOfText x.s_R_rows x.s_R_cells x.s_U_rows x.s_U_cells x.s_S_rows x.s_S_cells x.s_T_rows x.s_T_cells x.s_E_rows x.s_E_cells x.sl asl x.pa apa) (F' := fun u => wLF c9 x.sl asl x.pa apa ao (hout ox.1 fo ox.2.toInt64) (wMf am c9 m)) (c_L_homeOf l hG hl0 hNC D c9 sk sv hGU ad x.nextPast x.pastCount x.i_count x.i_cells x.o_count x.o_cells x.p_start x.p_end x.p_kind x.p_value x.p_error x.p_errorAt x.p_d_time x.p_d_tolerance x.p_d_seed x.p_d_madeTickets x.p_d_cheesesOfText x.p_d_R_rows x.p_d_R_cells x.p_d_U_rows x.p_d_U_cells x.p_d_S_rows x.p_d_S_cells x.p_d_T_rows x.p_d_T_cells x.p_d_E_rows x.p_d_E_cells x.s_time x.s_tolerance x.s_seed x.s_madeTickets x.s_cheesesOfText x.s_R_rows x.s_R_cells x.s_U_rows x.s_U_cells x.s_S_rows x.s_S_cells x.s_T_rows x.s_T_cells x.s_E_rows x.s_E_cells x.sl asl x.pa apa ao fo (xs (nlaw n + 1).toNatClampNeg) hx hex) 3 (gS wbd_127 wbd_128 wbd_2 wbd_129) rfl rfl rfl pd_L_homeOf ⟨Nat.le_of_ble_eq_true rfl, Nat.le_of_ble_eq_true rfl⟩ rfl rfl (Nat.le_of_ble_eq_true rfl) ⟨show nC + 1 ≤ 601024 by omega, show nS + 6 ≤ 7293034 by omega⟩ (fun _ => rfl) dL_law_951 954 rfl (fun u _ => ?_)
  refine v_istore X (lv' := [(5, .int (hcd [1] ox.1)), (0, .ref b), (1, .ref (ad 0)), (2, .ref (am 0)), (3, .ref ao), (4, .int (nlaw n))]) dL_law_954 (by decide) rfl 956 rfl ?_
  refine v_toM ?_
  refine v_aload_n X dL_law_956 3 rfl rfl 957 rfl ?_
  refine v_aload_n X dL_law_957 1 rfl rfl 958 rfl ?_
  refine v_iload X dL_law_958 5 rfl 960 rfl ?_
  refine v_iconst X dL_law_960 ic_1 961 rfl ?_
  refine v_iadd X dL_law_961 962 rfl ?_
  refine v_sld X hX hbl hbA (sc_in hn hL 1 (by decide)) dL_law_962 963 rfl ?_
  refine v_callVi X (C := RX12) (ci := 11) (T := TX12) (As := [.int (xs (nlaw n + 1).toNatClampNeg)]) (rest := []) (ws' := wX12 am c9 m.m_undoable m.m_undoStart om.2 m.m_inputLength m.m_position m.m_start m.m_token m.m_value m.m_letters m.m_code m.m_place m.m_outputLength m.m_s m.m_parsed m.m_tried m.m_remembered m.m_slots m.m_kept m.m_away m.m_input m.m_halfway m.m_output) (c_X12_homeOf l hG D c9 am m.m_undoable m.m_undoStart m.m_thrown m.m_inputLength m.m_position m.m_start m.m_token m.m_value m.m_letters m.m_code m.m_place m.m_outputLength m.m_s m.m_parsed m.m_tried m.m_remembered m.m_slots m.m_kept m.m_away m.m_input m.m_halfway m.m_output (xs (nlaw n + 1).toNatClampNeg) hm) 1 (gV wbd_130 wbd_131 wbd_132 wbd_7 wbd_133) rfl rfl rfl ⟨rfl, pd_X12_homeOf⟩ ⟨Nat.le_of_ble_eq_true rfl, Nat.le_of_ble_eq_true rfl⟩ 0 rfl rfl rfl rfl (Nat.le_of_ble_eq_true rfl) ⟨show nC + 1 + 0 ≤ 601024 by omega, show nS + 6 + 0 ≤ 7293034 by omega⟩ [0, 1, 2, 3, 4, 5, 6, 7, 8, 9, 10] [] [0, 1, 2, 3, 4, 5, 6, 7, 8, 9, 10] rfl rfl rfl rfl dL_law_963 966 rfl ?_
  refine v_istore X (lv' := [(6, .int om.1), (5, .int (hcd [1] ox.1)), (0, .ref b), (1, .ref (ad 0)), (2, .ref (am 0)), (3, .ref ao), (4, .int (nlaw n))]) dL_law_966 (by decide) rfl 968 rfl ?_
  refine v_aload_n X dL_law_968 4 rfl rfl 969 rfl ?_
  refine v_callVi X (C := RX12) (ci := 11) (T := TX12) (As := []) (rest := []) (ws' := wX12 am c9 m.m_undoable m.m_undoStart om.2 m.m_inputLength m.m_position m.m_start m.m_token m.m_value m.m_letters m.m_code m.m_place m.m_outputLength m.m_s m.m_parsed m.m_tried m.m_remembered m.m_slots m.m_kept m.m_away m.m_input m.m_halfway m.m_output) (c_X12_thrown l hG D c9 am m.m_undoable m.m_undoStart om.2 m.m_inputLength m.m_position m.m_start m.m_token m.m_value m.m_letters m.m_code m.m_place m.m_outputLength m.m_s m.m_parsed m.m_tried m.m_remembered m.m_slots m.m_kept m.m_away m.m_input m.m_halfway m.m_output  rfl) 0 (gV wbd_9 wbd_10 wbd_11 wbd_7 wbd_12) rfl rfl rfl ⟨rfl, pd_X12_thrown⟩ ⟨Nat.le_of_ble_eq_true rfl, Nat.le_of_ble_eq_true rfl⟩ 0 rfl rfl rfl rfl (Nat.le_of_ble_eq_true rfl) ⟨show nC + 1 + 0 ≤ 601024 by omega, show nS + 6 + 0 ≤ 7293034 by omega⟩ [0, 1, 2, 3, 4, 5, 6, 7, 8, 9, 10] [] [0, 1, 2, 3, 4, 5, 6, 7, 8, 9, 10] rfl rfl rfl rfl dL_law_969 972 rfl ?_
  refine v_iload X dL_law_972 1 rfl 974 rfl ?_
  refine v_icmp_eq X (tgt := 979) dL_law_974 rfl 977 rfl (a := some ()) (b := none) (o := ()) (if_pos ht) (fun _ => ?_) (fun h => nomatch h)
  refine v_toX ?_
  refine v_iload X dL_law_979 1 rfl 981 rfl ?_
  by_cases h0 : ox.1 = 0
  · refine v_if_ne X (tgt := 996) dL_law_981 rfl 984 rfl (a := none) (b := some ()) (o := ()) (if_pos (by rw [h0]; rfl)) (fun h => nomatch h) (fun _ => ?_)
    refine v_aload_n X dL_law_984 5 rfl rfl 985 rfl ?_
    refine v_iconst X dL_law_985 ic_0 986 rfl ?_
    refine v_outld X dL_law_986 987 rfl ?_
    refine v_iload X dL_law_987 0 rfl 989 rfl ?_
    refine v_i2l X dL_law_989 990 rfl ?_
    refine v_lcmp X dL_law_990 991 rfl ?_
    refine v_if_eq X (tgt := 996) dL_law_991 rfl 994 rfl (a := some ()) (b := none) (o := ()) (if_pos (by rw [hout, if_pos h0, ← hv h0]; exact lg_cmp_self _)) (fun _ => ?_) (fun h => nomatch h)
    refine v_goto X (tgt := 3452) dL_law_996 rfl ?_
    refine v_sub (lv' := [(0, .ref b), (1, .ref (ad 0)), (2, .ref (am 0)), (3, .ref ao), (4, .int (nlaw n))]) [2, 3, 4, 5, 6] rfl ?_
    exact v_widen (by omega) (by omega) (K _ _ asl apa _ hR1)
  · refine v_if_ne X (tgt := 996) dL_law_981 rfl 984 rfl (a := some ()) (b := none) (o := ()) (if_neg (hcd_ne h0 (by decide))) (fun _ => ?_) (fun h => nomatch h)
    refine v_goto X (tgt := 3452) dL_law_996 rfl ?_
    refine v_sub (lv' := [(0, .ref b), (1, .ref (ad 0)), (2, .ref (am 0)), (3, .ref ao), (4, .int (nlaw n))]) [2, 3, 4, 5, 6] rfl ?_
    exact v_widen (by omega) (by omega) (K _ _ asl apa _ hR1)
set_option maxRecDepth 100000 in
set_option maxHeartbeats 4000000 in
theorem w_17 (l : Launch) {G : (Nat → Prop) → State → Heap → Prop} (hG : vG G) (hl0 : l.stackTraces = false) (hNC : ∀ (A : Nat → Prop) (U : State) (H : Heap), G A U H → ∀ q ∈ ncL, va_Nc q.1 q.2 U) (D : va_G) (c9 : Nat → ClassId) (sk sv : Nat → Nat) (hGU : ∀ (A : Nat → Prop) (U : State) (H : Heap), G A U H → vU sk sv A U H) (ad am : Nat → Nat) (ao b L : Nat) (xs : Nat → Int32) {p : Program} {e : Env} {s : State} {mm : MethodId} {args : Array Value} {below : List Frame} {meth : Method} {c : Code} {A : Nat → Prop} {Q : State → Prop} (X : vX p s mm args meth c cL_law 9 (some .boolean) RL (Cond.tt :: Wg) D (tyA c9) G A) (hX : va_X b L xs s s.heap) (hbl : b < s.heap.size) (hbA : ¬ A b) (REL : FX → FM → Prop) (hk : H17 REL) (n : Nat) (hn : n + 6 ≤ L) (hL : L ≤ 3072) (x : FX) (m : FM) (hR : REL x m) (asl apa : Nat → Nat → Nat) (fo : Nat → Int64) (nC nS : Nat) (hC : nC + 14 ≤ 601024) (hS : nS + 481 ≤ 7293034) (K : ∀ (x' : FX) (m' : FM) (asl' apa' : Nat → Nat → Nat) (fo' : Nat → Int64), REL x' m' → vW p l e room_1 s mm args below meth c 9 D A (wLF c9 x'.sl asl' x'.pa apa' ao fo' (wMf am c9 m')) (nC + 14) (nS + 481) Q (wXf ad c9 x' asl' apa') 3452 [(0, .ref b), (1, .ref (ad 0)), (2, .ref (am 0)), (3, .ref ao), (4, .int (nlaw n))] []) : vW p l e room_1 s mm args below meth c 9 D A (wLF c9 x.sl asl x.pa apa ao fo (wMf am c9 m)) nC nS Q (wXf ad c9 x asl apa) 999 [(0, .ref b), (1, .ref (ad 0)), (2, .ref (am 0)), (3, .ref ao), (4, .int (nlaw n))] [] := by
  obtain ⟨ox, om, hx, hex, hm, ht, hv, hR1⟩ := hk x m hR (xs (nlaw n + 1).toNatClampNeg)
  refine v_aload_n X dL_law_999 1 rfl rfl 1000 rfl ?_
  refine v_aload_n X dL_law_1000 0 rfl rfl 1001 rfl ?_
  refine v_iload X dL_law_1001 4 rfl 1003 rfl ?_
  refine v_iconst X dL_law_1003 ic_1 1004 rfl ?_
  refine v_iadd X dL_law_1004 1005 rfl ?_
  refine v_sld X hX hbl hbA (sc_in hn hL 1 (by decide)) dL_law_1005 1006 rfl ?_
  refine v_aload_n X dL_law_1006 3 rfl rfl 1007 rfl ?_
  refine v_hcallS X (S := Unit) (As := [.ref (ad 0), .int (xs (nlaw n + 1).toNatClampNeg), .ref ao]) (rest := []) (ws' := fun u => wX11 ad c9 x.nextPast x.pastCount x.i_count x.i_cells x.o_count x.o_cells x.p_start x.p_end x.p_kind x.p_value x.p_error x.p_errorAt x.p_d_time x.p_d_tolerance x.p_d_seed x.p_d_madeTickets x.p_d_cheesesOfText x.p_d_R_rows x.p_d_R_cells x.p_d_U_rows x.p_d_U_cells x.p_d_S_rows x.p_d_S_cells x.p_d_T_rows x.p_d_T_cells x.p_d_E_rows x.p_d_E_cells x.s_time x.s_tolerance x.s_seed x.s_madeTickets x.s_cheesesOfText x.s_R_rows x.s_R_cells x.s_U_rows x.s_U_cells x.s_S_rows x.s_S_cells x.s_T_rows x.s_T_cells x.s_E_rows x.s_E_cells x.sl asl x.pa apa) (F' := fun u => wLF c9 x.sl asl x.pa apa ao (hout ox.1 fo ox.2.toInt64) (wMf am c9 m)) (c_L_cheesesOf l hG hl0 hNC D c9 sk sv hGU ad x.nextPast x.pastCount x.i_count x.i_cells x.o_count x.o_cells x.p_start x.p_end x.p_kind x.p_value x.p_error x.p_errorAt x.p_d_time x.p_d_tolerance x.p_d_seed x.p_d_madeTickets x.p_d_cheesesOfText x.p_d_R_rows x.p_d_R_cells x.p_d_U_rows x.p_d_U_cells x.p_d_S_rows x.p_d_S_cells x.p_d_T_rows x.p_d_T_cells x.p_d_E_rows x.p_d_E_cells x.s_time x.s_tolerance x.s_seed x.s_madeTickets x.s_cheesesOfText x.s_R_rows x.s_R_cells x.s_U_rows x.s_U_cells x.s_S_rows x.s_S_cells x.s_T_rows x.s_T_cells x.s_E_rows x.s_E_cells x.sl asl x.pa apa ao fo (xs (nlaw n + 1).toNatClampNeg) hx hex) 3 (gS wbd_134 wbd_135 wbd_2 wbd_136) rfl rfl rfl pd_L_cheesesOf ⟨Nat.le_of_ble_eq_true rfl, Nat.le_of_ble_eq_true rfl⟩ rfl rfl (Nat.le_of_ble_eq_true rfl) ⟨show nC + 1 ≤ 601024 by omega, show nS + 6 ≤ 7293034 by omega⟩ (fun _ => rfl) dL_law_1007 1010 rfl (fun u _ => ?_)
  refine v_istore X (lv' := [(5, .int (hcd [1] ox.1)), (0, .ref b), (1, .ref (ad 0)), (2, .ref (am 0)), (3, .ref ao), (4, .int (nlaw n))]) dL_law_1010 (by decide) rfl 1012 rfl ?_
  refine v_toM ?_
  refine v_aload_n X dL_law_1012 3 rfl rfl 1013 rfl ?_
  refine v_aload_n X dL_law_1013 1 rfl rfl 1014 rfl ?_
  refine v_iload X dL_law_1014 5 rfl 1016 rfl ?_
  refine v_iconst X dL_law_1016 ic_1 1017 rfl ?_
  refine v_iadd X dL_law_1017 1018 rfl ?_
  refine v_sld X hX hbl hbA (sc_in hn hL 1 (by decide)) dL_law_1018 1019 rfl ?_
  refine v_callVi X (C := RX12) (ci := 11) (T := TX12) (As := [.int (xs (nlaw n + 1).toNatClampNeg)]) (rest := []) (ws' := wX12 am c9 m.m_undoable m.m_undoStart om.2 m.m_inputLength m.m_position m.m_start m.m_token m.m_value m.m_letters m.m_code m.m_place m.m_outputLength m.m_s m.m_parsed m.m_tried m.m_remembered m.m_slots m.m_kept m.m_away m.m_input m.m_halfway m.m_output) (c_X12_cheesesOf l hG D c9 am m.m_undoable m.m_undoStart m.m_thrown m.m_inputLength m.m_position m.m_start m.m_token m.m_value m.m_letters m.m_code m.m_place m.m_outputLength m.m_s m.m_parsed m.m_tried m.m_remembered m.m_slots m.m_kept m.m_away m.m_input m.m_halfway m.m_output (xs (nlaw n + 1).toNatClampNeg) hm) 1 (gV wbd_137 wbd_138 wbd_139 wbd_7 wbd_140) rfl rfl rfl ⟨rfl, pd_X12_cheesesOf⟩ ⟨Nat.le_of_ble_eq_true rfl, Nat.le_of_ble_eq_true rfl⟩ 0 rfl rfl rfl rfl (Nat.le_of_ble_eq_true rfl) ⟨show nC + 1 + 0 ≤ 601024 by omega, show nS + 6 + 0 ≤ 7293034 by omega⟩ [0, 1, 2, 3, 4, 5, 6, 7, 8, 9, 10] [] [0, 1, 2, 3, 4, 5, 6, 7, 8, 9, 10] rfl rfl rfl rfl dL_law_1019 1022 rfl ?_
  refine v_istore X (lv' := [(6, .int om.1), (5, .int (hcd [1] ox.1)), (0, .ref b), (1, .ref (ad 0)), (2, .ref (am 0)), (3, .ref ao), (4, .int (nlaw n))]) dL_law_1022 (by decide) rfl 1024 rfl ?_
  refine v_aload_n X dL_law_1024 4 rfl rfl 1025 rfl ?_
  refine v_callVi X (C := RX12) (ci := 11) (T := TX12) (As := []) (rest := []) (ws' := wX12 am c9 m.m_undoable m.m_undoStart om.2 m.m_inputLength m.m_position m.m_start m.m_token m.m_value m.m_letters m.m_code m.m_place m.m_outputLength m.m_s m.m_parsed m.m_tried m.m_remembered m.m_slots m.m_kept m.m_away m.m_input m.m_halfway m.m_output) (c_X12_thrown l hG D c9 am m.m_undoable m.m_undoStart om.2 m.m_inputLength m.m_position m.m_start m.m_token m.m_value m.m_letters m.m_code m.m_place m.m_outputLength m.m_s m.m_parsed m.m_tried m.m_remembered m.m_slots m.m_kept m.m_away m.m_input m.m_halfway m.m_output  rfl) 0 (gV wbd_9 wbd_10 wbd_11 wbd_7 wbd_12) rfl rfl rfl ⟨rfl, pd_X12_thrown⟩ ⟨Nat.le_of_ble_eq_true rfl, Nat.le_of_ble_eq_true rfl⟩ 0 rfl rfl rfl rfl (Nat.le_of_ble_eq_true rfl) ⟨show nC + 1 + 0 ≤ 601024 by omega, show nS + 6 + 0 ≤ 7293034 by omega⟩ [0, 1, 2, 3, 4, 5, 6, 7, 8, 9, 10] [] [0, 1, 2, 3, 4, 5, 6, 7, 8, 9, 10] rfl rfl rfl rfl dL_law_1025 1028 rfl ?_
  refine v_iload X dL_law_1028 1 rfl 1030 rfl ?_
  refine v_icmp_eq X (tgt := 1035) dL_law_1030 rfl 1033 rfl (a := some ()) (b := none) (o := ()) (if_pos ht) (fun _ => ?_) (fun h => nomatch h)
  refine v_toX ?_
  refine v_iload X dL_law_1035 1 rfl 1037 rfl ?_
  by_cases h0 : ox.1 = 0
  · refine v_if_ne X (tgt := 1052) dL_law_1037 rfl 1040 rfl (a := none) (b := some ()) (o := ()) (if_pos (by rw [h0]; rfl)) (fun h => nomatch h) (fun _ => ?_)
    refine v_aload_n X dL_law_1040 5 rfl rfl 1041 rfl ?_
    refine v_iconst X dL_law_1041 ic_0 1042 rfl ?_
    refine v_outld X dL_law_1042 1043 rfl ?_
    refine v_iload X dL_law_1043 0 rfl 1045 rfl ?_
    refine v_i2l X dL_law_1045 1046 rfl ?_
    refine v_lcmp X dL_law_1046 1047 rfl ?_
    refine v_if_eq X (tgt := 1052) dL_law_1047 rfl 1050 rfl (a := some ()) (b := none) (o := ()) (if_pos (by rw [hout, if_pos h0, ← hv h0]; exact lg_cmp_self _)) (fun _ => ?_) (fun h => nomatch h)
    refine v_goto X (tgt := 3452) dL_law_1052 rfl ?_
    refine v_sub (lv' := [(0, .ref b), (1, .ref (ad 0)), (2, .ref (am 0)), (3, .ref ao), (4, .int (nlaw n))]) [2, 3, 4, 5, 6] rfl ?_
    exact v_widen (by omega) (by omega) (K _ _ asl apa _ hR1)
  · refine v_if_ne X (tgt := 1052) dL_law_1037 rfl 1040 rfl (a := some ()) (b := none) (o := ()) (if_neg (hcd_ne h0 (by decide))) (fun _ => ?_) (fun h => nomatch h)
    refine v_goto X (tgt := 3452) dL_law_1052 rfl ?_
    refine v_sub (lv' := [(0, .ref b), (1, .ref (ad 0)), (2, .ref (am 0)), (3, .ref ao), (4, .int (nlaw n))]) [2, 3, 4, 5, 6] rfl ?_
    exact v_widen (by omega) (by omega) (K _ _ asl apa _ hR1)
set_option maxRecDepth 100000 in
set_option maxHeartbeats 4000000 in
theorem w_18 (l : Launch) {G : (Nat → Prop) → State → Heap → Prop} (hG : vG G) (hl0 : l.stackTraces = false) (hNC : ∀ (A : Nat → Prop) (U : State) (H : Heap), G A U H → ∀ q ∈ ncL, va_Nc q.1 q.2 U) (D : va_G) (c9 : Nat → ClassId) (sk sv : Nat → Nat) (hGU : ∀ (A : Nat → Prop) (U : State) (H : Heap), G A U H → vU sk sv A U H) (ad am : Nat → Nat) (ao b L : Nat) (xs : Nat → Int32) {p : Program} {e : Env} {s : State} {mm : MethodId} {args : Array Value} {below : List Frame} {meth : Method} {c : Code} {A : Nat → Prop} {Q : State → Prop} (X : vX p s mm args meth c cL_law 9 (some .boolean) RL (Cond.tt :: Wg) D (tyA c9) G A) (hX : va_X b L xs s s.heap) (hbl : b < s.heap.size) (hbA : ¬ A b) (REL : FX → FM → Prop) (hk : H18 REL) (n : Nat) (hn : n + 6 ≤ L) (hL : L ≤ 3072) (x : FX) (m : FM) (hR : REL x m) (asl apa : Nat → Nat → Nat) (fo : Nat → Int64) (nC nS : Nat) (hC : nC + 14 ≤ 601024) (hS : nS + 481 ≤ 7293034) (K : ∀ (x' : FX) (m' : FM) (asl' apa' : Nat → Nat → Nat) (fo' : Nat → Int64), REL x' m' → vW p l e room_1 s mm args below meth c 9 D A (wLF c9 x'.sl asl' x'.pa apa' ao fo' (wMf am c9 m')) (nC + 14) (nS + 481) Q (wXf ad c9 x' asl' apa') 3452 [(0, .ref b), (1, .ref (ad 0)), (2, .ref (am 0)), (3, .ref ao), (4, .int (nlaw n))] []) : vW p l e room_1 s mm args below meth c 9 D A (wLF c9 x.sl asl x.pa apa ao fo (wMf am c9 m)) nC nS Q (wXf ad c9 x asl apa) 1055 [(0, .ref b), (1, .ref (ad 0)), (2, .ref (am 0)), (3, .ref ao), (4, .int (nlaw n))] [] := by
  obtain ⟨ox, om, hx, hex, hm, ht, hv, hR1⟩ := hk x m hR (xs (nlaw n + 1).toNatClampNeg) (xs (nlaw n + 2).toNatClampNeg)
  refine v_aload_n X dL_law_1055 1 rfl rfl 1056 rfl ?_
  refine v_aload_n X dL_law_1056 0 rfl rfl 1057 rfl ?_
  refine v_iload X dL_law_1057 4 rfl 1059 rfl ?_
  refine v_iconst X dL_law_1059 ic_1 1060 rfl ?_
  refine v_iadd X dL_law_1060 1061 rfl ?_
  refine v_sld X hX hbl hbA (sc_in hn hL 1 (by decide)) dL_law_1061 1062 rfl ?_
  refine v_aload_n X dL_law_1062 0 rfl rfl 1063 rfl ?_
  refine v_iload X dL_law_1063 4 rfl 1065 rfl ?_
  refine v_iconst X dL_law_1065 ic_2 1066 rfl ?_
  refine v_iadd X dL_law_1066 1067 rfl ?_
  refine v_sld X hX hbl hbA (sc_in hn hL 2 (by decide)) dL_law_1067 1068 rfl ?_
  refine v_aload_n X dL_law_1068 3 rfl rfl 1069 rfl ?_
  refine v_hcallS X (S := Unit) (As := [.ref (ad 0), .int (xs (nlaw n + 1).toNatClampNeg), .int (xs (nlaw n + 2).toNatClampNeg), .ref ao]) (rest := []) (ws' := fun u => wX11 ad c9 x.nextPast x.pastCount x.i_count x.i_cells x.o_count x.o_cells x.p_start x.p_end x.p_kind x.p_value x.p_error x.p_errorAt x.p_d_time x.p_d_tolerance x.p_d_seed x.p_d_madeTickets x.p_d_cheesesOfText x.p_d_R_rows x.p_d_R_cells x.p_d_U_rows x.p_d_U_cells x.p_d_S_rows x.p_d_S_cells x.p_d_T_rows x.p_d_T_cells x.p_d_E_rows x.p_d_E_cells x.s_time x.s_tolerance x.s_seed x.s_madeTickets x.s_cheesesOfText x.s_R_rows x.s_R_cells x.s_U_rows x.s_U_cells x.s_S_rows x.s_S_cells x.s_T_rows x.s_T_cells x.s_E_rows x.s_E_cells x.sl asl x.pa apa) (F' := fun u => wLF c9 x.sl asl x.pa apa ao (hout ox.1 fo ox.2.toInt64) (wMf am c9 m)) (c_L_skew l hG hl0 hNC D c9 sk sv hGU ad x.nextPast x.pastCount x.i_count x.i_cells x.o_count x.o_cells x.p_start x.p_end x.p_kind x.p_value x.p_error x.p_errorAt x.p_d_time x.p_d_tolerance x.p_d_seed x.p_d_madeTickets x.p_d_cheesesOfText x.p_d_R_rows x.p_d_R_cells x.p_d_U_rows x.p_d_U_cells x.p_d_S_rows x.p_d_S_cells x.p_d_T_rows x.p_d_T_cells x.p_d_E_rows x.p_d_E_cells x.s_time x.s_tolerance x.s_seed x.s_madeTickets x.s_cheesesOfText x.s_R_rows x.s_R_cells x.s_U_rows x.s_U_cells x.s_S_rows x.s_S_cells x.s_T_rows x.s_T_cells x.s_E_rows x.s_E_cells x.sl asl x.pa apa ao fo (xs (nlaw n + 1).toNatClampNeg) (xs (nlaw n + 2).toNatClampNeg) hx hex) 4 (gS wbd_141 wbd_142 wbd_2 wbd_143) rfl rfl rfl pd_L_skew ⟨Nat.le_of_ble_eq_true rfl, Nat.le_of_ble_eq_true rfl⟩ rfl rfl (Nat.le_of_ble_eq_true rfl) ⟨show nC + 2 ≤ 601024 by omega, show nS + 12 ≤ 7293034 by omega⟩ (fun _ => rfl) dL_law_1069 1072 rfl (fun u _ => ?_)
  refine v_istore X (lv' := [(5, .int (hcd [1] ox.1)), (0, .ref b), (1, .ref (ad 0)), (2, .ref (am 0)), (3, .ref ao), (4, .int (nlaw n))]) dL_law_1072 (by decide) rfl 1074 rfl ?_
  refine v_toM ?_
  refine v_aload_n X dL_law_1074 3 rfl rfl 1075 rfl ?_
  refine v_aload_n X dL_law_1075 1 rfl rfl 1076 rfl ?_
  refine v_iload X dL_law_1076 5 rfl 1078 rfl ?_
  refine v_iconst X dL_law_1078 ic_1 1079 rfl ?_
  refine v_iadd X dL_law_1079 1080 rfl ?_
  refine v_sld X hX hbl hbA (sc_in hn hL 1 (by decide)) dL_law_1080 1081 rfl ?_
  refine v_aload_n X dL_law_1081 1 rfl rfl 1082 rfl ?_
  refine v_iload X dL_law_1082 5 rfl 1084 rfl ?_
  refine v_iconst X dL_law_1084 ic_2 1085 rfl ?_
  refine v_iadd X dL_law_1085 1086 rfl ?_
  refine v_sld X hX hbl hbA (sc_in hn hL 2 (by decide)) dL_law_1086 1087 rfl ?_
  refine v_callVi X (C := RX12) (ci := 11) (T := TX12) (As := [.int (xs (nlaw n + 1).toNatClampNeg), .int (xs (nlaw n + 2).toNatClampNeg)]) (rest := []) (ws' := wX12 am c9 m.m_undoable m.m_undoStart om.2 m.m_inputLength m.m_position m.m_start m.m_token m.m_value m.m_letters m.m_code m.m_place m.m_outputLength m.m_s m.m_parsed m.m_tried m.m_remembered m.m_slots m.m_kept m.m_away m.m_input m.m_halfway m.m_output) (c_X12_skew l hG D c9 am m.m_undoable m.m_undoStart m.m_thrown m.m_inputLength m.m_position m.m_start m.m_token m.m_value m.m_letters m.m_code m.m_place m.m_outputLength m.m_s m.m_parsed m.m_tried m.m_remembered m.m_slots m.m_kept m.m_away m.m_input m.m_halfway m.m_output (xs (nlaw n + 1).toNatClampNeg) (xs (nlaw n + 2).toNatClampNeg) hm) 2 (gV wbd_144 wbd_145 wbd_146 wbd_7 wbd_147) rfl rfl rfl ⟨rfl, pd_X12_skew⟩ ⟨Nat.le_of_ble_eq_true rfl, Nat.le_of_ble_eq_true rfl⟩ 0 rfl rfl rfl rfl (Nat.le_of_ble_eq_true rfl) ⟨show nC + 2 + 0 ≤ 601024 by omega, show nS + 12 + 0 ≤ 7293034 by omega⟩ [0, 1, 2, 3, 4, 5, 6, 7, 8, 9, 10] [] [0, 1, 2, 3, 4, 5, 6, 7, 8, 9, 10] rfl rfl rfl rfl dL_law_1087 1090 rfl ?_
  refine v_istore X (lv' := [(6, .int om.1), (5, .int (hcd [1] ox.1)), (0, .ref b), (1, .ref (ad 0)), (2, .ref (am 0)), (3, .ref ao), (4, .int (nlaw n))]) dL_law_1090 (by decide) rfl 1092 rfl ?_
  refine v_aload_n X dL_law_1092 4 rfl rfl 1093 rfl ?_
  refine v_callVi X (C := RX12) (ci := 11) (T := TX12) (As := []) (rest := []) (ws' := wX12 am c9 m.m_undoable m.m_undoStart om.2 m.m_inputLength m.m_position m.m_start m.m_token m.m_value m.m_letters m.m_code m.m_place m.m_outputLength m.m_s m.m_parsed m.m_tried m.m_remembered m.m_slots m.m_kept m.m_away m.m_input m.m_halfway m.m_output) (c_X12_thrown l hG D c9 am m.m_undoable m.m_undoStart om.2 m.m_inputLength m.m_position m.m_start m.m_token m.m_value m.m_letters m.m_code m.m_place m.m_outputLength m.m_s m.m_parsed m.m_tried m.m_remembered m.m_slots m.m_kept m.m_away m.m_input m.m_halfway m.m_output  rfl) 0 (gV wbd_9 wbd_10 wbd_11 wbd_7 wbd_12) rfl rfl rfl ⟨rfl, pd_X12_thrown⟩ ⟨Nat.le_of_ble_eq_true rfl, Nat.le_of_ble_eq_true rfl⟩ 0 rfl rfl rfl rfl (Nat.le_of_ble_eq_true rfl) ⟨show nC + 2 + 0 ≤ 601024 by omega, show nS + 12 + 0 ≤ 7293034 by omega⟩ [0, 1, 2, 3, 4, 5, 6, 7, 8, 9, 10] [] [0, 1, 2, 3, 4, 5, 6, 7, 8, 9, 10] rfl rfl rfl rfl dL_law_1093 1096 rfl ?_
  refine v_iload X dL_law_1096 1 rfl 1098 rfl ?_
  refine v_icmp_eq X (tgt := 1103) dL_law_1098 rfl 1101 rfl (a := some ()) (b := none) (o := ()) (if_pos ht) (fun _ => ?_) (fun h => nomatch h)
  refine v_toX ?_
  refine v_iload X dL_law_1103 1 rfl 1105 rfl ?_
  by_cases h0 : ox.1 = 0
  · refine v_if_ne X (tgt := 1120) dL_law_1105 rfl 1108 rfl (a := none) (b := some ()) (o := ()) (if_pos (by rw [h0]; rfl)) (fun h => nomatch h) (fun _ => ?_)
    refine v_aload_n X dL_law_1108 5 rfl rfl 1109 rfl ?_
    refine v_iconst X dL_law_1109 ic_0 1110 rfl ?_
    refine v_outld X dL_law_1110 1111 rfl ?_
    refine v_iload X dL_law_1111 0 rfl 1113 rfl ?_
    refine v_i2l X dL_law_1113 1114 rfl ?_
    refine v_lcmp X dL_law_1114 1115 rfl ?_
    refine v_if_eq X (tgt := 1120) dL_law_1115 rfl 1118 rfl (a := some ()) (b := none) (o := ()) (if_pos (by rw [hout, if_pos h0, ← hv h0]; exact lg_cmp_self _)) (fun _ => ?_) (fun h => nomatch h)
    refine v_goto X (tgt := 3452) dL_law_1120 rfl ?_
    refine v_sub (lv' := [(0, .ref b), (1, .ref (ad 0)), (2, .ref (am 0)), (3, .ref ao), (4, .int (nlaw n))]) [2, 3, 4, 5, 6] rfl ?_
    exact v_widen (by omega) (by omega) (K _ _ asl apa _ hR1)
  · refine v_if_ne X (tgt := 1120) dL_law_1105 rfl 1108 rfl (a := some ()) (b := none) (o := ()) (if_neg (hcd_ne h0 (by decide))) (fun _ => ?_) (fun h => nomatch h)
    refine v_goto X (tgt := 3452) dL_law_1120 rfl ?_
    refine v_sub (lv' := [(0, .ref b), (1, .ref (ad 0)), (2, .ref (am 0)), (3, .ref ao), (4, .int (nlaw n))]) [2, 3, 4, 5, 6] rfl ?_
    exact v_widen (by omega) (by omega) (K _ _ asl apa _ hR1)
set_option maxRecDepth 100000 in
set_option maxHeartbeats 4000000 in
theorem w_19 (l : Launch) {G : (Nat → Prop) → State → Heap → Prop} (hG : vG G) (hl0 : l.stackTraces = false) (hNC : ∀ (A : Nat → Prop) (U : State) (H : Heap), G A U H → ∀ q ∈ ncL, va_Nc q.1 q.2 U) (D : va_G) (c9 : Nat → ClassId) (sk sv : Nat → Nat) (hGU : ∀ (A : Nat → Prop) (U : State) (H : Heap), G A U H → vU sk sv A U H) (ad am : Nat → Nat) (ao b L : Nat) (xs : Nat → Int32) {p : Program} {e : Env} {s : State} {mm : MethodId} {args : Array Value} {below : List Frame} {meth : Method} {c : Code} {A : Nat → Prop} {Q : State → Prop} (X : vX p s mm args meth c cL_law 9 (some .boolean) RL (Cond.tt :: Wg) D (tyA c9) G A) (hX : va_X b L xs s s.heap) (hbl : b < s.heap.size) (hbA : ¬ A b) (REL : FX → FM → Prop) (hk : H19 REL) (n : Nat) (hn : n + 6 ≤ L) (hL : L ≤ 3072) (x : FX) (m : FM) (hR : REL x m) (asl apa : Nat → Nat → Nat) (fo : Nat → Int64) (nC nS : Nat) (hC : nC + 14 ≤ 601024) (hS : nS + 481 ≤ 7293034) (K : ∀ (x' : FX) (m' : FM) (asl' apa' : Nat → Nat → Nat) (fo' : Nat → Int64), REL x' m' → vW p l e room_1 s mm args below meth c 9 D A (wLF c9 x'.sl asl' x'.pa apa' ao fo' (wMf am c9 m')) (nC + 14) (nS + 481) Q (wXf ad c9 x' asl' apa') 3452 [(0, .ref b), (1, .ref (ad 0)), (2, .ref (am 0)), (3, .ref ao), (4, .int (nlaw n))] []) : vW p l e room_1 s mm args below meth c 9 D A (wLF c9 x.sl asl x.pa apa ao fo (wMf am c9 m)) nC nS Q (wXf ad c9 x asl apa) 1123 [(0, .ref b), (1, .ref (ad 0)), (2, .ref (am 0)), (3, .ref ao), (4, .int (nlaw n))] [] := by
  obtain ⟨ox, om, hx, hex, hm, ht, hv, hR1⟩ := hk x m hR (xs (nlaw n + 1).toNatClampNeg)
  refine v_aload_n X dL_law_1123 1 rfl rfl 1124 rfl ?_
  refine v_aload_n X dL_law_1124 0 rfl rfl 1125 rfl ?_
  refine v_iload X dL_law_1125 4 rfl 1127 rfl ?_
  refine v_iconst X dL_law_1127 ic_1 1128 rfl ?_
  refine v_iadd X dL_law_1128 1129 rfl ?_
  refine v_sld X hX hbl hbA (sc_in hn hL 1 (by decide)) dL_law_1129 1130 rfl ?_
  refine v_aload_n X dL_law_1130 3 rfl rfl 1131 rfl ?_
  refine v_hcallS X (S := Unit) (As := [.ref (ad 0), .int (xs (nlaw n + 1).toNatClampNeg), .ref ao]) (rest := []) (ws' := fun u => wX11 ad c9 x.nextPast x.pastCount x.i_count x.i_cells x.o_count x.o_cells x.p_start x.p_end x.p_kind x.p_value x.p_error x.p_errorAt x.p_d_time x.p_d_tolerance x.p_d_seed x.p_d_madeTickets x.p_d_cheesesOfText x.p_d_R_rows x.p_d_R_cells x.p_d_U_rows x.p_d_U_cells x.p_d_S_rows x.p_d_S_cells x.p_d_T_rows x.p_d_T_cells x.p_d_E_rows x.p_d_E_cells x.s_time x.s_tolerance x.s_seed x.s_madeTickets x.s_cheesesOfText x.s_R_rows x.s_R_cells x.s_U_rows x.s_U_cells x.s_S_rows x.s_S_cells x.s_T_rows x.s_T_cells x.s_E_rows x.s_E_cells x.sl asl x.pa apa) (F' := fun u => wLF c9 x.sl asl x.pa apa ao (hout ox.1 fo ox.2.toInt64) (wMf am c9 m)) (c_L_realmOfService l hG hl0 hNC D c9 sk sv hGU ad x.nextPast x.pastCount x.i_count x.i_cells x.o_count x.o_cells x.p_start x.p_end x.p_kind x.p_value x.p_error x.p_errorAt x.p_d_time x.p_d_tolerance x.p_d_seed x.p_d_madeTickets x.p_d_cheesesOfText x.p_d_R_rows x.p_d_R_cells x.p_d_U_rows x.p_d_U_cells x.p_d_S_rows x.p_d_S_cells x.p_d_T_rows x.p_d_T_cells x.p_d_E_rows x.p_d_E_cells x.s_time x.s_tolerance x.s_seed x.s_madeTickets x.s_cheesesOfText x.s_R_rows x.s_R_cells x.s_U_rows x.s_U_cells x.s_S_rows x.s_S_cells x.s_T_rows x.s_T_cells x.s_E_rows x.s_E_cells x.sl asl x.pa apa ao fo (xs (nlaw n + 1).toNatClampNeg) hx hex) 3 (gS wbd_148 wbd_149 wbd_2 wbd_150) rfl rfl rfl pd_L_realmOfService ⟨Nat.le_of_ble_eq_true rfl, Nat.le_of_ble_eq_true rfl⟩ rfl rfl (Nat.le_of_ble_eq_true rfl) ⟨show nC + 1 ≤ 601024 by omega, show nS + 6 ≤ 7293034 by omega⟩ (fun _ => rfl) dL_law_1131 1134 rfl (fun u _ => ?_)
  refine v_istore X (lv' := [(5, .int (hcd [1] ox.1)), (0, .ref b), (1, .ref (ad 0)), (2, .ref (am 0)), (3, .ref ao), (4, .int (nlaw n))]) dL_law_1134 (by decide) rfl 1136 rfl ?_
  refine v_toM ?_
  refine v_aload_n X dL_law_1136 3 rfl rfl 1137 rfl ?_
  refine v_aload_n X dL_law_1137 1 rfl rfl 1138 rfl ?_
  refine v_iload X dL_law_1138 5 rfl 1140 rfl ?_
  refine v_iconst X dL_law_1140 ic_1 1141 rfl ?_
  refine v_iadd X dL_law_1141 1142 rfl ?_
  refine v_sld X hX hbl hbA (sc_in hn hL 1 (by decide)) dL_law_1142 1143 rfl ?_
  refine v_callVi X (C := RX12) (ci := 11) (T := TX12) (As := [.int (xs (nlaw n + 1).toNatClampNeg)]) (rest := []) (ws' := wX12 am c9 m.m_undoable m.m_undoStart om.2 m.m_inputLength m.m_position m.m_start m.m_token m.m_value m.m_letters m.m_code m.m_place m.m_outputLength m.m_s m.m_parsed m.m_tried m.m_remembered m.m_slots m.m_kept m.m_away m.m_input m.m_halfway m.m_output) (c_X12_realmOfService l hG D c9 am m.m_undoable m.m_undoStart m.m_thrown m.m_inputLength m.m_position m.m_start m.m_token m.m_value m.m_letters m.m_code m.m_place m.m_outputLength m.m_s m.m_parsed m.m_tried m.m_remembered m.m_slots m.m_kept m.m_away m.m_input m.m_halfway m.m_output (xs (nlaw n + 1).toNatClampNeg) hm) 1 (gV wbd_151 wbd_152 wbd_153 wbd_7 wbd_154) rfl rfl rfl ⟨rfl, pd_X12_realmOfService⟩ ⟨Nat.le_of_ble_eq_true rfl, Nat.le_of_ble_eq_true rfl⟩ 0 rfl rfl rfl rfl (Nat.le_of_ble_eq_true rfl) ⟨show nC + 1 + 0 ≤ 601024 by omega, show nS + 6 + 0 ≤ 7293034 by omega⟩ [0, 1, 2, 3, 4, 5, 6, 7, 8, 9, 10] [] [0, 1, 2, 3, 4, 5, 6, 7, 8, 9, 10] rfl rfl rfl rfl dL_law_1143 1146 rfl ?_
  refine v_istore X (lv' := [(6, .int om.1), (5, .int (hcd [1] ox.1)), (0, .ref b), (1, .ref (ad 0)), (2, .ref (am 0)), (3, .ref ao), (4, .int (nlaw n))]) dL_law_1146 (by decide) rfl 1148 rfl ?_
  refine v_aload_n X dL_law_1148 4 rfl rfl 1149 rfl ?_
  refine v_callVi X (C := RX12) (ci := 11) (T := TX12) (As := []) (rest := []) (ws' := wX12 am c9 m.m_undoable m.m_undoStart om.2 m.m_inputLength m.m_position m.m_start m.m_token m.m_value m.m_letters m.m_code m.m_place m.m_outputLength m.m_s m.m_parsed m.m_tried m.m_remembered m.m_slots m.m_kept m.m_away m.m_input m.m_halfway m.m_output) (c_X12_thrown l hG D c9 am m.m_undoable m.m_undoStart om.2 m.m_inputLength m.m_position m.m_start m.m_token m.m_value m.m_letters m.m_code m.m_place m.m_outputLength m.m_s m.m_parsed m.m_tried m.m_remembered m.m_slots m.m_kept m.m_away m.m_input m.m_halfway m.m_output  rfl) 0 (gV wbd_9 wbd_10 wbd_11 wbd_7 wbd_12) rfl rfl rfl ⟨rfl, pd_X12_thrown⟩ ⟨Nat.le_of_ble_eq_true rfl, Nat.le_of_ble_eq_true rfl⟩ 0 rfl rfl rfl rfl (Nat.le_of_ble_eq_true rfl) ⟨show nC + 1 + 0 ≤ 601024 by omega, show nS + 6 + 0 ≤ 7293034 by omega⟩ [0, 1, 2, 3, 4, 5, 6, 7, 8, 9, 10] [] [0, 1, 2, 3, 4, 5, 6, 7, 8, 9, 10] rfl rfl rfl rfl dL_law_1149 1152 rfl ?_
  refine v_iload X dL_law_1152 1 rfl 1154 rfl ?_
  refine v_icmp_eq X (tgt := 1159) dL_law_1154 rfl 1157 rfl (a := some ()) (b := none) (o := ()) (if_pos ht) (fun _ => ?_) (fun h => nomatch h)
  refine v_toX ?_
  refine v_iload X dL_law_1159 1 rfl 1161 rfl ?_
  by_cases h0 : ox.1 = 0
  · refine v_if_ne X (tgt := 1176) dL_law_1161 rfl 1164 rfl (a := none) (b := some ()) (o := ()) (if_pos (by rw [h0]; rfl)) (fun h => nomatch h) (fun _ => ?_)
    refine v_aload_n X dL_law_1164 5 rfl rfl 1165 rfl ?_
    refine v_iconst X dL_law_1165 ic_0 1166 rfl ?_
    refine v_outld X dL_law_1166 1167 rfl ?_
    refine v_iload X dL_law_1167 0 rfl 1169 rfl ?_
    refine v_i2l X dL_law_1169 1170 rfl ?_
    refine v_lcmp X dL_law_1170 1171 rfl ?_
    refine v_if_eq X (tgt := 1176) dL_law_1171 rfl 1174 rfl (a := some ()) (b := none) (o := ()) (if_pos (by rw [hout, if_pos h0, ← hv h0]; exact lg_cmp_self _)) (fun _ => ?_) (fun h => nomatch h)
    refine v_goto X (tgt := 3452) dL_law_1176 rfl ?_
    refine v_sub (lv' := [(0, .ref b), (1, .ref (ad 0)), (2, .ref (am 0)), (3, .ref ao), (4, .int (nlaw n))]) [2, 3, 4, 5, 6] rfl ?_
    exact v_widen (by omega) (by omega) (K _ _ asl apa _ hR1)
  · refine v_if_ne X (tgt := 1176) dL_law_1161 rfl 1164 rfl (a := some ()) (b := none) (o := ()) (if_neg (hcd_ne h0 (by decide))) (fun _ => ?_) (fun h => nomatch h)
    refine v_goto X (tgt := 3452) dL_law_1176 rfl ?_
    refine v_sub (lv' := [(0, .ref b), (1, .ref (ad 0)), (2, .ref (am 0)), (3, .ref ao), (4, .int (nlaw n))]) [2, 3, 4, 5, 6] rfl ?_
    exact v_widen (by omega) (by omega) (K _ _ asl apa _ hR1)
set_option maxRecDepth 100000 in
set_option maxHeartbeats 4000000 in
theorem w_20 (l : Launch) {G : (Nat → Prop) → State → Heap → Prop} (hG : vG G) (hl0 : l.stackTraces = false) (hNC : ∀ (A : Nat → Prop) (U : State) (H : Heap), G A U H → ∀ q ∈ ncL, va_Nc q.1 q.2 U) (D : va_G) (c9 : Nat → ClassId) (sk sv : Nat → Nat) (hGU : ∀ (A : Nat → Prop) (U : State) (H : Heap), G A U H → vU sk sv A U H) (ad am : Nat → Nat) (ao b L : Nat) (xs : Nat → Int32) {p : Program} {e : Env} {s : State} {mm : MethodId} {args : Array Value} {below : List Frame} {meth : Method} {c : Code} {A : Nat → Prop} {Q : State → Prop} (X : vX p s mm args meth c cL_law 9 (some .boolean) RL (Cond.tt :: Wg) D (tyA c9) G A) (hX : va_X b L xs s s.heap) (hbl : b < s.heap.size) (hbA : ¬ A b) (REL : FX → FM → Prop) (hk : H20 REL) (n : Nat) (hn : n + 6 ≤ L) (hL : L ≤ 3072) (x : FX) (m : FM) (hR : REL x m) (asl apa : Nat → Nat → Nat) (fo : Nat → Int64) (nC nS : Nat) (hC : nC + 14 ≤ 601024) (hS : nS + 481 ≤ 7293034) (K : ∀ (x' : FX) (m' : FM) (asl' apa' : Nat → Nat → Nat) (fo' : Nat → Int64), REL x' m' → vW p l e room_1 s mm args below meth c 9 D A (wLF c9 x'.sl asl' x'.pa apa' ao fo' (wMf am c9 m')) (nC + 14) (nS + 481) Q (wXf ad c9 x' asl' apa') 3452 [(0, .ref b), (1, .ref (ad 0)), (2, .ref (am 0)), (3, .ref ao), (4, .int (nlaw n))] []) : vW p l e room_1 s mm args below meth c 9 D A (wLF c9 x.sl asl x.pa apa ao fo (wMf am c9 m)) nC nS Q (wXf ad c9 x asl apa) 1179 [(0, .ref b), (1, .ref (ad 0)), (2, .ref (am 0)), (3, .ref ao), (4, .int (nlaw n))] [] := by
  obtain ⟨ox, om, hx, hex, hm, ht, hv, hR1⟩ := hk x m hR (xs (nlaw n + 1).toNatClampNeg)
  refine v_aload_n X dL_law_1179 1 rfl rfl 1180 rfl ?_
  refine v_aload_n X dL_law_1180 0 rfl rfl 1181 rfl ?_
  refine v_iload X dL_law_1181 4 rfl 1183 rfl ?_
  refine v_iconst X dL_law_1183 ic_1 1184 rfl ?_
  refine v_iadd X dL_law_1184 1185 rfl ?_
  refine v_sld X hX hbl hbA (sc_in hn hL 1 (by decide)) dL_law_1185 1186 rfl ?_
  refine v_aload_n X dL_law_1186 3 rfl rfl 1187 rfl ?_
  refine v_hcallS X (S := Unit) (As := [.ref (ad 0), .int (xs (nlaw n + 1).toNatClampNeg), .ref ao]) (rest := []) (ws' := fun u => wX11 ad c9 x.nextPast x.pastCount x.i_count x.i_cells x.o_count x.o_cells x.p_start x.p_end x.p_kind x.p_value x.p_error x.p_errorAt x.p_d_time x.p_d_tolerance x.p_d_seed x.p_d_madeTickets x.p_d_cheesesOfText x.p_d_R_rows x.p_d_R_cells x.p_d_U_rows x.p_d_U_cells x.p_d_S_rows x.p_d_S_cells x.p_d_T_rows x.p_d_T_cells x.p_d_E_rows x.p_d_E_cells x.s_time x.s_tolerance x.s_seed x.s_madeTickets x.s_cheesesOfText x.s_R_rows x.s_R_cells x.s_U_rows x.s_U_cells x.s_S_rows x.s_S_cells x.s_T_rows x.s_T_cells x.s_E_rows x.s_E_cells x.sl asl x.pa apa) (F' := fun u => wLF c9 x.sl asl x.pa apa ao (hout ox.1 fo ox.2.toInt64) (wMf am c9 m)) (c_L_cheesesLeft l hG hl0 hNC D c9 sk sv hGU ad x.nextPast x.pastCount x.i_count x.i_cells x.o_count x.o_cells x.p_start x.p_end x.p_kind x.p_value x.p_error x.p_errorAt x.p_d_time x.p_d_tolerance x.p_d_seed x.p_d_madeTickets x.p_d_cheesesOfText x.p_d_R_rows x.p_d_R_cells x.p_d_U_rows x.p_d_U_cells x.p_d_S_rows x.p_d_S_cells x.p_d_T_rows x.p_d_T_cells x.p_d_E_rows x.p_d_E_cells x.s_time x.s_tolerance x.s_seed x.s_madeTickets x.s_cheesesOfText x.s_R_rows x.s_R_cells x.s_U_rows x.s_U_cells x.s_S_rows x.s_S_cells x.s_T_rows x.s_T_cells x.s_E_rows x.s_E_cells x.sl asl x.pa apa ao fo (xs (nlaw n + 1).toNatClampNeg) hx hex) 3 (gS wbd_155 wbd_156 wbd_2 wbd_157) rfl rfl rfl pd_L_cheesesLeft ⟨Nat.le_of_ble_eq_true rfl, Nat.le_of_ble_eq_true rfl⟩ rfl rfl (Nat.le_of_ble_eq_true rfl) ⟨show nC + 1 ≤ 601024 by omega, show nS + 6 ≤ 7293034 by omega⟩ (fun _ => rfl) dL_law_1187 1190 rfl (fun u _ => ?_)
  refine v_istore X (lv' := [(5, .int (hcd [1] ox.1)), (0, .ref b), (1, .ref (ad 0)), (2, .ref (am 0)), (3, .ref ao), (4, .int (nlaw n))]) dL_law_1190 (by decide) rfl 1192 rfl ?_
  refine v_toM ?_
  refine v_aload_n X dL_law_1192 3 rfl rfl 1193 rfl ?_
  refine v_aload_n X dL_law_1193 1 rfl rfl 1194 rfl ?_
  refine v_iload X dL_law_1194 5 rfl 1196 rfl ?_
  refine v_iconst X dL_law_1196 ic_1 1197 rfl ?_
  refine v_iadd X dL_law_1197 1198 rfl ?_
  refine v_sld X hX hbl hbA (sc_in hn hL 1 (by decide)) dL_law_1198 1199 rfl ?_
  refine v_callVi X (C := RX12) (ci := 11) (T := TX12) (As := [.int (xs (nlaw n + 1).toNatClampNeg)]) (rest := []) (ws' := wX12 am c9 m.m_undoable m.m_undoStart om.2 m.m_inputLength m.m_position m.m_start m.m_token m.m_value m.m_letters m.m_code m.m_place m.m_outputLength m.m_s m.m_parsed m.m_tried m.m_remembered m.m_slots m.m_kept m.m_away m.m_input m.m_halfway m.m_output) (c_X12_cheesesLeft l hG D c9 am m.m_undoable m.m_undoStart m.m_thrown m.m_inputLength m.m_position m.m_start m.m_token m.m_value m.m_letters m.m_code m.m_place m.m_outputLength m.m_s m.m_parsed m.m_tried m.m_remembered m.m_slots m.m_kept m.m_away m.m_input m.m_halfway m.m_output (xs (nlaw n + 1).toNatClampNeg) hm) 1 (gV wbd_158 wbd_159 wbd_160 wbd_7 wbd_161) rfl rfl rfl ⟨rfl, pd_X12_cheesesLeft⟩ ⟨Nat.le_of_ble_eq_true rfl, Nat.le_of_ble_eq_true rfl⟩ 0 rfl rfl rfl rfl (Nat.le_of_ble_eq_true rfl) ⟨show nC + 1 + 0 ≤ 601024 by omega, show nS + 6 + 0 ≤ 7293034 by omega⟩ [0, 1, 2, 3, 4, 5, 6, 7, 8, 9, 10] [] [0, 1, 2, 3, 4, 5, 6, 7, 8, 9, 10] rfl rfl rfl rfl dL_law_1199 1202 rfl ?_
  refine v_istore X (lv' := [(6, .int om.1), (5, .int (hcd [1] ox.1)), (0, .ref b), (1, .ref (ad 0)), (2, .ref (am 0)), (3, .ref ao), (4, .int (nlaw n))]) dL_law_1202 (by decide) rfl 1204 rfl ?_
  refine v_aload_n X dL_law_1204 4 rfl rfl 1205 rfl ?_
  refine v_callVi X (C := RX12) (ci := 11) (T := TX12) (As := []) (rest := []) (ws' := wX12 am c9 m.m_undoable m.m_undoStart om.2 m.m_inputLength m.m_position m.m_start m.m_token m.m_value m.m_letters m.m_code m.m_place m.m_outputLength m.m_s m.m_parsed m.m_tried m.m_remembered m.m_slots m.m_kept m.m_away m.m_input m.m_halfway m.m_output) (c_X12_thrown l hG D c9 am m.m_undoable m.m_undoStart om.2 m.m_inputLength m.m_position m.m_start m.m_token m.m_value m.m_letters m.m_code m.m_place m.m_outputLength m.m_s m.m_parsed m.m_tried m.m_remembered m.m_slots m.m_kept m.m_away m.m_input m.m_halfway m.m_output  rfl) 0 (gV wbd_9 wbd_10 wbd_11 wbd_7 wbd_12) rfl rfl rfl ⟨rfl, pd_X12_thrown⟩ ⟨Nat.le_of_ble_eq_true rfl, Nat.le_of_ble_eq_true rfl⟩ 0 rfl rfl rfl rfl (Nat.le_of_ble_eq_true rfl) ⟨show nC + 1 + 0 ≤ 601024 by omega, show nS + 6 + 0 ≤ 7293034 by omega⟩ [0, 1, 2, 3, 4, 5, 6, 7, 8, 9, 10] [] [0, 1, 2, 3, 4, 5, 6, 7, 8, 9, 10] rfl rfl rfl rfl dL_law_1205 1208 rfl ?_
  refine v_iload X dL_law_1208 1 rfl 1210 rfl ?_
  refine v_icmp_eq X (tgt := 1215) dL_law_1210 rfl 1213 rfl (a := some ()) (b := none) (o := ()) (if_pos ht) (fun _ => ?_) (fun h => nomatch h)
  refine v_toX ?_
  refine v_iload X dL_law_1215 1 rfl 1217 rfl ?_
  by_cases h0 : ox.1 = 0
  · refine v_if_ne X (tgt := 1232) dL_law_1217 rfl 1220 rfl (a := none) (b := some ()) (o := ()) (if_pos (by rw [h0]; rfl)) (fun h => nomatch h) (fun _ => ?_)
    refine v_aload_n X dL_law_1220 5 rfl rfl 1221 rfl ?_
    refine v_iconst X dL_law_1221 ic_0 1222 rfl ?_
    refine v_outld X dL_law_1222 1223 rfl ?_
    refine v_iload X dL_law_1223 0 rfl 1225 rfl ?_
    refine v_i2l X dL_law_1225 1226 rfl ?_
    refine v_lcmp X dL_law_1226 1227 rfl ?_
    refine v_if_eq X (tgt := 1232) dL_law_1227 rfl 1230 rfl (a := some ()) (b := none) (o := ()) (if_pos (by rw [hout, if_pos h0, ← hv h0]; exact lg_cmp_self _)) (fun _ => ?_) (fun h => nomatch h)
    refine v_goto X (tgt := 3452) dL_law_1232 rfl ?_
    refine v_sub (lv' := [(0, .ref b), (1, .ref (ad 0)), (2, .ref (am 0)), (3, .ref ao), (4, .int (nlaw n))]) [2, 3, 4, 5, 6] rfl ?_
    exact v_widen (by omega) (by omega) (K _ _ asl apa _ hR1)
  · refine v_if_ne X (tgt := 1232) dL_law_1217 rfl 1220 rfl (a := some ()) (b := none) (o := ()) (if_neg (hcd_ne h0 (by decide))) (fun _ => ?_) (fun h => nomatch h)
    refine v_goto X (tgt := 3452) dL_law_1232 rfl ?_
    refine v_sub (lv' := [(0, .ref b), (1, .ref (ad 0)), (2, .ref (am 0)), (3, .ref ao), (4, .int (nlaw n))]) [2, 3, 4, 5, 6] rfl ?_
    exact v_widen (by omega) (by omega) (K _ _ asl apa _ hR1)
