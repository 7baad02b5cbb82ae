set_option maxRecDepth 100000 in
set_option maxHeartbeats 4000000 in
theorem w_59 (l : Launch) {G : (Nat → Prop) → State → Heap → Prop} (hG : vG G) (hl0 : l.stackTraces = false) (hNC : ∀ (A : Nat → Prop) (U : State) (H : Heap), G A U H → ∀ q ∈ ncL, va_Nc q.1 q.2 U) (D : va_G) (c9 : Nat → ClassId) (sk sv : Nat → Nat) (hGU : ∀ (A : Nat → Prop) (U : State) (H : Heap), G A U H → vU sk sv A U H) (ad am : Nat → Nat) (ao b L : Nat) (xs : Nat → Int32) {p : Program} {e : Env} {s : State} {mm : MethodId} {args : Array Value} {below : List Frame} {meth : Method} {c : Code} {A : Nat → Prop} {Q : State → Prop} (X : vX p s mm args meth c cL_law 9 (some .boolean) RL (Cond.tt :: Wg) D (tyA c9) G A) (hX : va_X b L xs s s.heap) (hbl : b < s.heap.size) (hbA : ¬ A b) (REL : FX → FM → Prop) (hk : H59 REL) (n : Nat) (hn : n + 6 ≤ L) (hL : L ≤ 3072) (x : FX) (m : FM) (hR : REL x m) (asl apa : Nat → Nat → Nat) (fo : Nat → Int64) (nC nS : Nat) (hC : nC + 14 ≤ 601024) (hS : nS + 481 ≤ 7293034) (K : ∀ (x' : FX) (m' : FM) (asl' apa' : Nat → Nat → Nat) (fo' : Nat → Int64), REL x' m' → vW p l e room_1 s mm args below meth c 9 D A (wLF c9 x'.sl asl' x'.pa apa' ao fo' (wMf am c9 m')) (nC + 14) (nS + 481) Q (wXf ad c9 x' asl' apa') 3452 [(0, .ref b), (1, .ref (ad 0)), (2, .ref (am 0)), (3, .ref ao), (4, .int (nlaw n))] []) : vW p l e room_1 s mm args below meth c 9 D A (wLF c9 x.sl asl x.pa apa ao fo (wMf am c9 m)) nC nS Q (wXf ad c9 x asl apa) 3184 [(0, .ref b), (1, .ref (ad 0)), (2, .ref (am 0)), (3, .ref ao), (4, .int (nlaw n))] [] := by
  obtain ⟨ox, om, hx, hex, hm, ht, hv, hR1⟩ := hk x m hR (xs (nlaw n + 1).toNatClampNeg)
  refine v_aload_n X dL_law_3184 1 rfl rfl 3185 rfl ?_
  refine v_aload_n X dL_law_3185 0 rfl rfl 3186 rfl ?_
  refine v_iload X dL_law_3186 4 rfl 3188 rfl ?_
  refine v_iconst X dL_law_3188 ic_1 3189 rfl ?_
  refine v_iadd X dL_law_3189 3190 rfl ?_
  refine v_sld X hX hbl hbA (sc_in hn hL 1 (by decide)) dL_law_3190 3191 rfl ?_
  refine v_aload_n X dL_law_3191 3 rfl rfl 3192 rfl ?_
  refine v_hcallS X (S := Unit) (As := [.ref (ad 0), .int (xs (nlaw n + 1).toNatClampNeg), .ref ao]) (rest := []) (ws' := fun u => wX11 ad c9 x.nextPast x.pastCount x.i_count x.i_cells ox.2.2.1 ox.2.2.2 x.p_start x.p_end x.p_kind x.p_value x.p_error x.p_errorAt x.p_d_time x.p_d_tolerance x.p_d_seed x.p_d_madeTickets x.p_d_cheesesOfText x.p_d_R_rows x.p_d_R_cells x.p_d_U_rows x.p_d_U_cells x.p_d_S_rows x.p_d_S_cells x.p_d_T_rows x.p_d_T_cells x.p_d_E_rows x.p_d_E_cells x.s_time x.s_tolerance x.s_seed x.s_madeTickets x.s_cheesesOfText x.s_R_rows x.s_R_cells x.s_U_rows x.s_U_cells x.s_S_rows x.s_S_cells x.s_T_rows x.s_T_cells x.s_E_rows x.s_E_cells x.sl asl x.pa apa) (F' := fun u => wLF c9 x.sl asl x.pa apa ao (hout ox.1 fo ox.2.1.toInt64) (wMf am c9 m)) (c_L_writeTicket l hG hl0 hNC D c9 sk sv hGU ad x.nextPast x.pastCount x.i_count x.i_cells x.o_count x.o_cells x.p_start x.p_end x.p_kind x.p_value x.p_error x.p_errorAt x.p_d_time x.p_d_tolerance x.p_d_seed x.p_d_madeTickets x.p_d_cheesesOfText x.p_d_R_rows x.p_d_R_cells x.p_d_U_rows x.p_d_U_cells x.p_d_S_rows x.p_d_S_cells x.p_d_T_rows x.p_d_T_cells x.p_d_E_rows x.p_d_E_cells x.s_time x.s_tolerance x.s_seed x.s_madeTickets x.s_cheesesOfText x.s_R_rows x.s_R_cells x.s_U_rows x.s_U_cells x.s_S_rows x.s_S_cells x.s_T_rows x.s_T_cells x.s_E_rows x.s_E_cells x.sl asl x.pa apa ao fo (xs (nlaw n + 1).toNatClampNeg) hx hex) 3 (gS wbd_437 wbd_438 wbd_2 wbd_439) rfl rfl rfl pd_L_writeTicket ⟨Nat.le_of_ble_eq_true rfl, Nat.le_of_ble_eq_true rfl⟩ rfl rfl (Nat.le_of_ble_eq_true rfl) ⟨show nC + 1 ≤ 601024 by omega, show nS + 6 ≤ 7293034 by omega⟩ (fun _ => rfl) dL_law_3192 3195 rfl (fun u _ => ?_)
  refine v_istore X (lv' := [(5, .int (hcd [4] ox.1)), (0, .ref b), (1, .ref (ad 0)), (2, .ref (am 0)), (3, .ref ao), (4, .int (nlaw n))]) dL_law_3195 (by decide) rfl 3197 rfl ?_
  refine v_toM ?_
  refine v_aload_n X dL_law_3197 3 rfl rfl 3198 rfl ?_
  refine v_aload_n X dL_law_3198 1 rfl rfl 3199 rfl ?_
  refine v_iload X dL_law_3199 5 rfl 3201 rfl ?_
  refine v_iconst X dL_law_3201 ic_1 3202 rfl ?_
  refine v_iadd X dL_law_3202 3203 rfl ?_
  refine v_sld X hX hbl hbA (sc_in hn hL 1 (by decide)) dL_law_3203 3204 rfl ?_
  refine v_callVi X (C := RX12) (ci := 11) (T := TX12) (As := [.int (xs (nlaw n + 1).toNatClampNeg)]) (rest := []) (ws' := wX12 am c9 m.m_undoable m.m_undoStart om.2.1 m.m_inputLength m.m_position m.m_start m.m_token m.m_value m.m_letters m.m_code m.m_place om.2.2.1 m.m_s m.m_parsed m.m_tried m.m_remembered m.m_slots m.m_kept m.m_away m.m_input m.m_halfway om.2.2.2) (c_X12_writeTicket l hG D c9 am m.m_undoable m.m_undoStart m.m_thrown m.m_inputLength m.m_position m.m_start m.m_token m.m_value m.m_letters m.m_code m.m_place m.m_outputLength m.m_s m.m_parsed m.m_tried m.m_remembered m.m_slots m.m_kept m.m_away m.m_input m.m_halfway m.m_output (xs (nlaw n + 1).toNatClampNeg) hm) 1 (gV wbd_440 wbd_441 wbd_442 wbd_7 wbd_443) rfl rfl rfl ⟨rfl, pd_X12_writeTicket⟩ ⟨Nat.le_of_ble_eq_true rfl, Nat.le_of_ble_eq_true rfl⟩ 0 rfl rfl rfl rfl (Nat.le_of_ble_eq_true rfl) ⟨show nC + 1 + 0 ≤ 601024 by omega, show nS + 6 + 0 ≤ 7293034 by omega⟩ [0, 1, 2, 3, 4, 5, 6, 7, 8, 9, 10] [] [0, 1, 2, 3, 4, 5, 6, 7, 8, 9, 10] rfl rfl rfl rfl dL_law_3204 3207 rfl ?_
  refine v_istore X (lv' := [(6, .int om.1), (5, .int (hcd [4] ox.1)), (0, .ref b), (1, .ref (ad 0)), (2, .ref (am 0)), (3, .ref ao), (4, .int (nlaw n))]) dL_law_3207 (by decide) rfl 3209 rfl ?_
  refine v_aload_n X dL_law_3209 4 rfl rfl 3210 rfl ?_
  refine v_callVi X (C := RX12) (ci := 11) (T := TX12) (As := []) (rest := []) (ws' := wX12 am c9 m.m_undoable m.m_undoStart om.2.1 m.m_inputLength m.m_position m.m_start m.m_token m.m_value m.m_letters m.m_code m.m_place om.2.2.1 m.m_s m.m_parsed m.m_tried m.m_remembered m.m_slots m.m_kept m.m_away m.m_input m.m_halfway om.2.2.2) (c_X12_thrown l hG D c9 am m.m_undoable m.m_undoStart om.2.1 m.m_inputLength m.m_position m.m_start m.m_token m.m_value m.m_letters m.m_code m.m_place om.2.2.1 m.m_s m.m_parsed m.m_tried m.m_remembered m.m_slots m.m_kept m.m_away m.m_input m.m_halfway om.2.2.2  rfl) 0 (gV wbd_9 wbd_10 wbd_11 wbd_7 wbd_12) rfl rfl rfl ⟨rfl, pd_X12_thrown⟩ ⟨Nat.le_of_ble_eq_true rfl, Nat.le_of_ble_eq_true rfl⟩ 0 rfl rfl rfl rfl (Nat.le_of_ble_eq_true rfl) ⟨show nC + 1 + 0 ≤ 601024 by omega, show nS + 6 + 0 ≤ 7293034 by omega⟩ [0, 1, 2, 3, 4, 5, 6, 7, 8, 9, 10] [] [0, 1, 2, 3, 4, 5, 6, 7, 8, 9, 10] rfl rfl rfl rfl dL_law_3210 3213 rfl ?_
  refine v_iload X dL_law_3213 1 rfl 3215 rfl ?_
  refine v_icmp_eq X (tgt := 3220) dL_law_3215 rfl 3218 rfl (a := some ()) (b := none) (o := ()) (if_pos ht) (fun _ => ?_) (fun h => nomatch h)
  refine v_toX ?_
  refine v_iload X dL_law_3220 1 rfl 3222 rfl ?_
  by_cases h0 : ox.1 = 0
  · refine v_if_ne X (tgt := 3237) dL_law_3222 rfl 3225 rfl (a := none) (b := some ()) (o := ()) (if_pos (by rw [h0]; rfl)) (fun h => nomatch h) (fun _ => ?_)
    refine v_aload_n X dL_law_3225 5 rfl rfl 3226 rfl ?_
    refine v_iconst X dL_law_3226 ic_0 3227 rfl ?_
    refine v_outld X dL_law_3227 3228 rfl ?_
    refine v_iload X dL_law_3228 0 rfl 3230 rfl ?_
    refine v_i2l X dL_law_3230 3231 rfl ?_
    refine v_lcmp X dL_law_3231 3232 rfl ?_
    refine v_if_eq X (tgt := 3237) dL_law_3232 rfl 3235 rfl (a := some ()) (b := none) (o := ()) (if_pos (by rw [hout, if_pos h0, ← hv h0]; exact lg_cmp_self _)) (fun _ => ?_) (fun h => nomatch h)
    refine v_goto X (tgt := 3452) dL_law_3237 rfl ?_
    refine v_sub (lv' := [(0, .ref b), (1, .ref (ad 0)), (2, .ref (am 0)), (3, .ref ao), (4, .int (nlaw n))]) [2, 3, 4, 5, 6] rfl ?_
    exact v_widen (by omega) (by omega) (K _ _ asl apa _ hR1)
  · refine v_if_ne X (tgt := 3237) dL_law_3222 rfl 3225 rfl (a := some ()) (b := none) (o := ()) (if_neg (hcd_ne h0 (by decide))) (fun _ => ?_) (fun h => nomatch h)
    refine v_goto X (tgt := 3452) dL_law_3237 rfl ?_
    refine v_sub (lv' := [(0, .ref b), (1, .ref (ad 0)), (2, .ref (am 0)), (3, .ref ao), (4, .int (nlaw n))]) [2, 3, 4, 5, 6] rfl ?_
    exact v_widen (by omega) (by omega) (K _ _ asl apa _ hR1)
set_option maxRecDepth 100000 in
set_option maxHeartbeats 4000000 in
theorem w_60 (l : Launch) {G : (Nat → Prop) → State → Heap → Prop} (hG : vG G) (hl0 : l.stackTraces = false) (hNC : ∀ (A : Nat → Prop) (U : State) (H : Heap), G A U H → ∀ q ∈ ncL, va_Nc q.1 q.2 U) (D : va_G) (c9 : Nat → ClassId) (sk sv : Nat → Nat) (hGU : ∀ (A : Nat → Prop) (U : State) (H : Heap), G A U H → vU sk sv A U H) (ad am : Nat → Nat) (ao b L : Nat) (xs : Nat → Int32) {p : Program} {e : Env} {s : State} {mm : MethodId} {args : Array Value} {below : List Frame} {meth : Method} {c : Code} {A : Nat → Prop} {Q : State → Prop} (X : vX p s mm args meth c cL_law 9 (some .boolean) RL (Cond.tt :: Wg) D (tyA c9) G A) (hX : va_X b L xs s s.heap) (hbl : b < s.heap.size) (hbA : ¬ A b) (REL : FX → FM → Prop) (hk : H60 REL) (n : Nat) (hn : n + 6 ≤ L) (hL : L ≤ 3072) (x : FX) (m : FM) (hR : REL x m) (asl apa : Nat → Nat → Nat) (fo : Nat → Int64) (nC nS : Nat) (hC : nC + 14 ≤ 601024) (hS : nS + 481 ≤ 7293034) (K : ∀ (x' : FX) (m' : FM) (asl' apa' : Nat → Nat → Nat) (fo' : Nat → Int64), REL x' m' → vW p l e room_1 s mm args below meth c 9 D A (wLF c9 x'.sl asl' x'.pa apa' ao fo' (wMf am c9 m')) (nC + 14) (nS + 481) Q (wXf ad c9 x' asl' apa') 3452 [(0, .ref b), (1, .ref (ad 0)), (2, .ref (am 0)), (3, .ref ao), (4, .int (nlaw n))] []) : vW p l e room_1 s mm args below meth c 9 D A (wLF c9 x.sl asl x.pa apa ao fo (wMf am c9 m)) nC nS Q (wXf ad c9 x asl apa) 3240 [(0, .ref b), (1, .ref (ad 0)), (2, .ref (am 0)), (3, .ref ao), (4, .int (nlaw n))] [] := by
  obtain ⟨ox, om, hx, hex, hm, ht, hv, hR1⟩ := hk x m hR (xs (nlaw n + 1).toNatClampNeg)
  refine v_aload_n X dL_law_3240 1 rfl rfl 3241 rfl ?_
  refine v_aload_n X dL_law_3241 0 rfl rfl 3242 rfl ?_
  refine v_iload X dL_law_3242 4 rfl 3244 rfl ?_
  refine v_iconst X dL_law_3244 ic_1 3245 rfl ?_
  refine v_iadd X dL_law_3245 3246 rfl ?_
  refine v_sld X hX hbl hbA (sc_in hn hL 1 (by decide)) dL_law_3246 3247 rfl ?_
  refine v_aload_n X dL_law_3247 3 rfl rfl 3248 rfl ?_
  refine v_hcallS X (S := Unit) (As := [.ref (ad 0), .int (xs (nlaw n + 1).toNatClampNeg), .ref ao]) (rest := []) (ws' := fun u => wX11 ad c9 x.nextPast x.pastCount x.i_count x.i_cells x.o_count x.o_cells x.p_start x.p_end x.p_kind x.p_value x.p_error x.p_errorAt x.p_d_time x.p_d_tolerance x.p_d_seed x.p_d_madeTickets x.p_d_cheesesOfText x.p_d_R_rows x.p_d_R_cells x.p_d_U_rows x.p_d_U_cells x.p_d_S_rows x.p_d_S_cells x.p_d_T_rows x.p_d_T_cells x.p_d_E_rows x.p_d_E_cells x.s_time x.s_tolerance x.s_seed x.s_madeTickets x.s_cheesesOfText x.s_R_rows x.s_R_cells x.s_U_rows x.s_U_cells x.s_S_rows x.s_S_cells x.s_T_rows x.s_T_cells x.s_E_rows x.s_E_cells x.sl asl x.pa apa) (F' := fun u => wLF c9 x.sl asl x.pa apa ao (hout ox.1 fo ox.2.toInt64) (wMf am c9 m)) (c_L_outputByte l hG hl0 hNC D c9 sk sv hGU ad x.nextPast x.pastCount x.i_count x.i_cells x.o_count x.o_cells x.p_start x.p_end x.p_kind x.p_value x.p_error x.p_errorAt x.p_d_time x.p_d_tolerance x.p_d_seed x.p_d_madeTickets x.p_d_cheesesOfText x.p_d_R_rows x.p_d_R_cells x.p_d_U_rows x.p_d_U_cells x.p_d_S_rows x.p_d_S_cells x.p_d_T_rows x.p_d_T_cells x.p_d_E_rows x.p_d_E_cells x.s_time x.s_tolerance x.s_seed x.s_madeTickets x.s_cheesesOfText x.s_R_rows x.s_R_cells x.s_U_rows x.s_U_cells x.s_S_rows x.s_S_cells x.s_T_rows x.s_T_cells x.s_E_rows x.s_E_cells x.sl asl x.pa apa ao fo (xs (nlaw n + 1).toNatClampNeg) hx hex) 3 (gS wbd_444 wbd_445 wbd_2 wbd_446) rfl rfl rfl pd_L_outputByte ⟨Nat.le_of_ble_eq_true rfl, Nat.le_of_ble_eq_true rfl⟩ rfl rfl (Nat.le_of_ble_eq_true rfl) ⟨show nC + 1 ≤ 601024 by omega, show nS + 6 ≤ 7293034 by omega⟩ (fun _ => rfl) dL_law_3248 3251 rfl (fun u _ => ?_)
  refine v_istore X (lv' := [(5, .int (hcd [4] ox.1)), (0, .ref b), (1, .ref (ad 0)), (2, .ref (am 0)), (3, .ref ao), (4, .int (nlaw n))]) dL_law_3251 (by decide) rfl 3253 rfl ?_
  refine v_toM ?_
  refine v_aload_n X dL_law_3253 3 rfl rfl 3254 rfl ?_
  refine v_aload_n X dL_law_3254 1 rfl rfl 3255 rfl ?_
  refine v_iload X dL_law_3255 5 rfl 3257 rfl ?_
  refine v_iconst X dL_law_3257 ic_1 3258 rfl ?_
  refine v_iadd X dL_law_3258 3259 rfl ?_
  refine v_sld X hX hbl hbA (sc_in hn hL 1 (by decide)) dL_law_3259 3260 rfl ?_
  refine v_callVi X (C := RX12) (ci := 11) (T := TX12) (As := [.int (xs (nlaw n + 1).toNatClampNeg)]) (rest := []) (ws' := wX12 am c9 m.m_undoable m.m_undoStart om.2 m.m_inputLength m.m_position m.m_start m.m_token m.m_value m.m_letters m.m_code m.m_place m.m_outputLength m.m_s m.m_parsed m.m_tried m.m_remembered m.m_slots m.m_kept m.m_away m.m_input m.m_halfway m.m_output) (c_X12_outputByte l hG D c9 am m.m_undoable m.m_undoStart m.m_thrown m.m_inputLength m.m_position m.m_start m.m_token m.m_value m.m_letters m.m_code m.m_place m.m_outputLength m.m_s m.m_parsed m.m_tried m.m_remembered m.m_slots m.m_kept m.m_away m.m_input m.m_halfway m.m_output (xs (nlaw n + 1).toNatClampNeg) hm) 1 (gV wbd_447 wbd_448 wbd_449 wbd_7 wbd_450) rfl rfl rfl ⟨rfl, pd_X12_outputByte⟩ ⟨Nat.le_of_ble_eq_true rfl, Nat.le_of_ble_eq_true rfl⟩ 0 rfl rfl rfl rfl (Nat.le_of_ble_eq_true rfl) ⟨show nC + 1 + 0 ≤ 601024 by omega, show nS + 6 + 0 ≤ 7293034 by omega⟩ [0, 1, 2, 3, 4, 5, 6, 7, 8, 9, 10] [] [0, 1, 2, 3, 4, 5, 6, 7, 8, 9, 10] rfl rfl rfl rfl dL_law_3260 3263 rfl ?_
  refine v_istore X (lv' := [(6, .int om.1), (5, .int (hcd [4] ox.1)), (0, .ref b), (1, .ref (ad 0)), (2, .ref (am 0)), (3, .ref ao), (4, .int (nlaw n))]) dL_law_3263 (by decide) rfl 3265 rfl ?_
  refine v_aload_n X dL_law_3265 4 rfl rfl 3266 rfl ?_
  refine v_callVi X (C := RX12) (ci := 11) (T := TX12) (As := []) (rest := []) (ws' := wX12 am c9 m.m_undoable m.m_undoStart om.2 m.m_inputLength m.m_position m.m_start m.m_token m.m_value m.m_letters m.m_code m.m_place m.m_outputLength m.m_s m.m_parsed m.m_tried m.m_remembered m.m_slots m.m_kept m.m_away m.m_input m.m_halfway m.m_output) (c_X12_thrown l hG D c9 am m.m_undoable m.m_undoStart om.2 m.m_inputLength m.m_position m.m_start m.m_token m.m_value m.m_letters m.m_code m.m_place m.m_outputLength m.m_s m.m_parsed m.m_tried m.m_remembered m.m_slots m.m_kept m.m_away m.m_input m.m_halfway m.m_output  rfl) 0 (gV wbd_9 wbd_10 wbd_11 wbd_7 wbd_12) rfl rfl rfl ⟨rfl, pd_X12_thrown⟩ ⟨Nat.le_of_ble_eq_true rfl, Nat.le_of_ble_eq_true rfl⟩ 0 rfl rfl rfl rfl (Nat.le_of_ble_eq_true rfl) ⟨show nC + 1 + 0 ≤ 601024 by omega, show nS + 6 + 0 ≤ 7293034 by omega⟩ [0, 1, 2, 3, 4, 5, 6, 7, 8, 9, 10] [] [0, 1, 2, 3, 4, 5, 6, 7, 8, 9, 10] rfl rfl rfl rfl dL_law_3266 3269 rfl ?_
  refine v_iload X dL_law_3269 1 rfl 3271 rfl ?_
  refine v_icmp_eq X (tgt := 3276) dL_law_3271 rfl 3274 rfl (a := some ()) (b := none) (o := ()) (if_pos ht) (fun _ => ?_) (fun h => nomatch h)
  refine v_toX ?_
  refine v_iload X dL_law_3276 1 rfl 3278 rfl ?_
  by_cases h0 : ox.1 = 0
  · refine v_if_ne X (tgt := 3293) dL_law_3278 rfl 3281 rfl (a := none) (b := some ()) (o := ()) (if_pos (by rw [h0]; rfl)) (fun h => nomatch h) (fun _ => ?_)
    refine v_aload_n X dL_law_3281 5 rfl rfl 3282 rfl ?_
    refine v_iconst X dL_law_3282 ic_0 3283 rfl ?_
    refine v_outld X dL_law_3283 3284 rfl ?_
    refine v_iload X dL_law_3284 0 rfl 3286 rfl ?_
    refine v_i2l X dL_law_3286 3287 rfl ?_
    refine v_lcmp X dL_law_3287 3288 rfl ?_
    refine v_if_eq X (tgt := 3293) dL_law_3288 rfl 3291 rfl (a := some ()) (b := none) (o := ()) (if_pos (by rw [hout, if_pos h0, ← hv h0]; exact lg_cmp_self _)) (fun _ => ?_) (fun h => nomatch h)
    refine v_goto X (tgt := 3452) dL_law_3293 rfl ?_
    refine v_sub (lv' := [(0, .ref b), (1, .ref (ad 0)), (2, .ref (am 0)), (3, .ref ao), (4, .int (nlaw n))]) [2, 3, 4, 5, 6] rfl ?_
    exact v_widen (by omega) (by omega) (K _ _ asl apa _ hR1)
  · refine v_if_ne X (tgt := 3293) dL_law_3278 rfl 3281 rfl (a := some ()) (b := none) (o := ()) (if_neg (hcd_ne h0 (by decide))) (fun _ => ?_) (fun h => nomatch h)
    refine v_goto X (tgt := 3452) dL_law_3293 rfl ?_
    refine v_sub (lv' := [(0, .ref b), (1, .ref (ad 0)), (2, .ref (am 0)), (3, .ref ao), (4, .int (nlaw n))]) [2, 3, 4, 5, 6] rfl ?_
    exact v_widen (by omega) (by omega) (K _ _ asl apa _ hR1)
set_option maxRecDepth 100000 in
set_option maxHeartbeats 4000000 in
theorem w_61 (l : Launch) {G : (Nat → Prop) → State → Heap → Prop} (hG : vG G) (hl0 : l.stackTraces = false) (hNC : ∀ (A : Nat → Prop) (U : State) (H : Heap), G A U H → ∀ q ∈ ncL, va_Nc q.1 q.2 U) (D : va_G) (c9 : Nat → ClassId) (sk sv : Nat → Nat) (hGU : ∀ (A : Nat → Prop) (U : State) (H : Heap), G A U H → vU sk sv A U H) (ad am : Nat → Nat) (ao b L : Nat) (xs : Nat → Int32) {p : Program} {e : Env} {s : State} {mm : MethodId} {args : Array Value} {below : List Frame} {meth : Method} {c : Code} {A : Nat → Prop} {Q : State → Prop} (X : vX p s mm args meth c cL_law 9 (some .boolean) RL (Cond.tt :: Wg) D (tyA c9) G A) (hX : va_X b L xs s s.heap) (hbl : b < s.heap.size) (hbA : ¬ A b) (REL : FX → FM → Prop) (hk : H61 REL) (n : Nat) (hn : n + 6 ≤ L) (hL : L ≤ 3072) (x : FX) (m : FM) (hR : REL x m) (asl apa : Nat → Nat → Nat) (fo : Nat → Int64) (nC nS : Nat) (hC : nC + 14 ≤ 601024) (hS : nS + 481 ≤ 7293034) (K : ∀ (x' : FX) (m' : FM) (asl' apa' : Nat → Nat → Nat) (fo' : Nat → Int64), REL x' m' → vW p l e room_1 s mm args below meth c 9 D A (wLF c9 x'.sl asl' x'.pa apa' ao fo' (wMf am c9 m')) (nC + 14) (nS + 481) Q (wXf ad c9 x' asl' apa') 3452 [(0, .ref b), (1, .ref (ad 0)), (2, .ref (am 0)), (3, .ref ao), (4, .int (nlaw n))] []) : vW p l e room_1 s mm args below meth c 9 D A (wLF c9 x.sl asl x.pa apa ao fo (wMf am c9 m)) nC nS Q (wXf ad c9 x asl apa) 3296 [(0, .ref b), (1, .ref (ad 0)), (2, .ref (am 0)), (3, .ref ao), (4, .int (nlaw n))] [] := by
  obtain ⟨ox, om, hx, hex, hm, ht, hv, hR1⟩ := hk x m hR (xs (nlaw n + 1).toNatClampNeg)
  refine v_aload_n X dL_law_3296 1 rfl rfl 3297 rfl ?_
  refine v_aload_n X dL_law_3297 0 rfl rfl 3298 rfl ?_
  refine v_iload X dL_law_3298 4 rfl 3300 rfl ?_
  refine v_iconst X dL_law_3300 ic_1 3301 rfl ?_
  refine v_iadd X dL_law_3301 3302 rfl ?_
  refine v_sld X hX hbl hbA (sc_in hn hL 1 (by decide)) dL_law_3302 3303 rfl ?_
  refine v_aload_n X dL_law_3303 3 rfl rfl 3304 rfl ?_
  refine v_hcallS X (S := Nat → Nat → Nat) (As := [.ref (ad 0), .int (xs (nlaw n + 1).toNatClampNeg), .ref ao]) (rest := []) (ws' := fun u => wX11 ad c9 x.nextPast x.pastCount x.i_count x.i_cells x.o_count x.o_cells x.p_start x.p_end x.p_kind x.p_value x.p_error x.p_errorAt x.p_d_time x.p_d_tolerance x.p_d_seed x.p_d_madeTickets x.p_d_cheesesOfText x.p_d_R_rows x.p_d_R_cells x.p_d_U_rows x.p_d_U_cells x.p_d_S_rows x.p_d_S_cells x.p_d_T_rows x.p_d_T_cells x.p_d_E_rows x.p_d_E_cells x.s_time x.s_tolerance x.s_seed x.s_madeTickets x.s_cheesesOfText x.s_R_rows x.s_R_cells x.s_U_rows x.s_U_cells x.s_S_rows x.s_S_cells x.s_T_rows x.s_T_cells x.s_E_rows x.s_E_cells ox.2.2 u x.pa apa) (F' := fun u => wLF c9 ox.2.2 u x.pa apa ao (hout ox.1 fo ox.2.1.toInt64) (wMf am c9 m)) (c_L_save l hG hl0 hNC D c9 sk sv hGU ad x.nextPast x.pastCount x.i_count x.i_cells x.o_count x.o_cells x.p_start x.p_end x.p_kind x.p_value x.p_error x.p_errorAt x.p_d_time x.p_d_tolerance x.p_d_seed x.p_d_madeTickets x.p_d_cheesesOfText x.p_d_R_rows x.p_d_R_cells x.p_d_U_rows x.p_d_U_cells x.p_d_S_rows x.p_d_S_cells x.p_d_T_rows x.p_d_T_cells x.p_d_E_rows x.p_d_E_cells x.s_time x.s_tolerance x.s_seed x.s_madeTickets x.s_cheesesOfText x.s_R_rows x.s_R_cells x.s_U_rows x.s_U_cells x.s_S_rows x.s_S_cells x.s_T_rows x.s_T_cells x.s_E_rows x.s_E_cells x.sl asl x.pa apa ao fo (xs (nlaw n + 1).toNatClampNeg) hx hex) 3 (gS wbd_451 wbd_452 wbd_2 wbd_453) rfl rfl rfl pd_L_save ⟨Nat.le_of_ble_eq_true rfl, Nat.le_of_ble_eq_true rfl⟩ rfl rfl (Nat.le_of_ble_eq_true rfl) ⟨show nC + 12 ≤ 601024 by omega, show nS + 469 ≤ 7293034 by omega⟩ (fun _ => rfl) dL_law_3304 3307 rfl (fun u _ => ?_)
  refine v_istore X (lv' := [(5, .int (hcd [1] ox.1)), (0, .ref b), (1, .ref (ad 0)), (2, .ref (am 0)), (3, .ref ao), (4, .int (nlaw n))]) dL_law_3307 (by decide) rfl 3309 rfl ?_
  refine v_toM ?_
  refine v_aload_n X dL_law_3309 3 rfl rfl 3310 rfl ?_
  refine v_aload_n X dL_law_3310 1 rfl rfl 3311 rfl ?_
  refine v_iload X dL_law_3311 5 rfl 3313 rfl ?_
  refine v_iconst X dL_law_3313 ic_1 3314 rfl ?_
  refine v_iadd X dL_law_3314 3315 rfl ?_
  refine v_sld X hX hbl hbA (sc_in hn hL 1 (by decide)) dL_law_3315 3316 rfl ?_
  refine v_callVi X (C := RX12) (ci := 11) (T := TX12) (As := [.int (xs (nlaw n + 1).toNatClampNeg)]) (rest := []) (ws' := wX12 am c9 m.m_undoable m.m_undoStart om.2.1 m.m_inputLength m.m_position m.m_start m.m_token m.m_value m.m_letters m.m_code m.m_place m.m_outputLength m.m_s m.m_parsed m.m_tried m.m_remembered om.2.2.1 om.2.2.2 m.m_away m.m_input m.m_halfway m.m_output) (c_X12_save l hG D c9 am m.m_undoable m.m_undoStart m.m_thrown m.m_inputLength m.m_position m.m_start m.m_token m.m_value m.m_letters m.m_code m.m_place m.m_outputLength m.m_s m.m_parsed m.m_tried m.m_remembered m.m_slots m.m_kept m.m_away m.m_input m.m_halfway m.m_output (xs (nlaw n + 1).toNatClampNeg) hm) 1 (gV wbd_454 wbd_455 wbd_456 wbd_7 wbd_457) rfl rfl rfl ⟨rfl, pd_X12_save⟩ ⟨Nat.le_of_ble_eq_true rfl, Nat.le_of_ble_eq_true rfl⟩ 0 rfl rfl rfl rfl (Nat.le_of_ble_eq_true rfl) ⟨show nC + 12 + 0 ≤ 601024 by omega, show nS + 469 + 0 ≤ 7293034 by omega⟩ [0, 1, 2, 3, 4, 5, 6, 7, 8, 9, 10] [] [0, 1, 2, 3, 4, 5, 6, 7, 8, 9, 10] rfl rfl rfl rfl dL_law_3316 3319 rfl ?_
  refine v_istore X (lv' := [(6, .int om.1), (5, .int (hcd [1] ox.1)), (0, .ref b), (1, .ref (ad 0)), (2, .ref (am 0)), (3, .ref ao), (4, .int (nlaw n))]) dL_law_3319 (by decide) rfl 3321 rfl ?_
  refine v_aload_n X dL_law_3321 4 rfl rfl 3322 rfl ?_
  refine v_callVi X (C := RX12) (ci := 11) (T := TX12) (As := []) (rest := []) (ws' := wX12 am c9 m.m_undoable m.m_undoStart om.2.1 m.m_inputLength m.m_position m.m_start m.m_token m.m_value m.m_letters m.m_code m.m_place m.m_outputLength m.m_s m.m_parsed m.m_tried m.m_remembered om.2.2.1 om.2.2.2 m.m_away m.m_input m.m_halfway m.m_output) (c_X12_thrown l hG D c9 am m.m_undoable m.m_undoStart om.2.1 m.m_inputLength m.m_position m.m_start m.m_token m.m_value m.m_letters m.m_code m.m_place m.m_outputLength m.m_s m.m_parsed m.m_tried m.m_remembered om.2.2.1 om.2.2.2 m.m_away m.m_input m.m_halfway m.m_output  rfl) 0 (gV wbd_9 wbd_10 wbd_11 wbd_7 wbd_12) rfl rfl rfl ⟨rfl, pd_X12_thrown⟩ ⟨Nat.le_of_ble_eq_true rfl, Nat.le_of_ble_eq_true rfl⟩ 0 rfl rfl rfl rfl (Nat.le_of_ble_eq_true rfl) ⟨show nC + 12 + 0 ≤ 601024 by omega, show nS + 469 + 0 ≤ 7293034 by omega⟩ [0, 1, 2, 3, 4, 5, 6, 7, 8, 9, 10] [] [0, 1, 2, 3, 4, 5, 6, 7, 8, 9, 10] rfl rfl rfl rfl dL_law_3322 3325 rfl ?_
  refine v_iload X dL_law_3325 1 rfl 3327 rfl ?_
  refine v_icmp_eq X (tgt := 3332) dL_law_3327 rfl 3330 rfl (a := some ()) (b := none) (o := ()) (if_pos ht) (fun _ => ?_) (fun h => nomatch h)
  refine v_toX ?_
  refine v_iload X dL_law_3332 1 rfl 3334 rfl ?_
  by_cases h0 : ox.1 = 0
  · refine v_if_ne X (tgt := 3349) dL_law_3334 rfl 3337 rfl (a := none) (b := some ()) (o := ()) (if_pos (by rw [h0]; rfl)) (fun h => nomatch h) (fun _ => ?_)
    refine v_aload_n X dL_law_3337 5 rfl rfl 3338 rfl ?_
    refine v_iconst X dL_law_3338 ic_0 3339 rfl ?_
    refine v_outld X dL_law_3339 3340 rfl ?_
    refine v_iload X dL_law_3340 0 rfl 3342 rfl ?_
    refine v_i2l X dL_law_3342 3343 rfl ?_
    refine v_lcmp X dL_law_3343 3344 rfl ?_
    refine v_if_eq X (tgt := 3349) dL_law_3344 rfl 3347 rfl (a := some ()) (b := none) (o := ()) (if_pos (by rw [hout, if_pos h0, ← hv h0]; exact lg_cmp_self _)) (fun _ => ?_) (fun h => nomatch h)
    refine v_goto X (tgt := 3452) dL_law_3349 rfl ?_
    refine v_sub (lv' := [(0, .ref b), (1, .ref (ad 0)), (2, .ref (am 0)), (3, .ref ao), (4, .int (nlaw n))]) [2, 3, 4, 5, 6] rfl ?_
    exact v_widen (by omega) (by omega) (K _ _ u apa _ hR1)
  · refine v_if_ne X (tgt := 3349) dL_law_3334 rfl 3337 rfl (a := some ()) (b := none) (o := ()) (if_neg (hcd_ne h0 (by decide))) (fun _ => ?_) (fun h => nomatch h)
    refine v_goto X (tgt := 3452) dL_law_3349 rfl ?_
    refine v_sub (lv' := [(0, .ref b), (1, .ref (ad 0)), (2, .ref (am 0)), (3, .ref ao), (4, .int (nlaw n))]) [2, 3, 4, 5, 6] rfl ?_
    exact v_widen (by omega) (by omega) (K _ _ u apa _ hR1)
set_option maxRecDepth 100000 in
set_option maxHeartbeats 4000000 in
theorem w_62 (l : Launch) {G : (Nat → Prop) → State → Heap → Prop} (hG : vG G) (hl0 : l.stackTraces = false) (hNC : ∀ (A : Nat → Prop) (U : State) (H : Heap), G A U H → ∀ q ∈ ncL, va_Nc q.1 q.2 U) (D : va_G) (c9 : Nat → ClassId) (sk sv : Nat → Nat) (hGU : ∀ (A : Nat → Prop) (U : State) (H : Heap), G A U H → vU sk sv A U H) (ad am : Nat → Nat) (ao b L : Nat) (xs : Nat → Int32) {p : Program} {e : Env} {s : State} {mm : MethodId} {args : Array Value} {below : List Frame} {meth : Method} {c : Code} {A : Nat → Prop} {Q : State → Prop} (X : vX p s mm args meth c cL_law 9 (some .boolean) RL (Cond.tt :: Wg) D (tyA c9) G A) (hX : va_X b L xs s s.heap) (hbl : b < s.heap.size) (hbA : ¬ A b) (REL : FX → FM → Prop) (hk : H62 REL) (n : Nat) (hn : n + 6 ≤ L) (hL : L ≤ 3072) (x : FX) (m : FM) (hR : REL x m) (asl apa : Nat → Nat → Nat) (fo : Nat → Int64) (nC nS : Nat) (hC : nC + 14 ≤ 601024) (hS : nS + 481 ≤ 7293034) (K : ∀ (x' : FX) (m' : FM) (asl' apa' : Nat → Nat → Nat) (fo' : Nat → Int64), REL x' m' → vW p l e room_1 s mm args below meth c 9 D A (wLF c9 x'.sl asl' x'.pa apa' ao fo' (wMf am c9 m')) (nC + 14) (nS + 481) Q (wXf ad c9 x' asl' apa') 3452 [(0, .ref b), (1, .ref (ad 0)), (2, .ref (am 0)), (3, .ref ao), (4, .int (nlaw n))] []) : vW p l e room_1 s mm args below meth c 9 D A (wLF c9 x.sl asl x.pa apa ao fo (wMf am c9 m)) nC nS Q (wXf ad c9 x asl apa) 3352 [(0, .ref b), (1, .ref (ad 0)), (2, .ref (am 0)), (3, .ref ao), (4, .int (nlaw n))] [] := by
  obtain ⟨ox, om, hx, hex, hm, ht, hv, hR1⟩ := hk x m hR (xs (nlaw n + 1).toNatClampNeg)
  refine v_aload_n X dL_law_3352 1 rfl rfl 3353 rfl ?_
  refine v_aload_n X dL_law_3353 0 rfl rfl 3354 rfl ?_
  refine v_iload X dL_law_3354 4 rfl 3356 rfl ?_
  refine v_iconst X dL_law_3356 ic_1 3357 rfl ?_
  refine v_iadd X dL_law_3357 3358 rfl ?_
  refine v_sld X hX hbl hbA (sc_in hn hL 1 (by decide)) dL_law_3358 3359 rfl ?_
  refine v_aload_n X dL_law_3359 3 rfl rfl 3360 rfl ?_
  refine v_hcallS X (S := Nat → Nat → Nat) (As := [.ref (ad 0), .int (xs (nlaw n + 1).toNatClampNeg), .ref ao]) (rest := []) (ws' := fun u => wX11 ad c9 ox.2.2.1 ox.2.2.2.1 x.i_count x.i_cells x.o_count x.o_cells x.p_start x.p_end x.p_kind x.p_value x.p_error x.p_errorAt x.p_d_time x.p_d_tolerance x.p_d_seed x.p_d_madeTickets x.p_d_cheesesOfText x.p_d_R_rows x.p_d_R_cells x.p_d_U_rows x.p_d_U_cells x.p_d_S_rows x.p_d_S_cells x.p_d_T_rows x.p_d_T_cells x.p_d_E_rows x.p_d_E_cells ox.2.2.2.2.1 ox.2.2.2.2.2.1 ox.2.2.2.2.2.2.1 ox.2.2.2.2.2.2.2.1 ox.2.2.2.2.2.2.2.2.1 ox.2.2.2.2.2.2.2.2.2.1 ox.2.2.2.2.2.2.2.2.2.2.1 ox.2.2.2.2.2.2.2.2.2.2.2.1 ox.2.2.2.2.2.2.2.2.2.2.2.2.1 ox.2.2.2.2.2.2.2.2.2.2.2.2.2.1 ox.2.2.2.2.2.2.2.2.2.2.2.2.2.2.1 ox.2.2.2.2.2.2.2.2.2.2.2.2.2.2.2.1 ox.2.2.2.2.2.2.2.2.2.2.2.2.2.2.2.2.1 ox.2.2.2.2.2.2.2.2.2.2.2.2.2.2.2.2.2.1 ox.2.2.2.2.2.2.2.2.2.2.2.2.2.2.2.2.2.2.1 x.sl asl ox.2.2.2.2.2.2.2.2.2.2.2.2.2.2.2.2.2.2.2 u) (F' := fun u => wLF c9 x.sl asl ox.2.2.2.2.2.2.2.2.2.2.2.2.2.2.2.2.2.2.2 u ao (hout ox.1 fo ox.2.1.toInt64) (wMf am c9 m)) (c_L_restore l hG hl0 hNC D c9 sk sv hGU ad x.nextPast x.pastCount x.i_count x.i_cells x.o_count x.o_cells x.p_start x.p_end x.p_kind x.p_value x.p_error x.p_errorAt x.p_d_time x.p_d_tolerance x.p_d_seed x.p_d_madeTickets x.p_d_cheesesOfText x.p_d_R_rows x.p_d_R_cells x.p_d_U_rows x.p_d_U_cells x.p_d_S_rows x.p_d_S_cells x.p_d_T_rows x.p_d_T_cells x.p_d_E_rows x.p_d_E_cells x.s_time x.s_tolerance x.s_seed x.s_madeTickets x.s_cheesesOfText x.s_R_rows x.s_R_cells x.s_U_rows x.s_U_cells x.s_S_rows x.s_S_cells x.s_T_rows x.s_T_cells x.s_E_rows x.s_E_cells x.sl asl x.pa apa ao fo (xs (nlaw n + 1).toNatClampNeg) hx hex) 3 (gS wbd_458 wbd_459 wbd_2 wbd_460) rfl rfl rfl pd_L_restore ⟨Nat.le_of_ble_eq_true rfl, Nat.le_of_ble_eq_true rfl⟩ rfl rfl (Nat.le_of_ble_eq_true rfl) ⟨show nC + 13 ≤ 601024 by omega, show nS + 475 ≤ 7293034 by omega⟩ (fun _ => rfl) dL_law_3360 3363 rfl (fun u _ => ?_)
  refine v_istore X (lv' := [(5, .int (hcd [1, 3] ox.1)), (0, .ref b), (1, .ref (ad 0)), (2, .ref (am 0)), (3, .ref ao), (4, .int (nlaw n))]) dL_law_3363 (by decide) rfl 3365 rfl ?_
  refine v_toM ?_
  refine v_aload_n X dL_law_3365 3 rfl rfl 3366 rfl ?_
  refine v_aload_n X dL_law_3366 1 rfl rfl 3367 rfl ?_
  refine v_iload X dL_law_3367 5 rfl 3369 rfl ?_
  refine v_iconst X dL_law_3369 ic_1 3370 rfl ?_
  refine v_iadd X dL_law_3370 3371 rfl ?_
  refine v_sld X hX hbl hbA (sc_in hn hL 1 (by decide)) dL_law_3371 3372 rfl ?_
  refine v_callVi X (C := RX12) (ci := 11) (T := TX12) (As := [.int (xs (nlaw n + 1).toNatClampNeg)]) (rest := []) (ws' := wX12 am c9 om.2.1 om.2.2.1 om.2.2.2.1 m.m_inputLength m.m_position m.m_start m.m_token m.m_value m.m_letters m.m_code m.m_place m.m_outputLength om.2.2.2.2.1 m.m_parsed m.m_tried om.2.2.2.2.2 m.m_slots m.m_kept m.m_away m.m_input m.m_halfway m.m_output) (c_X12_restore l hG D c9 am m.m_undoable m.m_undoStart m.m_thrown m.m_inputLength m.m_position m.m_start m.m_token m.m_value m.m_letters m.m_code m.m_place m.m_outputLength m.m_s m.m_parsed m.m_tried m.m_remembered m.m_slots m.m_kept m.m_away m.m_input m.m_halfway m.m_output (xs (nlaw n + 1).toNatClampNeg) hm) 1 (gV wbd_461 wbd_462 wbd_463 wbd_7 wbd_464) rfl rfl rfl ⟨rfl, pd_X12_restore⟩ ⟨Nat.le_of_ble_eq_true rfl, Nat.le_of_ble_eq_true rfl⟩ 0 rfl rfl rfl rfl (Nat.le_of_ble_eq_true rfl) ⟨show nC + 13 + 0 ≤ 601024 by omega, show nS + 475 + 0 ≤ 7293034 by omega⟩ [0, 1, 2, 3, 4, 5, 6, 7, 8, 9, 10] [] [0, 1, 2, 3, 4, 5, 6, 7, 8, 9, 10] rfl rfl rfl rfl dL_law_3372 3375 rfl ?_
  refine v_istore X (lv' := [(6, .int om.1), (5, .int (hcd [1, 3] ox.1)), (0, .ref b), (1, .ref (ad 0)), (2, .ref (am 0)), (3, .ref ao), (4, .int (nlaw n))]) dL_law_3375 (by decide) rfl 3377 rfl ?_
  refine v_aload_n X dL_law_3377 4 rfl rfl 3378 rfl ?_
  refine v_callVi X (C := RX12) (ci := 11) (T := TX12) (As := []) (rest := []) (ws' := wX12 am c9 om.2.1 om.2.2.1 om.2.2.2.1 m.m_inputLength m.m_position m.m_start m.m_token m.m_value m.m_letters m.m_code m.m_place m.m_outputLength om.2.2.2.2.1 m.m_parsed m.m_tried om.2.2.2.2.2 m.m_slots m.m_kept m.m_away m.m_input m.m_halfway m.m_output) (c_X12_thrown l hG D c9 am om.2.1 om.2.2.1 om.2.2.2.1 m.m_inputLength m.m_position m.m_start m.m_token m.m_value m.m_letters m.m_code m.m_place m.m_outputLength om.2.2.2.2.1 m.m_parsed m.m_tried om.2.2.2.2.2 m.m_slots m.m_kept m.m_away m.m_input m.m_halfway m.m_output  rfl) 0 (gV wbd_9 wbd_10 wbd_11 wbd_7 wbd_12) rfl rfl rfl ⟨rfl, pd_X12_thrown⟩ ⟨Nat.le_of_ble_eq_true rfl, Nat.le_of_ble_eq_true rfl⟩ 0 rfl rfl rfl rfl (Nat.le_of_ble_eq_true rfl) ⟨show nC + 13 + 0 ≤ 601024 by omega, show nS + 475 + 0 ≤ 7293034 by omega⟩ [0, 1, 2, 3, 4, 5, 6, 7, 8, 9, 10] [] [0, 1, 2, 3, 4, 5, 6, 7, 8, 9, 10] rfl rfl rfl rfl dL_law_3378 3381 rfl ?_
  refine v_iload X dL_law_3381 1 rfl 3383 rfl ?_
  refine v_icmp_eq X (tgt := 3388) dL_law_3383 rfl 3386 rfl (a := some ()) (b := none) (o := ()) (if_pos ht) (fun _ => ?_) (fun h => nomatch h)
  refine v_toX ?_
  refine v_iload X dL_law_3388 1 rfl 3390 rfl ?_
  by_cases h0 : ox.1 = 0
  · refine v_if_ne X (tgt := 3405) dL_law_3390 rfl 3393 rfl (a := none) (b := some ()) (o := ()) (if_pos (by rw [h0]; rfl)) (fun h => nomatch h) (fun _ => ?_)
    refine v_aload_n X dL_law_3393 5 rfl rfl 3394 rfl ?_
    refine v_iconst X dL_law_3394 ic_0 3395 rfl ?_
    refine v_outld X dL_law_3395 3396 rfl ?_
    refine v_iload X dL_law_3396 0 rfl 3398 rfl ?_
    refine v_i2l X dL_law_3398 3399 rfl ?_
    refine v_lcmp X dL_law_3399 3400 rfl ?_
    refine v_if_eq X (tgt := 3405) dL_law_3400 rfl 3403 rfl (a := some ()) (b := none) (o := ()) (if_pos (by rw [hout, if_pos h0, ← hv h0]; exact lg_cmp_self _)) (fun _ => ?_) (fun h => nomatch h)
    refine v_goto X (tgt := 3452) dL_law_3405 rfl ?_
    refine v_sub (lv' := [(0, .ref b), (1, .ref (ad 0)), (2, .ref (am 0)), (3, .ref ao), (4, .int (nlaw n))]) [2, 3, 4, 5, 6] rfl ?_
    exact v_widen (by omega) (by omega) (K _ _ asl u _ hR1)
  · refine v_if_ne X (tgt := 3405) dL_law_3390 rfl 3393 rfl (a := some ()) (b := none) (o := ()) (if_neg (hcd_ne h0 (by decide))) (fun _ => ?_) (fun h => nomatch h)
    refine v_goto X (tgt := 3452) dL_law_3405 rfl ?_
    refine v_sub (lv' := [(0, .ref b), (1, .ref (ad 0)), (2, .ref (am 0)), (3, .ref ao), (4, .int (nlaw n))]) [2, 3, 4, 5, 6] rfl ?_
    exact v_widen (by omega) (by omega) (K _ _ asl u _ hR1)
set_option maxRecDepth 100000 in
set_option maxHeartbeats 4000000 in
theorem w_63 (l : Launch) {G : (Nat → Prop) → State → Heap → Prop} (hG : vG G) (hl0 : l.stackTraces = false) (hNC : ∀ (A : Nat → Prop) (U : State) (H : Heap), G A U H → ∀ q ∈ ncL, va_Nc q.1 q.2 U) (D : va_G) (c9 : Nat → ClassId) (sk sv : Nat → Nat) (hGU : ∀ (A : Nat → Prop) (U : State) (H : Heap), G A U H → vU sk sv A U H) (ad am : Nat → Nat) (ao b L : Nat) (xs : Nat → Int32) {p : Program} {e : Env} {s : State} {mm : MethodId} {args : Array Value} {below : List Frame} {meth : Method} {c : Code} {A : Nat → Prop} {Q : State → Prop} (X : vX p s mm args meth c cL_law 9 (some .boolean) RL (Cond.tt :: Wg) D (tyA c9) G A) (hX : va_X b L xs s s.heap) (hbl : b < s.heap.size) (hbA : ¬ A b) (REL : FX → FM → Prop) (hk : H63 REL) (n : Nat) (hn : n + 6 ≤ L) (hL : L ≤ 3072) (x : FX) (m : FM) (hR : REL x m) (asl apa : Nat → Nat → Nat) (fo : Nat → Int64) (nC nS : Nat) (hC : nC + 14 ≤ 601024) (hS : nS + 481 ≤ 7293034) (K : ∀ (x' : FX) (m' : FM) (asl' apa' : Nat → Nat → Nat) (fo' : Nat → Int64), REL x' m' → vW p l e room_1 s mm args below meth c 9 D A (wLF c9 x'.sl asl' x'.pa apa' ao fo' (wMf am c9 m')) (nC + 14) (nS + 481) Q (wXf ad c9 x' asl' apa') 3452 [(0, .ref b), (1, .ref (ad 0)), (2, .ref (am 0)), (3, .ref ao), (4, .int (nlaw n))] []) : vW p l e room_1 s mm args below meth c 9 D A (wLF c9 x.sl asl x.pa apa ao fo (wMf am c9 m)) nC nS Q (wXf ad c9 x asl apa) 3408 [(0, .ref b), (1, .ref (ad 0)), (2, .ref (am 0)), (3, .ref ao), (4, .int (nlaw n))] [] := by
  obtain ⟨ox, om, hx, hex, hm, ht, hv, hR1⟩ := hk x m hR
  refine v_aload_n X dL_law_3408 1 rfl rfl 3409 rfl ?_
  refine v_aload_n X dL_law_3409 3 rfl rfl 3410 rfl ?_
  refine v_hcallS X (S := Unit) (As := [.ref (ad 0), .ref ao]) (rest := []) (ws' := fun u => wX11 ad c9 ox.2.2.1 ox.2.2.2.1 x.i_count x.i_cells x.o_count x.o_cells x.p_start x.p_end x.p_kind x.p_value x.p_error x.p_errorAt x.p_d_time x.p_d_tolerance x.p_d_seed x.p_d_madeTickets x.p_d_cheesesOfText x.p_d_R_rows x.p_d_R_cells x.p_d_U_rows x.p_d_U_cells x.p_d_S_rows x.p_d_S_cells x.p_d_T_rows x.p_d_T_cells x.p_d_E_rows x.p_d_E_cells ox.2.2.2.2.1 ox.2.2.2.2.2.1 ox.2.2.2.2.2.2.1 ox.2.2.2.2.2.2.2.1 ox.2.2.2.2.2.2.2.2.1 ox.2.2.2.2.2.2.2.2.2.1 ox.2.2.2.2.2.2.2.2.2.2.1 ox.2.2.2.2.2.2.2.2.2.2.2.1 ox.2.2.2.2.2.2.2.2.2.2.2.2.1 ox.2.2.2.2.2.2.2.2.2.2.2.2.2.1 ox.2.2.2.2.2.2.2.2.2.2.2.2.2.2.1 ox.2.2.2.2.2.2.2.2.2.2.2.2.2.2.2.1 ox.2.2.2.2.2.2.2.2.2.2.2.2.2.2.2.2.1 ox.2.2.2.2.2.2.2.2.2.2.2.2.2.2.2.2.2.1 ox.2.2.2.2.2.2.2.2.2.2.2.2.2.2.2.2.2.2 x.sl asl x.pa apa) (F' := fun u => wLF c9 x.sl asl x.pa apa ao (hout ox.1 fo ox.2.1.toInt64) (wMf am c9 m)) (c_L_undo l hG hl0 hNC D c9 sk sv hGU ad x.nextPast x.pastCount x.i_count x.i_cells x.o_count x.o_cells x.p_start x.p_end x.p_kind x.p_value x.p_error x.p_errorAt x.p_d_time x.p_d_tolerance x.p_d_seed x.p_d_madeTickets x.p_d_cheesesOfText x.p_d_R_rows x.p_d_R_cells x.p_d_U_rows x.p_d_U_cells x.p_d_S_rows x.p_d_S_cells x.p_d_T_rows x.p_d_T_cells x.p_d_E_rows x.p_d_E_cells x.s_time x.s_tolerance x.s_seed x.s_madeTickets x.s_cheesesOfText x.s_R_rows x.s_R_cells x.s_U_rows x.s_U_cells x.s_S_rows x.s_S_cells x.s_T_rows x.s_T_cells x.s_E_rows x.s_E_cells x.sl asl x.pa apa ao fo  hx hex) 2 (gS wbd_465 wbd_466 wbd_2 wbd_467) rfl rfl rfl pd_L_undo ⟨Nat.le_of_ble_eq_true rfl, Nat.le_of_ble_eq_true rfl⟩ rfl rfl (Nat.le_of_ble_eq_true rfl) ⟨show nC + 1 ≤ 601024 by omega, show nS + 6 ≤ 7293034 by omega⟩ (fun _ => rfl) dL_law_3410 3413 rfl (fun u _ => ?_)
  refine v_istore X (lv' := [(5, .int (hcd [3] ox.1)), (0, .ref b), (1, .ref (ad 0)), (2, .ref (am 0)), (3, .ref ao), (4, .int (nlaw n))]) dL_law_3413 (by decide) rfl 3415 rfl ?_
  refine v_toM ?_
  refine v_aload_n X dL_law_3415 3 rfl rfl 3416 rfl ?_
  refine v_callVi X (C := RX12) (ci := 11) (T := TX12) (As := []) (rest := []) (ws' := wX12 am c9 om.2.1 m.m_undoStart om.2.2.1 m.m_inputLength m.m_position m.m_start m.m_token m.m_value m.m_letters m.m_code m.m_place m.m_outputLength om.2.2.2 m.m_parsed m.m_tried m.m_remembered m.m_slots m.m_kept m.m_away m.m_input m.m_halfway m.m_output) (c_X12_undo l hG D c9 am m.m_undoable m.m_undoStart m.m_thrown m.m_inputLength m.m_position m.m_start m.m_token m.m_value m.m_letters m.m_code m.m_place m.m_outputLength m.m_s m.m_parsed m.m_tried m.m_remembered m.m_slots m.m_kept m.m_away m.m_input m.m_halfway m.m_output  hm) 0 (gV wbd_468 wbd_469 wbd_470 wbd_7 wbd_471) rfl rfl rfl ⟨rfl, pd_X12_undo⟩ ⟨Nat.le_of_ble_eq_true rfl, Nat.le_of_ble_eq_true rfl⟩ 0 rfl rfl rfl rfl (Nat.le_of_ble_eq_true rfl) ⟨show nC + 1 + 0 ≤ 601024 by omega, show nS + 6 + 0 ≤ 7293034 by omega⟩ [0, 1, 2, 3, 4, 5, 6, 7, 8, 9, 10] [] [0, 1, 2, 3, 4, 5, 6, 7, 8, 9, 10] rfl rfl rfl rfl dL_law_3416 3419 rfl ?_
  refine v_istore X (lv' := [(6, .int om.1), (5, .int (hcd [3] ox.1)), (0, .ref b), (1, .ref (ad 0)), (2, .ref (am 0)), (3, .ref ao), (4, .int (nlaw n))]) dL_law_3419 (by decide) rfl 3421 rfl ?_
  refine v_aload_n X dL_law_3421 4 rfl rfl 3422 rfl ?_
  refine v_callVi X (C := RX12) (ci := 11) (T := TX12) (As := []) (rest := []) (ws' := wX12 am c9 om.2.1 m.m_undoStart om.2.2.1 m.m_inputLength m.m_position m.m_start m.m_token m.m_value m.m_letters m.m_code m.m_place m.m_outputLength om.2.2.2 m.m_parsed m.m_tried m.m_remembered m.m_slots m.m_kept m.m_away m.m_input m.m_halfway m.m_output) (c_X12_thrown l hG D c9 am om.2.1 m.m_undoStart om.2.2.1 m.m_inputLength m.m_position m.m_start m.m_token m.m_value m.m_letters m.m_code m.m_place m.m_outputLength om.2.2.2 m.m_parsed m.m_tried m.m_remembered m.m_slots m.m_kept m.m_away m.m_input m.m_halfway m.m_output  rfl) 0 (gV wbd_9 wbd_10 wbd_11 wbd_7 wbd_12) rfl rfl rfl ⟨rfl, pd_X12_thrown⟩ ⟨Nat.le_of_ble_eq_true rfl, Nat.le_of_ble_eq_true rfl⟩ 0 rfl rfl rfl rfl (Nat.le_of_ble_eq_true rfl) ⟨show nC + 1 + 0 ≤ 601024 by omega, show nS + 6 + 0 ≤ 7293034 by omega⟩ [0, 1, 2, 3, 4, 5, 6, 7, 8, 9, 10] [] [0, 1, 2, 3, 4, 5, 6, 7, 8, 9, 10] rfl rfl rfl rfl dL_law_3422 3425 rfl ?_
  refine v_iload X dL_law_3425 1 rfl 3427 rfl ?_
  refine v_icmp_eq X (tgt := 3432) dL_law_3427 rfl 3430 rfl (a := some ()) (b := none) (o := ()) (if_pos ht) (fun _ => ?_) (fun h => nomatch h)
  refine v_toX ?_
  refine v_iload X dL_law_3432 1 rfl 3434 rfl ?_
  by_cases h0 : ox.1 = 0
  · refine v_if_ne X (tgt := 3449) dL_law_3434 rfl 3437 rfl (a := none) (b := some ()) (o := ()) (if_pos (by rw [h0]; rfl)) (fun h => nomatch h) (fun _ => ?_)
    refine v_aload_n X dL_law_3437 5 rfl rfl 3438 rfl ?_
    refine v_iconst X dL_law_3438 ic_0 3439 rfl ?_
    refine v_outld X dL_law_3439 3440 rfl ?_
    refine v_iload X dL_law_3440 0 rfl 3442 rfl ?_
    refine v_i2l X dL_law_3442 3443 rfl ?_
    refine v_lcmp X dL_law_3443 3444 rfl ?_
    refine v_if_eq X (tgt := 3449) dL_law_3444 rfl 3447 rfl (a := some ()) (b := none) (o := ()) (if_pos (by rw [hout, if_pos h0, ← hv h0]; exact lg_cmp_self _)) (fun _ => ?_) (fun h => nomatch h)
    refine v_goto X (tgt := 3452) dL_law_3449 rfl ?_
    refine v_sub (lv' := [(0, .ref b), (1, .ref (ad 0)), (2, .ref (am 0)), (3, .ref ao), (4, .int (nlaw n))]) [2, 3, 4, 5, 6] rfl ?_
    exact v_widen (by omega) (by omega) (K _ _ asl apa _ hR1)
  · refine v_if_ne X (tgt := 3449) dL_law_3434 rfl 3437 rfl (a := some ()) (b := none) (o := ()) (if_neg (hcd_ne h0 (by decide))) (fun _ => ?_) (fun h => nomatch h)
    refine v_goto X (tgt := 3452) dL_law_3449 rfl ?_
    refine v_sub (lv' := [(0, .ref b), (1, .ref (ad 0)), (2, .ref (am 0)), (3, .ref ao), (4, .int (nlaw n))]) [2, 3, 4, 5, 6] rfl ?_
    exact v_widen (by omega) (by omega) (K _ _ asl apa _ hR1)
