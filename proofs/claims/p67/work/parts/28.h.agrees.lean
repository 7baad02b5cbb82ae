/-! The Hand agrees. -/
set_option maxRecDepth 100000 in
set_option maxHeartbeats 1000000 in
theorem c_agrees (l : Launch) {G : (Nat → Prop) → State → Heap → Prop} (hG : vG G) (D : va_G) (c9 : Nat → ClassId) {sk sv : Nat → Nat} (hGU : ∀ (A : Nat → Prop) (U : State) (H : Heap), G A U H → vU sk sv A U H) (hGV : ∀ (A : Nat → Prop) (U : State) (H : Heap), G A U H → vV A U H) (hl0 : l.stackTraces = false) {ha : Nat → Nat} {ta ua : Nat} {h : FH} {R S : List (Nat × Row)} {ad : Nat → Nat} {x : FX} {asl apa : Nat → Nat → Nat} {F0 : va_W} (hl : R.length ≤ 24) (hl2 : S.length ≤ 30) (hag : agR x h (R.map Prod.snd) (S.map Prod.snd)) : mH (S := Unit) l yX12_agrees (wq yX12_agrees cX12_agrees 5 (some .boolean)) { frames := 8, cells := 300, slots := 1800, locals := 133 } G D (tyA c9) [.ref (ha 0), .ref (ad 0)] (wH ha c9 ta ua h R S ++ (wHF c9 R S ((wC ad c9 x asl apa) ++ F0))) 300 1800 1 (fun _ => True) (fun _ => (wH ha c9 ta ua h R S ++ (wHF c9 R S ((wC ad c9 x asl apa) ++ F0)))) := by
  refine mJ_of hG (cc := cX12_agrees) (maxL := 5) (ty := .boolean) (by decide) rfl (Nat.le_of_ble_eq_true rfl) ?_
  intro p e s m args below meth c A X
  have X : vX p s m args meth c cX12_agrees 5 (some .boolean) RX12 (wq yX12_agrees cX12_agrees 5 (some .boolean)) D (tyA c9) G A := X
  have hov : va_AI s := (hGV A s s.heap X.2.2.2.2.2.2.2.2.2.2).2
  refine v_eq (lv2 := [(0, .ref (ha 0)), (1, .ref (ad 0))]) rfl rfl rfl rfl ?_
  refine v_aload_n X dX12_agrees_0 1 rfl rfl 1 rfl ?_
  refine q_time_1 hG D c9 hGU hGV hl0 X (val := (FH.time h)) hag.1 (Nat.le_of_ble_eq_true rfl) (by first | exact Nat.le_of_ble_eq_true rfl | omega | (dsimp only; omega)) (by first | exact Nat.le_of_ble_eq_true rfl | omega | (dsimp only; omega)) ?_
  refine v_aload_n X dX12_agrees_4 0 rfl rfl 5 rfl ?_
  refine v_get X (C := RX12) (T := TX12) (N := 14) (ci := 13) (v := _) dX12_agrees_5 (lay_of layhv_X12) 0 rfl rfl 12 (by decide) (mw whv_61) rfl rfl 8 rfl ?_
  refine v_icmp_ne X (tgt := 57) dX12_agrees_8 rfl 11 rfl (a := none) (b := some ()) (o := ()) (if_pos rfl) (fun h => nomatch h) (fun _ => ?_)
  refine v_aload_n X dX12_agrees_11 1 rfl rfl 12 rfl ?_
  refine q_seed_12 hG D c9 hGU hGV hl0 X (val := (FH.seed h)) hag.2.1 (Nat.le_of_ble_eq_true rfl) (by first | exact Nat.le_of_ble_eq_true rfl | omega | (dsimp only; omega)) (by first | exact Nat.le_of_ble_eq_true rfl | omega | (dsimp only; omega)) ?_
  refine v_aload_n X dX12_agrees_15 0 rfl rfl 16 rfl ?_
  refine v_get X (C := RX12) (T := TX12) (N := 14) (ci := 13) (v := _) dX12_agrees_16 (lay_of layhv_X12) 0 rfl rfl 11 (by decide) (mw whv_70) rfl rfl 19 rfl ?_
  refine v_icmp_ne X (tgt := 57) dX12_agrees_19 rfl 22 rfl (a := none) (b := some ()) (o := ()) (if_pos rfl) (fun h => nomatch h) (fun _ => ?_)
  refine v_aload_n X dX12_agrees_22 1 rfl rfl 23 rfl ?_
  refine q_ticketCount_23 hG D c9 hGU hGV hl0 X (val := (nI (R.map Prod.snd).length)) hag.2.2.1 (Nat.le_of_ble_eq_true rfl) (by first | exact Nat.le_of_ble_eq_true rfl | omega | (dsimp only; omega)) (by first | exact Nat.le_of_ble_eq_true rfl | omega | (dsimp only; omega)) ?_
  refine v_aload_n X dX12_agrees_26 0 rfl rfl 27 rfl ?_
  refine v_get X (C := RX12) (T := TX12) (N := 14) (ci := 13) (v := _) dX12_agrees_27 (lay_of layhv_X12) 0 rfl rfl 9 (by decide) (mw whv_0) rfl rfl 30 rfl ?_
  refine v_alen X dX12_agrees_30 9 4 rfl rfl rfl 31 rfl ?_
  refine v_icmp_ne X (tgt := 57) dX12_agrees_31 rfl 34 rfl (a := none) (b := some ()) (o := ()) (if_pos (by rw [List.length_map]; rfl)) (fun h => nomatch h) (fun _ => ?_)
  refine v_aload_n X dX12_agrees_34 1 rfl rfl 35 rfl ?_
  refine q_useCount_35 hG D c9 hGU hGV hl0 X (val := (nI (S.map Prod.snd).length)) hag.2.2.2.1 (Nat.le_of_ble_eq_true rfl) (by first | exact Nat.le_of_ble_eq_true rfl | omega | (dsimp only; omega)) (by first | exact Nat.le_of_ble_eq_true rfl | omega | (dsimp only; omega)) ?_
  refine v_aload_n X dX12_agrees_38 0 rfl rfl 39 rfl ?_
  refine v_get X (C := RX12) (T := TX12) (N := 14) (ci := 13) (v := _) dX12_agrees_39 (lay_of layhv_X12) 0 rfl rfl 10 (by decide) (mw whv_79) rfl rfl 42 rfl ?_
  refine v_alen X dX12_agrees_42 10 4 rfl rfl rfl 43 rfl ?_
  refine v_icmp_ne X (tgt := 57) dX12_agrees_43 rfl 46 rfl (a := none) (b := some ()) (o := ()) (if_pos (by rw [List.length_map]; rfl)) (fun h => nomatch h) (fun _ => ?_)
  refine v_aload_n X dX12_agrees_46 1 rfl rfl 47 rfl ?_
  refine q_validTickets_47 hG D c9 hGU hGV hl0 X (val := (hVal h (R.map Prod.snd))) hag.2.2.2.2.1 (Nat.le_of_ble_eq_true rfl) (by first | exact Nat.le_of_ble_eq_true rfl | omega | (dsimp only; omega)) (by first | exact Nat.le_of_ble_eq_true rfl | omega | (dsimp only; omega)) ?_
  refine v_aload_n X dX12_agrees_50 0 rfl rfl 51 rfl ?_
  refine v_gj X (S := Unit) (ws' := fun _ => [((ha 0), .inr (13, [.int (FH.tol h), .ref (ha 1), .ref (ha 2), .ref (ha 3), .ref (ha 4), .ref (ha 5), .ref (ha 6), .ref (ha 7), .ref (ha 8), .ref ta, .ref ua, .int (FH.seed h), .int (FH.time h), .int (FH.next h)])), ((ha 1), .inl (c9 0, 3, .inl (FH.life h))), ((ha 2), .inl (c9 0, 3, .inl (FH.again h))), ((ha 3), .inl (c9 0, 3, .inl (FH.fast h))), ((ha 4), .inl (c9 0, 3, .inl (FH.home h))), ((ha 5), .inl (c9 0, 3, .inl (FH.own h))), ((ha 6), .inl (c9 0, 3, .inl (FH.had h))), ((ha 7), .inl (c9 0, 2, .inl (FH.place h))), ((ha 8), .inl (c9 0, 2, .inl (FH.left h))), (ta, .inl (c9 4, R.length, .inr (.inr (.inr (.inr (outF R)))))), (ua, .inl (c9 4, S.length, .inr (.inr (.inr (.inr (outF S))))))]) (F' := fun _ => (wHF c9 R S ((wC ad c9 x asl apa) ++ F0))) (r_V X (C := RX12) (As := []) (rest := [.int (hVal h (R.map Prod.snd))]) (r_pc X) (c_valid l hG D c9 hGU hGV (ha := ha) (ta := ta) (ua := ua) (h := h) (R := R) (S := S) (F0 := (wC ad c9 x asl apa) ++ F0) (by omega)) 0 (gV whv_84 whv_85 whv_86 whv_87 whv_88) rfl rfl rfl ⟨rfl, by decide +kernel⟩ ⟨Nat.le_of_ble_eq_true rfl, Nat.le_of_ble_eq_true rfl⟩ (r_recv X (ci := 13) 0 rfl rfl) rfl rfl (Nat.le_of_ble_eq_true rfl) ⟨(by first | exact Nat.le_of_ble_eq_true rfl | omega | (dsimp only; omega)), (by first | exact Nat.le_of_ble_eq_true rfl | omega | (dsimp only; omega))⟩ dX12_agrees_51) (fun _ => rfl) 54 rfl (fun _ _ => ?_)
  refine v_icmp_eq X (tgt := 59) dX12_agrees_54 rfl 57 rfl (a := some ()) (b := none) (o := ()) (if_pos rfl) (fun _ => ?_) (fun h => nomatch h)
  refine v_iconst X dX12_agrees_59 ic_0 60 rfl ?_
  refine v_istore_n X (lv' := [(2, .int 0), (0, .ref (ha 0)), (1, .ref (ad 0))]) dX12_agrees_60 rfl (by decide) rfl 61 rfl ?_
  refine v_sub (lv' := [(2, .int 0), (1, .ref (ad 0)), (0, .ref (ha 0))]) [0, 2, 1] rfl ?_
  have hloop : ∀ k9 k, k + k9 = R.length → vW p l e { frames := 8, cells := 300, slots := 1800, locals := 133 } s m args below meth c 5 D A (wHF c9 R S ((wC ad c9 x asl apa) ++ F0)) (11 * k) (66 * k) (MQ below (qJ D (tyA c9) A 1 (fun (_ : Unit) => True) (fun _ => (wH ha c9 ta ua h R S ++ (wHF c9 R S ((wC ad c9 x asl apa) ++ F0))))) args s 300 1800 A) [((ha 0), .inr (13, [.int (FH.tol h), .ref (ha 1), .ref (ha 2), .ref (ha 3), .ref (ha 4), .ref (ha 5), .ref (ha 6), .ref (ha 7), .ref (ha 8), .ref ta, .ref ua, .int (FH.seed h), .int (FH.time h), .int (FH.next h)])), ((ha 1), .inl (c9 0, 3, .inl (FH.life h))), ((ha 2), .inl (c9 0, 3, .inl (FH.again h))), ((ha 3), .inl (c9 0, 3, .inl (FH.fast h))), ((ha 4), .inl (c9 0, 3, .inl (FH.home h))), ((ha 5), .inl (c9 0, 3, .inl (FH.own h))), ((ha 6), .inl (c9 0, 3, .inl (FH.had h))), ((ha 7), .inl (c9 0, 2, .inl (FH.place h))), ((ha 8), .inl (c9 0, 2, .inl (FH.left h))), (ta, .inl (c9 4, R.length, .inr (.inr (.inr (.inr (outF R)))))), (ua, .inl (c9 4, S.length, .inr (.inr (.inr (.inr (outF S))))))] 61 [(2, .int (nI k)), (1, .ref (ad 0)), (0, .ref (ha 0))] [] := by
    intro k9
    induction k9 with
    | zero =>
      intro k hk
      obtain rfl : k = R.length := by omega
      refine v_iload_n X dX12_agrees_61 0 rfl rfl 62 rfl ?_
      refine v_aload_n X dX12_agrees_62 2 rfl rfl 63 rfl ?_
      refine v_get X (C := RX12) (T := TX12) (N := 14) (ci := 13) (v := _) dX12_agrees_63 (lay_of layhv_X12) 0 rfl rfl 9 (by decide) (mw whv_0) rfl rfl 66 rfl ?_
      refine v_alen X dX12_agrees_66 9 4 rfl rfl rfl 67 rfl ?_
      refine v_icmp_ge X (tgt := 248) dX12_agrees_67 rfl 70 rfl (a := some ()) (b := none) (o := ()) (if_pos (nI_le (Nat.le_refl _) (by omega))) (fun _ => ?_) (fun h => nomatch h)
      refine v_iconst X dX12_agrees_248 ic_0 249 rfl ?_
      refine v_istore_n X (lv' := [(2, .int 0), (1, .ref (ad 0)), (0, .ref (ha 0))]) dX12_agrees_249 rfl (by decide) rfl 250 rfl ?_
      refine v_iload_n X dX12_agrees_250 0 rfl rfl 251 rfl ?_
      refine v_iconst X dX12_agrees_251 ic_3 252 rfl ?_
      refine v_icmp_ge X (tgt := 296) dX12_agrees_252 rfl 255 rfl (a := none) (b := some ()) (o := ()) (if_neg (by decide)) (fun h => nomatch h) (fun _ => ?_)
      refine v_aload_n X dX12_agrees_255 1 rfl rfl 256 rfl ?_
      refine v_iload_n X dX12_agrees_256 0 rfl rfl 257 rfl ?_
      refine q_cheesesOf_257 hG D c9 hGU hGV hl0 X (val := (FH.had h 0)) (hag.2.2.2.2.2.2.1 0 (by decide)).1 (Nat.le_of_ble_eq_true rfl) (by first | exact Nat.le_of_ble_eq_true rfl | omega | (dsimp only; omega)) (by first | exact Nat.le_of_ble_eq_true rfl | omega | (dsimp only; omega)) ?_
      refine v_aload_n X dX12_agrees_260 2 rfl rfl 261 rfl ?_
      refine v_get X (C := RX12) (T := TX12) (N := 14) (ci := 13) (v := _) dX12_agrees_261 (lay_of layhv_X12) 0 rfl rfl 6 (by decide) (mw whv_93) rfl rfl 264 rfl ?_
      refine v_iload_n X dX12_agrees_264 0 rfl rfl 265 rfl ?_
      refine v_iald X dX12_agrees_265 6 0 rfl rfl (rd_nI9 (f := (FH.had h)) (k := 0) (show 0 < 3 by decide) (by decide)) 266 rfl ?_
      refine v_icmp_ne X (tgt := 288) dX12_agrees_266 rfl 269 rfl (a := none) (b := some ()) (o := ()) (if_pos rfl) (fun h => nomatch h) (fun _ => ?_)
      refine v_aload_n X dX12_agrees_269 1 rfl rfl 270 rfl ?_
      refine v_iload_n X dX12_agrees_270 0 rfl rfl 271 rfl ?_
      refine q_clockOf_271 hG D c9 hGU hGV hl0 X (val := (FH.time h + FH.fast h 0)) (hag.2.2.2.2.2.2.1 0 (by decide)).2 (Nat.le_of_ble_eq_true rfl) (by first | exact Nat.le_of_ble_eq_true rfl | omega | (dsimp only; omega)) (by first | exact Nat.le_of_ble_eq_true rfl | omega | (dsimp only; omega)) ?_
      refine v_aload_n X dX12_agrees_274 2 rfl rfl 275 rfl ?_
      refine v_get X (C := RX12) (T := TX12) (N := 14) (ci := 13) (v := _) dX12_agrees_275 (lay_of layhv_X12) 0 rfl rfl 12 (by decide) (mw whv_61) rfl rfl 278 rfl ?_
      refine v_aload_n X dX12_agrees_278 2 rfl rfl 279 rfl ?_
      refine v_get X (C := RX12) (T := TX12) (N := 14) (ci := 13) (v := _) dX12_agrees_279 (lay_of layhv_X12) 0 rfl rfl 3 (by decide) (mw whv_98) rfl rfl 282 rfl ?_
      refine v_iload_n X dX12_agrees_282 0 rfl rfl 283 rfl ?_
      refine v_iald X dX12_agrees_283 3 0 rfl rfl (rd_nI9 (f := (FH.fast h)) (k := 0) (show 0 < 3 by decide) (by decide)) 284 rfl ?_
      refine v_iadd X dX12_agrees_284 285 rfl ?_
      refine v_icmp_eq X (tgt := 290) dX12_agrees_285 rfl 288 rfl (a := some ()) (b := none) (o := ()) (if_pos rfl) (fun _ => ?_) (fun h => nomatch h)
      refine v_iinc X (lv' := [(2, .int (0 + 1)), (1, .ref (ad 0)), (0, .ref (ha 0))]) dX12_agrees_290 0 rfl ic_1 (by decide) rfl 293 rfl ?_
      refine v_goto X (tgt := 250) dX12_agrees_293 rfl ?_
      refine v_eq (lv2 := [(2, .int 1), (1, .ref (ad 0)), (0, .ref (ha 0))]) rfl rfl rfl rfl ?_
      refine v_iload_n X dX12_agrees_250 0 rfl rfl 251 rfl ?_
      refine v_iconst X dX12_agrees_251 ic_3 252 rfl ?_
      refine v_icmp_ge X (tgt := 296) dX12_agrees_252 rfl 255 rfl (a := none) (b := some ()) (o := ()) (if_neg (by decide)) (fun h => nomatch h) (fun _ => ?_)
      refine v_aload_n X dX12_agrees_255 1 rfl rfl 256 rfl ?_
      refine v_iload_n X dX12_agrees_256 0 rfl rfl 257 rfl ?_
      refine q_cheesesOf_257 hG D c9 hGU hGV hl0 X (val := (FH.had h 1)) (hag.2.2.2.2.2.2.1 1 (by decide)).1 (Nat.le_of_ble_eq_true rfl) (by first | exact Nat.le_of_ble_eq_true rfl | omega | (dsimp only; omega)) (by first | exact Nat.le_of_ble_eq_true rfl | omega | (dsimp only; omega)) ?_
      refine v_aload_n X dX12_agrees_260 2 rfl rfl 261 rfl ?_
      refine v_get X (C := RX12) (T := TX12) (N := 14) (ci := 13) (v := _) dX12_agrees_261 (lay_of layhv_X12) 0 rfl rfl 6 (by decide) (mw whv_93) rfl rfl 264 rfl ?_
      refine v_iload_n X dX12_agrees_264 0 rfl rfl 265 rfl ?_
      refine v_iald X dX12_agrees_265 6 0 rfl rfl (rd_nI9 (f := (FH.had h)) (k := 1) (show 1 < 3 by decide) (by decide)) 266 rfl ?_
      refine v_icmp_ne X (tgt := 288) dX12_agrees_266 rfl 269 rfl (a := none) (b := some ()) (o := ()) (if_pos rfl) (fun h => nomatch h) (fun _ => ?_)
      refine v_aload_n X dX12_agrees_269 1 rfl rfl 270 rfl ?_
      refine v_iload_n X dX12_agrees_270 0 rfl rfl 271 rfl ?_
      refine q_clockOf_271 hG D c9 hGU hGV hl0 X (val := (FH.time h + FH.fast h 1)) (hag.2.2.2.2.2.2.1 1 (by decide)).2 (Nat.le_of_ble_eq_true rfl) (by first | exact Nat.le_of_ble_eq_true rfl | omega | (dsimp only; omega)) (by first | exact Nat.le_of_ble_eq_true rfl | omega | (dsimp only; omega)) ?_
      refine v_aload_n X dX12_agrees_274 2 rfl rfl 275 rfl ?_
      refine v_get X (C := RX12) (T := TX12) (N := 14) (ci := 13) (v := _) dX12_agrees_275 (lay_of layhv_X12) 0 rfl rfl 12 (by decide) (mw whv_61) rfl rfl 278 rfl ?_
      refine v_aload_n X dX12_agrees_278 2 rfl rfl 279 rfl ?_
      refine v_get X (C := RX12) (T := TX12) (N := 14) (ci := 13) (v := _) dX12_agrees_279 (lay_of layhv_X12) 0 rfl rfl 3 (by decide) (mw whv_98) rfl rfl 282 rfl ?_
      refine v_iload_n X dX12_agrees_282 0 rfl rfl 283 rfl ?_
      refine v_iald X dX12_agrees_283 3 0 rfl rfl (rd_nI9 (f := (FH.fast h)) (k := 1) (show 1 < 3 by decide) (by decide)) 284 rfl ?_
      refine v_iadd X dX12_agrees_284 285 rfl ?_
      refine v_icmp_eq X (tgt := 290) dX12_agrees_285 rfl 288 rfl (a := some ()) (b := none) (o := ()) (if_pos rfl) (fun _ => ?_) (fun h => nomatch h)
      refine v_iinc X (lv' := [(2, .int (1 + 1)), (1, .ref (ad 0)), (0, .ref (ha 0))]) dX12_agrees_290 0 rfl ic_1 (by decide) rfl 293 rfl ?_
      refine v_goto X (tgt := 250) dX12_agrees_293 rfl ?_
      refine v_eq (lv2 := [(2, .int 2), (1, .ref (ad 0)), (0, .ref (ha 0))]) rfl rfl rfl rfl ?_
      refine v_iload_n X dX12_agrees_250 0 rfl rfl 251 rfl ?_
      refine v_iconst X dX12_agrees_251 ic_3 252 rfl ?_
      refine v_icmp_ge X (tgt := 296) dX12_agrees_252 rfl 255 rfl (a := none) (b := some ()) (o := ()) (if_neg (by decide)) (fun h => nomatch h) (fun _ => ?_)
      refine v_aload_n X dX12_agrees_255 1 rfl rfl 256 rfl ?_
      refine v_iload_n X dX12_agrees_256 0 rfl rfl 257 rfl ?_
      refine q_cheesesOf_257 hG D c9 hGU hGV hl0 X (val := (FH.had h 2)) (hag.2.2.2.2.2.2.1 2 (by decide)).1 (Nat.le_of_ble_eq_true rfl) (by first | exact Nat.le_of_ble_eq_true rfl | omega | (dsimp only; omega)) (by first | exact Nat.le_of_ble_eq_true rfl | omega | (dsimp only; omega)) ?_
      refine v_aload_n X dX12_agrees_260 2 rfl rfl 261 rfl ?_
      refine v_get X (C := RX12) (T := TX12) (N := 14) (ci := 13) (v := _) dX12_agrees_261 (lay_of layhv_X12) 0 rfl rfl 6 (by decide) (mw whv_93) rfl rfl 264 rfl ?_
      refine v_iload_n X dX12_agrees_264 0 rfl rfl 265 rfl ?_
      refine v_iald X dX12_agrees_265 6 0 rfl rfl (rd_nI9 (f := (FH.had h)) (k := 2) (show 2 < 3 by decide) (by decide)) 266 rfl ?_
      refine v_icmp_ne X (tgt := 288) dX12_agrees_266 rfl 269 rfl (a := none) (b := some ()) (o := ()) (if_pos rfl) (fun h => nomatch h) (fun _ => ?_)
      refine v_aload_n X dX12_agrees_269 1 rfl rfl 270 rfl ?_
      refine v_iload_n X dX12_agrees_270 0 rfl rfl 271 rfl ?_
      refine q_clockOf_271 hG D c9 hGU hGV hl0 X (val := (FH.time h + FH.fast h 2)) (hag.2.2.2.2.2.2.1 2 (by decide)).2 (Nat.le_of_ble_eq_true rfl) (by first | exact Nat.le_of_ble_eq_true rfl | omega | (dsimp only; omega)) (by first | exact Nat.le_of_ble_eq_true rfl | omega | (dsimp only; omega)) ?_
      refine v_aload_n X dX12_agrees_274 2 rfl rfl 275 rfl ?_
      refine v_get X (C := RX12) (T := TX12) (N := 14) (ci := 13) (v := _) dX12_agrees_275 (lay_of layhv_X12) 0 rfl rfl 12 (by decide) (mw whv_61) rfl rfl 278 rfl ?_
      refine v_aload_n X dX12_agrees_278 2 rfl rfl 279 rfl ?_
      refine v_get X (C := RX12) (T := TX12) (N := 14) (ci := 13) (v := _) dX12_agrees_279 (lay_of layhv_X12) 0 rfl rfl 3 (by decide) (mw whv_98) rfl rfl 282 rfl ?_
      refine v_iload_n X dX12_agrees_282 0 rfl rfl 283 rfl ?_
      refine v_iald X dX12_agrees_283 3 0 rfl rfl (rd_nI9 (f := (FH.fast h)) (k := 2) (show 2 < 3 by decide) (by decide)) 284 rfl ?_
      refine v_iadd X dX12_agrees_284 285 rfl ?_
      refine v_icmp_eq X (tgt := 290) dX12_agrees_285 rfl 288 rfl (a := some ()) (b := none) (o := ()) (if_pos rfl) (fun _ => ?_) (fun h => nomatch h)
      refine v_iinc X (lv' := [(2, .int (2 + 1)), (1, .ref (ad 0)), (0, .ref (ha 0))]) dX12_agrees_290 0 rfl ic_1 (by decide) rfl 293 rfl ?_
      refine v_goto X (tgt := 250) dX12_agrees_293 rfl ?_
      refine v_eq (lv2 := [(2, .int 3), (1, .ref (ad 0)), (0, .ref (ha 0))]) rfl rfl rfl rfl ?_
      refine v_iload_n X dX12_agrees_250 0 rfl rfl 251 rfl ?_
      refine v_iconst X dX12_agrees_251 ic_3 252 rfl ?_
      refine v_icmp_ge X (tgt := 296) dX12_agrees_252 rfl 255 rfl (a := some ()) (b := none) (o := ()) (if_pos (by decide)) (fun _ => ?_) (fun h => nomatch h)
      refine v_aload_n X dX12_agrees_296 1 rfl rfl 297 rfl ?_
      refine v_iconst X dX12_agrees_297 ic_0 298 rfl ?_
      refine q_cheesesLeft_298 hG D c9 hGU hGV hl0 X (val := (FH.left h 0)) hag.2.2.2.2.2.2.2.1 (Nat.le_of_ble_eq_true rfl) (by first | exact Nat.le_of_ble_eq_true rfl | omega | (dsimp only; omega)) (by first | exact Nat.le_of_ble_eq_true rfl | omega | (dsimp only; omega)) ?_
      refine v_aload_n X dX12_agrees_301 2 rfl rfl 302 rfl ?_
      refine v_get X (C := RX12) (T := TX12) (N := 14) (ci := 13) (v := _) dX12_agrees_302 (lay_of layhv_X12) 0 rfl rfl 8 (by decide) (mw whv_103) rfl rfl 305 rfl ?_
      refine v_iconst X dX12_agrees_305 ic_0 306 rfl ?_
      refine v_iald X dX12_agrees_306 8 0 rfl rfl (rd_nI9 (f := (FH.left h)) (k := 0) (show 0 < 2 by decide) (by decide)) 307 rfl ?_
      refine v_icmp_ne X (tgt := 328) dX12_agrees_307 rfl 310 rfl (a := none) (b := some ()) (o := ()) (if_pos rfl) (fun h => nomatch h) (fun _ => ?_)
      refine v_aload_n X dX12_agrees_310 1 rfl rfl 311 rfl ?_
      refine v_iconst X dX12_agrees_311 ic_1 312 rfl ?_
      refine q_cheesesLeft_312 hG D c9 hGU hGV hl0 X (val := (FH.left h 1)) hag.2.2.2.2.2.2.2.2 (Nat.le_of_ble_eq_true rfl) (by first | exact Nat.le_of_ble_eq_true rfl | omega | (dsimp only; omega)) (by first | exact Nat.le_of_ble_eq_true rfl | omega | (dsimp only; omega)) ?_
      refine v_aload_n X dX12_agrees_315 2 rfl rfl 316 rfl ?_
      refine v_get X (C := RX12) (T := TX12) (N := 14) (ci := 13) (v := _) dX12_agrees_316 (lay_of layhv_X12) 0 rfl rfl 8 (by decide) (mw whv_103) rfl rfl 319 rfl ?_
      refine v_iconst X dX12_agrees_319 ic_1 320 rfl ?_
      refine v_iald X dX12_agrees_320 8 0 rfl rfl (rd_nI9 (f := (FH.left h)) (k := 1) (show 1 < 2 by decide) (by decide)) 321 rfl ?_
      refine v_icmp_ne X (tgt := 328) dX12_agrees_321 rfl 324 rfl (a := none) (b := some ()) (o := ()) (if_pos rfl) (fun h => nomatch h) (fun _ => ?_)
      refine v_iconst X dX12_agrees_324 ic_1 325 rfl ?_
      refine v_goto X (tgt := 329) dX12_agrees_325 rfl ?_
      exact v_jzret () trivial rfl rfl (List.Perm.refl _) X (by first | exact Nat.le_of_ble_eq_true rfl | omega | (dsimp only; omega)) (by first | exact Nat.le_of_ble_eq_true rfl | omega | (dsimp only; omega)) dX12_agrees_329
    | succ k9 ih =>
      intro k hk
      obtain ⟨⟨b1, g1⟩, h1⟩ : ∃ x, R[k]? = some x := ⟨_, List.getElem?_eq_getElem (by omega)⟩
      exact g_turn hG D c9 hGU hGV hl0 X hl (by omega) h1 (hag.2.2.2.2.2.1 k g1 (by rw [List.getElem?_map, h1]; rfl)) (by omega) (by omega) (v_widen (by omega) (by omega) (ih (k + 1) (by omega)))
  refine v_eq (lv2 := [(2, .int (nI 0)), (1, .ref (ad 0)), (0, .ref (ha 0))]) rfl rfl rfl rfl (v_widen (by omega) (by omega) (hloop R.length 0 (by omega)))
